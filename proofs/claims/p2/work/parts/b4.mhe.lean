section ZMe4
variable {G : z_G} {l : Launch}
set_option maxRecDepth 100000 in
set_option maxHeartbeats 8000000 in
theorem cx_copy (hl : l.stackTraces = false) (w : z_W) (S : sp_S) (s : z_Z) (r : Int32) (h : z_mst w s) (R : sp_MR S s)  : z_Con G l mX11_copy 22 2 15 w [.ref 1000, .int r] (fun v w9 => ∃ (r9 : Int32) (s9 : z_Z), v = some (.int r9) ∧ z_fm 59 w w9 ∧ z_mst w9 s9 ∧ s9.1.1 = q_k2 r ∧ sp_MR (if q_k2 r = 0 then sp_uR S (sp_i r) (sp_R S (1 - sp_i r)) else S) s9 ∧ (q_k2 r = 0 → r9 = nI (sp_R S (1 - sp_i r)).length)) (fun _ _ => False) := by
  generalize hQ9 : (fun (v : Option Value) (w9 : z_W) => ∃ (r9 : Int32) (s9 : z_Z), v = some (.int r9) ∧ z_fm 59 w w9 ∧ z_mst w9 s9 ∧ s9.1.1 = q_k2 r ∧ sp_MR (if q_k2 r = 0 then sp_uR S (sp_i r) (sp_R S (1 - sp_i r)) else S) s9 ∧ (q_k2 r = 0 → r9 = nI (sp_R S (1 - sp_i r)).length)) = Q9
  refine z_body hl (by decide) rfl (Nat.le_of_ble_eq_true rfl) ?_
  show z_J G l mX11_copy _ 0 [(0, _), (1, _)] [] _ 0 0
  refine j_aload_n dX11_copy_0 rfl rfl ?_
  refine j_iload_n dX11_copy_1 rfl ?_
  refine j_callS dX11_copy_2 kX11_isNoTwo lX11_72 stX11_isNoTwo (cm_isNoTwo_r hl w _) (Nat.le_of_ble_eq_true rfl) ⟨(Nat.le_of_ble_eq_true rfl), (Nat.le_of_ble_eq_true rfl)⟩ rfl (Nat.le_of_ble_eq_true rfl) rfl rfl (fun _ _ h => h.elim) ?_
  rintro _ _ ⟨⟨rfl, hno271⟩ | ⟨rfl, i271, hi271, ht271, rfl⟩, hw271⟩
  · refine j_w w hw271 ?_
    refine j_iconst (v := 1) dX11_copy_5 (by decide) ?_
    refine j_callV (q := (RX11, TX11, 8)) dX11_copy_6 kX11_start lX11_76 inX11_start seX11_start h.m rfl (cm_start1 hl w _ _ h (by decide)) (Nat.le_of_ble_eq_true rfl) ⟨(Nat.le_of_ble_eq_true rfl), (Nat.le_of_ble_eq_true rfl)⟩ rfl (Nat.le_of_ble_eq_true rfl) rfl rfl (fun _ _ h => h.elim) ?_
    rintro _ w1 ⟨rfl, fm1, h1⟩
    have R1 := R.th (k := 1)
    refine j_if_eq (tgt := 14) dX11_copy_9 (by decide) (fun c_9_11 => ?_) (fun c_9_11 => ?_)
    · exact absurd c_9_11 (by decide)
    · refine j_iconst (v := 0) dX11_copy_12 (by decide) ?_
      refine j_iret dX11_copy_13 rfl rfl ?_ (Nat.le_of_ble_eq_true rfl) (Nat.le_of_ble_eq_true rfl)
      refine cast (congrFun (congrFun hQ9 _) _) ?_
      refine ⟨_, _, rfl, (fm1.le (q' := 59) (by decide)), h1, sp_X1 (k := 1) ?_ (by decide) rfl R1⟩
      (first | (refine sp_k2_1 ?_ <;> (first | assumption | (refine Or.inl ?_; assumption) | (refine Or.inr ?_; assumption) | (refine Or.inr (Or.inl ?_); assumption) | (refine Or.inr (Or.inr ?_); assumption) | (refine Or.inr (Or.inr (Or.inl ?_)); assumption) | (refine Or.inr (Or.inr (Or.inr ?_)); assumption) | (refine fun z => Or.elim z ?_ ?_ <;> assumption) | (refine fun z => Or.elim z ?_ (fun z => Or.elim z ?_ ?_) <;> assumption) | (refine fun z => Or.elim z ?_ (fun z => Or.elim z ?_ (fun z => Or.elim z ?_ ?_)) <;> assumption) | (refine fun z => Or.elim z (fun z9 => z9 ?_) ?_ <;> (first | assumption | (refine Or.inl ?_; assumption) | (refine Or.inr (Or.inl ?_); assumption) | (refine Or.inr (Or.inr ?_); assumption) | (refine Or.inr (Or.inr (Or.inl ?_)); assumption) | (refine Or.inr (Or.inr (Or.inr ?_)); assumption))) | (refine Or.inl (fun z => Or.elim z ?_ (fun z => Or.elim z ?_ ?_)) <;> assumption) | (refine Or.inl (fun z => Or.elim z ?_ (fun z => Or.elim z ?_ (fun z => Or.elim z ?_ ?_))) <;> assumption))))
  · refine j_w w hw271 ?_
    have ei271 : sp_i (nI i271) = i271 := sp_in' (by omega)
    refine j_iconst (v := 1) dX11_copy_5 (by decide) ?_
    refine j_callV (q := (RX11, TX11, 8)) dX11_copy_6 kX11_start lX11_76 inX11_start seX11_start h.m rfl (cm_start0 hl w _ _ h) (Nat.le_of_ble_eq_true rfl) ⟨(Nat.le_of_ble_eq_true rfl), (Nat.le_of_ble_eq_true rfl)⟩ rfl (Nat.le_of_ble_eq_true rfl) rfl rfl (fun _ _ h => h.elim) ?_
    rintro _ w2 ⟨rfl, fm2, h2⟩
    have R2 := R.th (k := 0)
    refine j_if_eq (tgt := 14) dX11_copy_9 (by decide) (fun c_9_24 => ?_) (fun c_9_24 => ?_)
    · refine j_aload_n dX11_copy_14 rfl rfl ?_
      refine j_getf dX11_copy_15 fX11_21 h2.m rfl ?_
      refine j_iload_n dX11_copy_18 rfl ?_
      obtain ⟨x1, hx1a, hx1b, hx1c⟩ := z_fresh (11 + i271) (by omega) h2.fn
      refine j_new (w' := _) (n := x1) dX11_copy_19 nX11_18 rfl (z_alW hx1c hx1a) (Nat.le_of_ble_eq_true rfl) (Nat.le_of_ble_eq_true rfl) ?_
      refine j_seal hx1a ?_
      intro w3 u3
      have hx3 : ∀ (k : Nat) (e : z_E), z_g w2 k = some e → z_g w3 k = some e := fun k e hk => (u3.2.1 k (z_neF hx1c hk)).trans ((fun _ _ z => z) k e hk)
      have fw3 := u3.fw hx1a hx1b
      have h3 := h2.mono hx3 (u3.2.2.2 h2.fn)
      refine j_dup dX11_copy_22 rfl ?_
      refine j_aload_n dX11_copy_23 rfl rfl ?_
      refine j_getf dX11_copy_24 fX11_21 h3.m rfl ?_
      refine j_iconst (v := 1) dX11_copy_27 (by decide) ?_
      refine j_iload_n dX11_copy_28 rfl ?_
      refine j_isub dX11_copy_29 ?_
      refine j_top (congrArg Value.int (show (1 : Int32) - nI i271 = nI (1 - i271) from pk_sub (a := 1) (b := i271) (by omega))) ?_
      obtain ⟨lv273, -, lg273⟩ := z_li.cell h3.rows
      refine j_callV (q := (RJx4a65c, TJx4a65c, 3)) dX11_copy_30 kJx4a65c_get_915e3 lX11_82 inJx4a65c_get_915e3 seJx4a65c_get_915e3 lg273 rfl (cl_get hl w3 41 1001 _ _ ((1 - i271)) _ h3.rows (z_two2 (i := (1 - i271)) (by omega))) (Nat.le_of_ble_eq_true rfl) ⟨(Nat.le_of_ble_eq_true rfl), (Nat.le_of_ble_eq_true rfl)⟩ rfl (Nat.le_of_ble_eq_true rfl) rfl rfl (fun _ _ h => h.elim) ?_
      rintro _ _ ⟨rfl, hw274⟩
      refine j_w w3 hw274 ?_
      refine j_castY (C := "java/util/ArrayList") (nm := "java/util/Collection") dX11_copy_33 (z_w 1616 ((lwg_7 131).trans (by decide +kernel)) (by decide +kernel)) (z_wn 1624 ((lwg_7 139).trans (by decide +kernel)) (by decide +kernel)) (z_li.is (h3.rw (i := (1 - i271)) (by omega)).1) ?_
      refine j_callI dX11_copy_36 kJx4a65c_init_4bcb3 rfl lX11_125 inJx4a65c_init_4bcb3 rfl (cl_initC hl w3 (11 + i271) (11 + (1 - i271)) x1 _ 12 _ _ hx1a hx1b u3.1 (h3.rw (i := (1 - i271)) (by omega)).1 (by omega) (fun z => by have h9 := (h3.rw (i := (1 - i271)) (by omega)).1.2.1; rw [z, hx1b] at h9; omega) (by omega) h3.fn (by rw [z_bx_len]; exact (h3.rw (i := (1 - i271)) (by omega)).2) (by decide) z_bx_fl) (Nat.le_of_ble_eq_true rfl) ⟨(Nat.le_of_ble_eq_true rfl), (Nat.le_of_ble_eq_true rfl)⟩ rfl (Nat.le_of_ble_eq_true rfl) rfl rfl (fun _ _ h => h.elim) ?_
      rintro _ w4 ⟨rfl, fw4, hr4⟩
      have gm4 := fw4.g (Or.inr (by omega)) h3.m
      have hrows4 := h3.rows.fw fw4 (by omega)
      obtain ⟨lv276, -, lg276⟩ := z_li.cell hrows4
      refine j_callV (q := (RJx4a65c, TJx4a65c, 3)) dX11_copy_39 kJx4a65c_set_bcc79 lX11_119 inJx4a65c_set_bcc79 seJx4a65c_set_bcc79 lg276 rfl (cl_set hl w4 41 1001 _ _ (i271) _ (.ref x1) hrows4 (z_two2 (f := (z_qr s).2) (i := i271) (by omega)) ⟨Or.inr ⟨x1, rfl, Or.inr (show x1 % 64 ≠ 41 by omega)⟩, "java/util/ArrayList", hr4.is, (z_wn 1984 ((lwg_9 19).trans (by decide +kernel)) (by decide +kernel))⟩) (Nat.le_of_ble_eq_true rfl) ⟨(Nat.le_of_ble_eq_true rfl), (Nat.le_of_ble_eq_true rfl)⟩ rfl (Nat.le_of_ble_eq_true rfl) rfl rfl (fun _ _ h => h.elim) ?_
      rintro _ w5 ⟨rfl, fw5, hr5⟩
      have h5 := h3.cp (i0 := i271) (by omega) fw4 fw5 hr5 hr4 (h3.rw (i := 1 - i271) (by omega)).2
      have fm5 : z_fm 56 _ w5 := (fw4.fm (by omega)).tr (fw5.fm (by omega))
      have R5 := R2.cpm h5 (L := sp_R S (1 - i271)) (R2.w (by omega))
      refine j_pop dX11_copy_42 rfl ?_
      refine j_aload_n dX11_copy_43 rfl rfl ?_
      refine j_getf dX11_copy_44 fX11_21 h5.m rfl ?_
      refine j_iload_n dX11_copy_47 rfl ?_
      obtain ⟨lv278, -, lg278⟩ := z_li.cell h5.rows
      refine j_callV (q := (RJx4a65c, TJx4a65c, 3)) dX11_copy_48 kJx4a65c_get_915e3 lX11_82 inJx4a65c_get_915e3 seJx4a65c_get_915e3 lg278 rfl (cl_get hl w5 41 1001 _ _ (i271) _ h5.rows (z_two2 (i := i271) (by omega))) (Nat.le_of_ble_eq_true rfl) ⟨(Nat.le_of_ble_eq_true rfl), (Nat.le_of_ble_eq_true rfl)⟩ rfl (Nat.le_of_ble_eq_true rfl) rfl rfl (fun _ _ h => h.elim) ?_
      rintro _ _ ⟨rfl, hw279⟩
      refine j_w w5 hw279 ?_
      refine j_castS dX11_copy_51 (z_w 1341 ((lwg_6 96).trans (by decide +kernel)) (by decide +kernel)) (z_li.is (h5.rw (i := i271) (by omega)).1) ?_
      obtain ⟨lv281, -, lg281⟩ := z_li.cell (h5.rw (i := i271) (by omega)).1
      refine j_callV (q := (RJx4a65c, TJx4a65c, 3)) dX11_copy_54 kJx4a65c_size_8abf5 lX11_86 inJx4a65c_size_8abf5 seJx4a65c_size_8abf5 lg281 rfl (cl_sizeW hl w5 (i271) ((sp_R S (1 - i271))) h5 R5 (by omega) z_fu_self) (Nat.le_of_ble_eq_true rfl) ⟨(Nat.le_of_ble_eq_true rfl), (Nat.le_of_ble_eq_true rfl)⟩ rfl (Nat.le_of_ble_eq_true rfl) rfl rfl (fun _ _ h => h.elim) ?_
      rintro _ _ ⟨rfl, hw282⟩
      refine j_w w5 hw282 ?_
      have hz282 : ((sp_R S (1 - i271))).length ≤ 12 := R5.l12 h5 (i := i271) (by omega) z_fu_self
      refine j_iret dX11_copy_57 rfl rfl ?_ (Nat.le_of_ble_eq_true rfl) (Nat.le_of_ble_eq_true rfl)
      refine cast (congrFun (congrFun hQ9 _) _) ?_
      try rw [ei271]
      refine ⟨_, _, rfl, (((fm2.le (q' := 59) (by decide)).tr (fw3.fm (q := 59) (by omega))).tr (fm5.le (q' := 59) (by decide))), h5, sp_X0 ?_ rfl R5 rfl⟩
      (first | (refine sp_k2_0 ?_ <;> (first | assumption | (refine Or.inl ?_; assumption) | (refine Or.inr ?_; assumption) | (refine Or.inr (Or.inl ?_); assumption) | (refine Or.inr (Or.inr ?_); assumption) | (refine Or.inr (Or.inr (Or.inl ?_)); assumption) | (refine Or.inr (Or.inr (Or.inr ?_)); assumption) | (refine fun z => Or.elim z ?_ ?_ <;> assumption) | (refine fun z => Or.elim z ?_ (fun z => Or.elim z ?_ ?_) <;> assumption) | (refine fun z => Or.elim z ?_ (fun z => Or.elim z ?_ (fun z => Or.elim z ?_ ?_)) <;> assumption) | (refine fun z => Or.elim z (fun z9 => z9 ?_) ?_ <;> (first | assumption | (refine Or.inl ?_; assumption) | (refine Or.inr (Or.inl ?_); assumption) | (refine Or.inr (Or.inr ?_); assumption) | (refine Or.inr (Or.inr (Or.inl ?_)); assumption) | (refine Or.inr (Or.inr (Or.inr ?_)); assumption))) | (refine Or.inl (fun z => Or.elim z ?_ (fun z => Or.elim z ?_ ?_)) <;> assumption) | (refine Or.inl (fun z => Or.elim z ?_ (fun z => Or.elim z ?_ (fun z => Or.elim z ?_ ?_))) <;> assumption))))
    · exact absurd c_9_24 (by decide)
set_option maxRecDepth 100000 in
set_option maxHeartbeats 8000000 in
theorem cx_length (hl : l.stackTraces = false) (w : z_W) (S : sp_S) (s : z_Z) (r : Int32) (h : z_mst w s) (R : sp_MR S s)  : z_Con G l mX11_length 20 0 0 w [.ref 1000, .int r] (fun v w9 => ∃ (r9 : Int32) (s9 : z_Z), v = some (.int r9) ∧ z_fm 59 w w9 ∧ z_mst w9 s9 ∧ s9.1.1 = q_k2 r ∧ sp_MR (if q_k2 r = 0 then S else S) s9 ∧ (q_k2 r = 0 → r9 = nI (sp_R S (sp_i r)).length)) (fun _ _ => False) := by
  generalize hQ9 : (fun (v : Option Value) (w9 : z_W) => ∃ (r9 : Int32) (s9 : z_Z), v = some (.int r9) ∧ z_fm 59 w w9 ∧ z_mst w9 s9 ∧ s9.1.1 = q_k2 r ∧ sp_MR (if q_k2 r = 0 then S else S) s9 ∧ (q_k2 r = 0 → r9 = nI (sp_R S (sp_i r)).length)) = Q9
  refine z_body hl (by decide) rfl (Nat.le_of_ble_eq_true rfl) ?_
  show z_J G l mX11_length _ 0 [(0, _), (1, _)] [] _ 0 0
  refine j_aload_n dX11_length_0 rfl rfl ?_
  refine j_iload_n dX11_length_1 rfl ?_
  refine j_callS dX11_length_2 kX11_isNoTwo lX11_72 stX11_isNoTwo (cm_isNoTwo_r hl w _) (Nat.le_of_ble_eq_true rfl) ⟨(Nat.le_of_ble_eq_true rfl), (Nat.le_of_ble_eq_true rfl)⟩ rfl (Nat.le_of_ble_eq_true rfl) rfl rfl (fun _ _ h => h.elim) ?_
  rintro _ _ ⟨⟨rfl, hno283⟩ | ⟨rfl, i283, hi283, ht283, rfl⟩, hw283⟩
  · refine j_w w hw283 ?_
    refine j_iconst (v := 1) dX11_length_5 (by decide) ?_
    refine j_callV (q := (RX11, TX11, 8)) dX11_length_6 kX11_start lX11_76 inX11_start seX11_start h.m rfl (cm_start1 hl w _ _ h (by decide)) (Nat.le_of_ble_eq_true rfl) ⟨(Nat.le_of_ble_eq_true rfl), (Nat.le_of_ble_eq_true rfl)⟩ rfl (Nat.le_of_ble_eq_true rfl) rfl rfl (fun _ _ h => h.elim) ?_
    rintro _ w1 ⟨rfl, fm1, h1⟩
    have R1 := R.th (k := 1)
    refine j_if_eq (tgt := 16) dX11_length_9 (by decide) (fun c_9_11 => ?_) (fun c_9_11 => ?_)
    · exact absurd c_9_11 (by decide)
    · refine j_iconst (v := 0) dX11_length_12 (by decide) ?_
      refine j_goto (tgt := 30) dX11_length_13 (by decide) ?_
      refine j_iret dX11_length_30 rfl rfl ?_ (Nat.le_of_ble_eq_true rfl) (Nat.le_of_ble_eq_true rfl)
      refine cast (congrFun (congrFun hQ9 _) _) ?_
      refine ⟨_, _, rfl, (fm1.le (q' := 59) (by decide)), h1, sp_X1 (k := 1) ?_ (by decide) rfl R1⟩
      (first | (refine sp_k2_1 ?_ <;> (first | assumption | (refine Or.inl ?_; assumption) | (refine Or.inr ?_; assumption) | (refine Or.inr (Or.inl ?_); assumption) | (refine Or.inr (Or.inr ?_); assumption) | (refine Or.inr (Or.inr (Or.inl ?_)); assumption) | (refine Or.inr (Or.inr (Or.inr ?_)); assumption) | (refine fun z => Or.elim z ?_ ?_ <;> assumption) | (refine fun z => Or.elim z ?_ (fun z => Or.elim z ?_ ?_) <;> assumption) | (refine fun z => Or.elim z ?_ (fun z => Or.elim z ?_ (fun z => Or.elim z ?_ ?_)) <;> assumption) | (refine fun z => Or.elim z (fun z9 => z9 ?_) ?_ <;> (first | assumption | (refine Or.inl ?_; assumption) | (refine Or.inr (Or.inl ?_); assumption) | (refine Or.inr (Or.inr ?_); assumption) | (refine Or.inr (Or.inr (Or.inl ?_)); assumption) | (refine Or.inr (Or.inr (Or.inr ?_)); assumption))) | (refine Or.inl (fun z => Or.elim z ?_ (fun z => Or.elim z ?_ ?_)) <;> assumption) | (refine Or.inl (fun z => Or.elim z ?_ (fun z => Or.elim z ?_ (fun z => Or.elim z ?_ ?_))) <;> assumption))))
  · refine j_w w hw283 ?_
    have ei283 : sp_i (nI i283) = i283 := sp_in' (by omega)
    refine j_iconst (v := 1) dX11_length_5 (by decide) ?_
    refine j_callV (q := (RX11, TX11, 8)) dX11_length_6 kX11_start lX11_76 inX11_start seX11_start h.m rfl (cm_start0 hl w _ _ h) (Nat.le_of_ble_eq_true rfl) ⟨(Nat.le_of_ble_eq_true rfl), (Nat.le_of_ble_eq_true rfl)⟩ rfl (Nat.le_of_ble_eq_true rfl) rfl rfl (fun _ _ h => h.elim) ?_
    rintro _ w2 ⟨rfl, fm2, h2⟩
    have R2 := R.th (k := 0)
    refine j_if_eq (tgt := 16) dX11_length_9 (by decide) (fun c_9_25 => ?_) (fun c_9_25 => ?_)
    · refine j_aload_n dX11_length_16 rfl rfl ?_
      refine j_getf dX11_length_17 fX11_21 h2.m rfl ?_
      refine j_iload_n dX11_length_20 rfl ?_
      obtain ⟨lv285, -, lg285⟩ := z_li.cell h2.rows
      refine j_callV (q := (RJx4a65c, TJx4a65c, 3)) dX11_length_21 kJx4a65c_get_915e3 lX11_82 inJx4a65c_get_915e3 seJx4a65c_get_915e3 lg285 rfl (cl_get hl w2 41 1001 _ _ (i283) _ h2.rows (z_two2 (i := i283) (by omega))) (Nat.le_of_ble_eq_true rfl) ⟨(Nat.le_of_ble_eq_true rfl), (Nat.le_of_ble_eq_true rfl)⟩ rfl (Nat.le_of_ble_eq_true rfl) rfl rfl (fun _ _ h => h.elim) ?_
      rintro _ _ ⟨rfl, hw286⟩
      refine j_w w2 hw286 ?_
      refine j_castS dX11_length_24 (z_w 1341 ((lwg_6 96).trans (by decide +kernel)) (by decide +kernel)) (z_li.is (h2.rw (i := i283) (by omega)).1) ?_
      obtain ⟨lv288, -, lg288⟩ := z_li.cell (h2.rw (i := i283) (by omega)).1
      refine j_callV (q := (RJx4a65c, TJx4a65c, 3)) dX11_length_27 kJx4a65c_size_8abf5 lX11_86 inJx4a65c_size_8abf5 seJx4a65c_size_8abf5 lg288 rfl (cl_sizeW hl w2 (i283) (sp_R S (i283)) h2 R2 (by omega) rfl) (Nat.le_of_ble_eq_true rfl) ⟨(Nat.le_of_ble_eq_true rfl), (Nat.le_of_ble_eq_true rfl)⟩ rfl (Nat.le_of_ble_eq_true rfl) rfl rfl (fun _ _ h => h.elim) ?_
      rintro _ _ ⟨rfl, hw289⟩
      refine j_w w2 hw289 ?_
      have hz289 : (sp_R S (i283)).length ≤ 12 := R2.l12 h2 (i := i283) (by omega) rfl
      refine j_iret dX11_length_30 rfl rfl ?_ (Nat.le_of_ble_eq_true rfl) (Nat.le_of_ble_eq_true rfl)
      refine cast (congrFun (congrFun hQ9 _) _) ?_
      try rw [ei283]
      refine ⟨_, _, rfl, (fm2.le (q' := 59) (by decide)), h2, sp_X0 ?_ rfl R2 rfl⟩
      (first | (refine sp_k2_0 ?_ <;> (first | assumption | (refine Or.inl ?_; assumption) | (refine Or.inr ?_; assumption) | (refine Or.inr (Or.inl ?_); assumption) | (refine Or.inr (Or.inr ?_); assumption) | (refine Or.inr (Or.inr (Or.inl ?_)); assumption) | (refine Or.inr (Or.inr (Or.inr ?_)); assumption) | (refine fun z => Or.elim z ?_ ?_ <;> assumption) | (refine fun z => Or.elim z ?_ (fun z => Or.elim z ?_ ?_) <;> assumption) | (refine fun z => Or.elim z ?_ (fun z => Or.elim z ?_ (fun z => Or.elim z ?_ ?_)) <;> assumption) | (refine fun z => Or.elim z (fun z9 => z9 ?_) ?_ <;> (first | assumption | (refine Or.inl ?_; assumption) | (refine Or.inr (Or.inl ?_); assumption) | (refine Or.inr (Or.inr ?_); assumption) | (refine Or.inr (Or.inr (Or.inl ?_)); assumption) | (refine Or.inr (Or.inr (Or.inr ?_)); assumption))) | (refine Or.inl (fun z => Or.elim z ?_ (fun z => Or.elim z ?_ ?_)) <;> assumption) | (refine Or.inl (fun z => Or.elim z ?_ (fun z => Or.elim z ?_ (fun z => Or.elim z ?_ ?_))) <;> assumption))))
    · exact absurd c_9_25 (by decide)
set_option maxRecDepth 100000 in
set_option maxHeartbeats 8000000 in
theorem cx_at (hl : l.stackTraces = false) (w : z_W) (S : sp_S) (s : z_Z) (r : Int32) (p : Int32) (h : z_mst w s) (R : sp_MR S s)  : z_Con G l mX11_at 20 0 0 w [.ref 1000, .int r, .int p] (fun v w9 => ∃ (r9 : Int32) (s9 : z_Z), v = some (.int r9) ∧ z_fm 59 w w9 ∧ z_mst w9 s9 ∧ s9.1.1 = sp_k21 r (p < 0 ∨ nI (sp_R S (sp_i r)).length - 1 < p) ∧ sp_MR (if sp_k21 r (p < 0 ∨ nI (sp_R S (sp_i r)).length - 1 < p) = 0 then S else S) s9 ∧ (sp_k21 r (p < 0 ∨ nI (sp_R S (sp_i r)).length - 1 < p) = 0 → r9 = ((sp_R S (sp_i r))[sp_i p]?).getD 0)) (fun _ _ => False) := by
  generalize hQ9 : (fun (v : Option Value) (w9 : z_W) => ∃ (r9 : Int32) (s9 : z_Z), v = some (.int r9) ∧ z_fm 59 w w9 ∧ z_mst w9 s9 ∧ s9.1.1 = sp_k21 r (p < 0 ∨ nI (sp_R S (sp_i r)).length - 1 < p) ∧ sp_MR (if sp_k21 r (p < 0 ∨ nI (sp_R S (sp_i r)).length - 1 < p) = 0 then S else S) s9 ∧ (sp_k21 r (p < 0 ∨ nI (sp_R S (sp_i r)).length - 1 < p) = 0 → r9 = ((sp_R S (sp_i r))[sp_i p]?).getD 0)) = Q9
  refine z_body hl (by decide) rfl (Nat.le_of_ble_eq_true rfl) ?_
  show z_J G l mX11_at _ 0 [(0, _), (1, _), (2, _)] [] _ 0 0
  refine j_aload_n dX11_at_0 rfl rfl ?_
  refine j_iload_n dX11_at_1 rfl ?_
  refine j_callS dX11_at_2 kX11_isNoTwo lX11_72 stX11_isNoTwo (cm_isNoTwo_r hl w _) (Nat.le_of_ble_eq_true rfl) ⟨(Nat.le_of_ble_eq_true rfl), (Nat.le_of_ble_eq_true rfl)⟩ rfl (Nat.le_of_ble_eq_true rfl) rfl rfl (fun _ _ h => h.elim) ?_
  rintro _ _ ⟨⟨rfl, hno290⟩ | ⟨rfl, i290, hi290, ht290, rfl⟩, hw290⟩
  · refine j_w w hw290 ?_
    refine j_iconst (v := 1) dX11_at_5 (by decide) ?_
    refine j_callV (q := (RX11, TX11, 8)) dX11_at_6 kX11_start lX11_76 inX11_start seX11_start h.m rfl (cm_start1 hl w _ _ h (by decide)) (Nat.le_of_ble_eq_true rfl) ⟨(Nat.le_of_ble_eq_true rfl), (Nat.le_of_ble_eq_true rfl)⟩ rfl (Nat.le_of_ble_eq_true rfl) rfl rfl (fun _ _ h => h.elim) ?_
    rintro _ w1 ⟨rfl, fm1, h1⟩
    have R1 := R.th (k := 1)
    refine j_if_ne (tgt := 49) dX11_at_9 (by decide) (fun c_9_11 => ?_) (fun c_9_11 => ?_)
    · refine j_iconst (v := 0) dX11_at_49 (by decide) ?_
      refine j_goto (tgt := 74) dX11_at_50 (by decide) ?_
      refine j_iret dX11_at_74 rfl rfl ?_ (Nat.le_of_ble_eq_true rfl) (Nat.le_of_ble_eq_true rfl)
      refine cast (congrFun (congrFun hQ9 _) _) ?_
      refine ⟨_, _, rfl, (fm1.le (q' := 59) (by decide)), h1, sp_X1 (k := 1) ?_ (by decide) rfl R1⟩
      (first | (refine sp_k21_1 ?_ <;> (first | assumption | (refine Or.inl ?_; assumption) | (refine Or.inr ?_; assumption) | (refine Or.inr (Or.inl ?_); assumption) | (refine Or.inr (Or.inr ?_); assumption) | (refine Or.inr (Or.inr (Or.inl ?_)); assumption) | (refine Or.inr (Or.inr (Or.inr ?_)); assumption) | (refine fun z => Or.elim z ?_ ?_ <;> assumption) | (refine fun z => Or.elim z ?_ (fun z => Or.elim z ?_ ?_) <;> assumption) | (refine fun z => Or.elim z ?_ (fun z => Or.elim z ?_ (fun z => Or.elim z ?_ ?_)) <;> assumption) | (refine fun z => Or.elim z (fun z9 => z9 ?_) ?_ <;> (first | assumption | (refine Or.inl ?_; assumption) | (refine Or.inr (Or.inl ?_); assumption) | (refine Or.inr (Or.inr ?_); assumption) | (refine Or.inr (Or.inr (Or.inl ?_)); assumption) | (refine Or.inr (Or.inr (Or.inr ?_)); assumption))) | (refine Or.inl (fun z => Or.elim z ?_ (fun z => Or.elim z ?_ ?_)) <;> assumption) | (refine Or.inl (fun z => Or.elim z ?_ (fun z => Or.elim z ?_ (fun z => Or.elim z ?_ ?_))) <;> assumption))) | (refine sp_k21_2 ?_ ?_ <;> (first | assumption | (refine Or.inl ?_; assumption) | (refine Or.inr ?_; assumption) | (refine Or.inr (Or.inl ?_); assumption) | (refine Or.inr (Or.inr ?_); assumption) | (refine Or.inr (Or.inr (Or.inl ?_)); assumption) | (refine Or.inr (Or.inr (Or.inr ?_)); assumption) | (refine fun z => Or.elim z ?_ ?_ <;> assumption) | (refine fun z => Or.elim z ?_ (fun z => Or.elim z ?_ ?_) <;> assumption) | (refine fun z => Or.elim z ?_ (fun z => Or.elim z ?_ (fun z => Or.elim z ?_ ?_)) <;> assumption) | (refine fun z => Or.elim z (fun z9 => z9 ?_) ?_ <;> (first | assumption | (refine Or.inl ?_; assumption) | (refine Or.inr (Or.inl ?_); assumption) | (refine Or.inr (Or.inr ?_); assumption) | (refine Or.inr (Or.inr (Or.inl ?_)); assumption) | (refine Or.inr (Or.inr (Or.inr ?_)); assumption))) | (refine Or.inl (fun z => Or.elim z ?_ (fun z => Or.elim z ?_ ?_)) <;> assumption) | (refine Or.inl (fun z => Or.elim z ?_ (fun z => Or.elim z ?_ (fun z => Or.elim z ?_ ?_))) <;> assumption))))
    · exact absurd c_9_11 (by decide)
  · refine j_w w hw290 ?_
    have ei290 : sp_i (nI i290) = i290 := sp_in' (by omega)
    refine j_iconst (v := 1) dX11_at_5 (by decide) ?_
    refine j_callV (q := (RX11, TX11, 8)) dX11_at_6 kX11_start lX11_76 inX11_start seX11_start h.m rfl (cm_start0 hl w _ _ h) (Nat.le_of_ble_eq_true rfl) ⟨(Nat.le_of_ble_eq_true rfl), (Nat.le_of_ble_eq_true rfl)⟩ rfl (Nat.le_of_ble_eq_true rfl) rfl rfl (fun _ _ h => h.elim) ?_
    rintro _ w2 ⟨rfl, fm2, h2⟩
    have R2 := R.th (k := 0)
    refine j_if_ne (tgt := 49) dX11_at_9 (by decide) (fun c_9_25 => ?_) (fun c_9_25 => ?_)
    · exact absurd c_9_25 (by decide)
    · refine j_aload_n dX11_at_12 rfl rfl ?_
      refine j_iload_n dX11_at_13 rfl ?_
      refine j_iconst (v := 0) dX11_at_14 (by decide) ?_
      refine j_aload_n dX11_at_15 rfl rfl ?_
      refine j_getf dX11_at_16 fX11_21 h2.m rfl ?_
      refine j_iload_n dX11_at_19 rfl ?_
      obtain ⟨lv292, -, lg292⟩ := z_li.cell h2.rows
      refine j_callV (q := (RJx4a65c, TJx4a65c, 3)) dX11_at_20 kJx4a65c_get_915e3 lX11_82 inJx4a65c_get_915e3 seJx4a65c_get_915e3 lg292 rfl (cl_get hl w2 41 1001 _ _ (i290) _ h2.rows (z_two2 (i := i290) (by omega))) (Nat.le_of_ble_eq_true rfl) ⟨(Nat.le_of_ble_eq_true rfl), (Nat.le_of_ble_eq_true rfl)⟩ rfl (Nat.le_of_ble_eq_true rfl) rfl rfl (fun _ _ h => h.elim) ?_
      rintro _ _ ⟨rfl, hw293⟩
      refine j_w w2 hw293 ?_
      refine j_castS dX11_at_23 (z_w 1341 ((lwg_6 96).trans (by decide +kernel)) (by decide +kernel)) (z_li.is (h2.rw (i := i290) (by omega)).1) ?_
      obtain ⟨lv295, -, lg295⟩ := z_li.cell (h2.rw (i := i290) (by omega)).1
      refine j_callV (q := (RJx4a65c, TJx4a65c, 3)) dX11_at_26 kJx4a65c_size_8abf5 lX11_86 inJx4a65c_size_8abf5 seJx4a65c_size_8abf5 lg295 rfl (cl_sizeW hl w2 (i290) (sp_R S (i290)) h2 R2 (by omega) rfl) (Nat.le_of_ble_eq_true rfl) ⟨(Nat.le_of_ble_eq_true rfl), (Nat.le_of_ble_eq_true rfl)⟩ rfl (Nat.le_of_ble_eq_true rfl) rfl rfl (fun _ _ h => h.elim) ?_
      rintro _ _ ⟨rfl, hw296⟩
      refine j_w w2 hw296 ?_
      have hz296 : (sp_R S (i290)).length ≤ 12 := R2.l12 h2 (i := i290) (by omega) rfl
      refine j_iconst (v := 1) dX11_at_29 (by decide) ?_
      refine j_isub dX11_at_30 ?_
      refine j_callS dX11_at_31 kX11_isIn lX11_59 stX11_isIn (cm_isIn_r hl w2 _ 0 _) (Nat.le_of_ble_eq_true rfl) ⟨(Nat.le_of_ble_eq_true rfl), (Nat.le_of_ble_eq_true rfl)⟩ rfl (Nat.le_of_ble_eq_true rfl) rfl rfl (fun _ _ h => h.elim) ?_
      rintro _ _ ⟨⟨rfl, hi297⟩ | ⟨rfl, hno297⟩, hw297⟩
      · refine j_w w2 hw297 ?_
        obtain ⟨i297, hq297, rfl⟩ := z_natm (by omega) (q_nor hi297)
        have ei297 : sp_i (nI i297) = i297 := sp_in' (by omega)
        refine j_if_ne (tgt := 41) dX11_at_34 (by decide) (fun c_34_50 => ?_) (fun c_34_50 => ?_)
        · refine j_iconst (v := 0) dX11_at_41 (by decide) ?_
          refine j_iconst (v := 1) dX11_at_42 (by decide) ?_
          refine j_callV (q := (RX11, TX11, 8)) dX11_at_43 kX11_refuse lX11_52 inX11_refuse seX11_refuse h2.m rfl (cm_refuse0 hl w2 _ _ h2 rfl) (Nat.le_of_ble_eq_true rfl) ⟨(Nat.le_of_ble_eq_true rfl), (Nat.le_of_ble_eq_true rfl)⟩ rfl (Nat.le_of_ble_eq_true rfl) rfl rfl (fun _ _ h => h.elim) ?_
          rintro _ _ ⟨rfl, hw298⟩
          refine j_w w2 hw298 ?_
          refine j_if_eq (tgt := 53) dX11_at_46 (by decide) (fun c_46_56 => ?_) (fun c_46_56 => ?_)
          · refine j_aload_n dX11_at_53 rfl rfl ?_
            refine j_getf dX11_at_54 fX11_21 h2.m rfl ?_
            refine j_iload_n dX11_at_57 rfl ?_
            obtain ⟨lv300, -, lg300⟩ := z_li.cell h2.rows
            refine j_callV (q := (RJx4a65c, TJx4a65c, 3)) dX11_at_58 kJx4a65c_get_915e3 lX11_82 inJx4a65c_get_915e3 seJx4a65c_get_915e3 lg300 rfl (cl_get hl w2 41 1001 _ _ (i290) _ h2.rows (z_two2 (i := i290) (by omega))) (Nat.le_of_ble_eq_true rfl) ⟨(Nat.le_of_ble_eq_true rfl), (Nat.le_of_ble_eq_true rfl)⟩ rfl (Nat.le_of_ble_eq_true rfl) rfl rfl (fun _ _ h => h.elim) ?_
            rintro _ _ ⟨rfl, hw301⟩
            refine j_w w2 hw301 ?_
            refine j_castS dX11_at_61 (z_w 1341 ((lwg_6 96).trans (by decide +kernel)) (by decide +kernel)) (z_li.is (h2.rw (i := i290) (by omega)).1) ?_
            refine j_iload_n dX11_at_64 rfl ?_
            obtain ⟨x303, hx303⟩ : ∃ x, (sp_R S (i290))[i297]? = some x := ⟨_, List.getElem?_eq_getElem (show i297 < (sp_R S (i290)).length by omega)⟩
            obtain ⟨lv304, -, lg304⟩ := z_li.cell (h2.rw (i := i290) (by omega)).1
            refine j_callV (q := (RJx4a65c, TJx4a65c, 3)) dX11_at_65 kJx4a65c_get_915e3 lX11_82 inJx4a65c_get_915e3 seJx4a65c_get_915e3 lg304 rfl (cl_getW hl w2 (i290) (i297) (sp_R S (i290)) x303 h2 R2 (by omega) rfl hx303) (Nat.le_of_ble_eq_true rfl) ⟨(Nat.le_of_ble_eq_true rfl), (Nat.le_of_ble_eq_true rfl)⟩ rfl (Nat.le_of_ble_eq_true rfl) rfl rfl (fun _ _ h => h.elim) ?_
            rintro _ _ ⟨rfl, hw305⟩
            refine j_w w2 hw305 ?_
            refine j_castS dX11_at_68 (z_w 1567 ((lwg_7 82).trans (by decide +kernel)) (by decide +kernel)) rfl ?_
            refine j_callVB (v0 := .float _) (C := "java/lang/Integer") dX11_at_71 kJ6_intValue_8abf5 lX11_99 inJ6_intValue_8abf5 seJ6_intValue_8abf5 rfl (c_intv hl w2 x303) (Nat.le_of_ble_eq_true rfl) ⟨(Nat.le_of_ble_eq_true rfl), (Nat.le_of_ble_eq_true rfl)⟩ rfl (Nat.le_of_ble_eq_true rfl) rfl rfl (fun _ _ h => h.elim) ?_
            rintro _ _ ⟨rfl, hw307⟩
            refine j_w w2 hw307 ?_
            refine j_iret dX11_at_74 rfl rfl ?_ (Nat.le_of_ble_eq_true rfl) (Nat.le_of_ble_eq_true rfl)
            refine cast (congrFun (congrFun hQ9 _) _) ?_
            try rw [ei290]
            try rw [ei297]
            refine ⟨_, _, rfl, (fm2.le (q' := 59) (by decide)), h2, sp_X0 ?_ rfl R2 (by rw [hx303]; rfl)⟩
            (first | (refine sp_k21_0 ?_ ?_ <;> (first | assumption | (refine Or.inl ?_; assumption) | (refine Or.inr ?_; assumption) | (refine Or.inr (Or.inl ?_); assumption) | (refine Or.inr (Or.inr ?_); assumption) | (refine Or.inr (Or.inr (Or.inl ?_)); assumption) | (refine Or.inr (Or.inr (Or.inr ?_)); assumption) | (refine fun z => Or.elim z ?_ ?_ <;> assumption) | (refine fun z => Or.elim z ?_ (fun z => Or.elim z ?_ ?_) <;> assumption) | (refine fun z => Or.elim z ?_ (fun z => Or.elim z ?_ (fun z => Or.elim z ?_ ?_)) <;> assumption) | (refine fun z => Or.elim z (fun z9 => z9 ?_) ?_ <;> (first | assumption | (refine Or.inl ?_; assumption) | (refine Or.inr (Or.inl ?_); assumption) | (refine Or.inr (Or.inr ?_); assumption) | (refine Or.inr (Or.inr (Or.inl ?_)); assumption) | (refine Or.inr (Or.inr (Or.inr ?_)); assumption))) | (refine Or.inl (fun z => Or.elim z ?_ (fun z => Or.elim z ?_ ?_)) <;> assumption) | (refine Or.inl (fun z => Or.elim z ?_ (fun z => Or.elim z ?_ (fun z => Or.elim z ?_ ?_))) <;> assumption))))
          · exact absurd c_46_56 (by decide)
        · exact absurd c_34_50 (by decide)
      · refine j_w w2 hw297 ?_
        refine j_if_ne (tgt := 41) dX11_at_34 (by decide) (fun c_34_84 => ?_) (fun c_34_84 => ?_)
        · exact absurd c_34_84 (by decide)
        · refine j_iconst (v := 1) dX11_at_37 (by decide) ?_
          refine j_goto (tgt := 42) dX11_at_38 (by decide) ?_
          refine j_iconst (v := 1) dX11_at_42 (by decide) ?_
          refine j_callV (q := (RX11, TX11, 8)) dX11_at_43 kX11_refuse lX11_52 inX11_refuse seX11_refuse h2.m rfl (cm_refuse1 hl w2 _ _ h2 rfl (by decide)) (Nat.le_of_ble_eq_true rfl) ⟨(Nat.le_of_ble_eq_true rfl), (Nat.le_of_ble_eq_true rfl)⟩ rfl (Nat.le_of_ble_eq_true rfl) rfl rfl (fun _ _ h => h.elim) ?_
          rintro _ w3 ⟨rfl, fm3, h3⟩
          have R3 := R2.th (k := 1)
          refine j_if_eq (tgt := 53) dX11_at_46 (by decide) (fun c_46_92 => ?_) (fun c_46_92 => ?_)
          · exact absurd c_46_92 (by decide)
          · refine j_iconst (v := 0) dX11_at_49 (by decide) ?_
            refine j_goto (tgt := 74) dX11_at_50 (by decide) ?_
            refine j_iret dX11_at_74 rfl rfl ?_ (Nat.le_of_ble_eq_true rfl) (Nat.le_of_ble_eq_true rfl)
            refine cast (congrFun (congrFun hQ9 _) _) ?_
            try rw [ei290]
            refine ⟨_, _, rfl, ((fm2.le (q' := 59) (by decide)).tr (fm3.le (q' := 59) (by decide))), h3, sp_X1 (k := 1) ?_ (by decide) rfl R3⟩
            (first | (refine sp_k21_1 ?_ <;> (first | assumption | (refine Or.inl ?_; assumption) | (refine Or.inr ?_; assumption) | (refine Or.inr (Or.inl ?_); assumption) | (refine Or.inr (Or.inr ?_); assumption) | (refine Or.inr (Or.inr (Or.inl ?_)); assumption) | (refine Or.inr (Or.inr (Or.inr ?_)); assumption) | (refine fun z => Or.elim z ?_ ?_ <;> assumption) | (refine fun z => Or.elim z ?_ (fun z => Or.elim z ?_ ?_) <;> assumption) | (refine fun z => Or.elim z ?_ (fun z => Or.elim z ?_ (fun z => Or.elim z ?_ ?_)) <;> assumption) | (refine fun z => Or.elim z (fun z9 => z9 ?_) ?_ <;> (first | assumption | (refine Or.inl ?_; assumption) | (refine Or.inr (Or.inl ?_); assumption) | (refine Or.inr (Or.inr ?_); assumption) | (refine Or.inr (Or.inr (Or.inl ?_)); assumption) | (refine Or.inr (Or.inr (Or.inr ?_)); assumption))) | (refine Or.inl (fun z => Or.elim z ?_ (fun z => Or.elim z ?_ ?_)) <;> assumption) | (refine Or.inl (fun z => Or.elim z ?_ (fun z => Or.elim z ?_ (fun z => Or.elim z ?_ ?_))) <;> assumption))) | (refine sp_k21_2 ?_ ?_ <;> (first | assumption | (refine Or.inl ?_; assumption) | (refine Or.inr ?_; assumption) | (refine Or.inr (Or.inl ?_); assumption) | (refine Or.inr (Or.inr ?_); assumption) | (refine Or.inr (Or.inr (Or.inl ?_)); assumption) | (refine Or.inr (Or.inr (Or.inr ?_)); assumption) | (refine fun z => Or.elim z ?_ ?_ <;> assumption) | (refine fun z => Or.elim z ?_ (fun z => Or.elim z ?_ ?_) <;> assumption) | (refine fun z => Or.elim z ?_ (fun z => Or.elim z ?_ (fun z => Or.elim z ?_ ?_)) <;> assumption) | (refine fun z => Or.elim z (fun z9 => z9 ?_) ?_ <;> (first | assumption | (refine Or.inl ?_; assumption) | (refine Or.inr (Or.inl ?_); assumption) | (refine Or.inr (Or.inr ?_); assumption) | (refine Or.inr (Or.inr (Or.inl ?_)); assumption) | (refine Or.inr (Or.inr (Or.inr ?_)); assumption))) | (refine Or.inl (fun z => Or.elim z ?_ (fun z => Or.elim z ?_ ?_)) <;> assumption) | (refine Or.inl (fun z => Or.elim z ?_ (fun z => Or.elim z ?_ (fun z => Or.elim z ?_ ?_))) <;> assumption))))
set_option maxRecDepth 100000 in
set_option maxHeartbeats 8000000 in
theorem cx_isFixed (hl : l.stackTraces = false) (w : z_W) (S : sp_S) (s : z_Z) (r : Int32) (h : z_mst w s) (R : sp_MR S s)  : z_Con G l mX11_isFixed 20 0 0 w [.ref 1000, .int r] (fun v w9 => ∃ (r9 : Int32) (s9 : z_Z), v = some (.int r9) ∧ z_fm 59 w w9 ∧ z_mst w9 s9 ∧ s9.1.1 = q_k2 r ∧ sp_MR (if q_k2 r = 0 then S else S) s9 ∧ (q_k2 r = 0 → r9 = z_bi (sp_F S (sp_i r)))) (fun _ _ => False) := by
  generalize hQ9 : (fun (v : Option Value) (w9 : z_W) => ∃ (r9 : Int32) (s9 : z_Z), v = some (.int r9) ∧ z_fm 59 w w9 ∧ z_mst w9 s9 ∧ s9.1.1 = q_k2 r ∧ sp_MR (if q_k2 r = 0 then S else S) s9 ∧ (q_k2 r = 0 → r9 = z_bi (sp_F S (sp_i r)))) = Q9
  refine z_body hl (by decide) rfl (Nat.le_of_ble_eq_true rfl) ?_
  show z_J G l mX11_isFixed _ 0 [(0, _), (1, _)] [] _ 0 0
  refine j_aload_n dX11_isFixed_0 rfl rfl ?_
  refine j_iload_n dX11_isFixed_1 rfl ?_
  refine j_callS dX11_isFixed_2 kX11_isNoTwo lX11_72 stX11_isNoTwo (cm_isNoTwo_r hl w _) (Nat.le_of_ble_eq_true rfl) ⟨(Nat.le_of_ble_eq_true rfl), (Nat.le_of_ble_eq_true rfl)⟩ rfl (Nat.le_of_ble_eq_true rfl) rfl rfl (fun _ _ h => h.elim) ?_
  rintro _ _ ⟨⟨rfl, hno308⟩ | ⟨rfl, i308, hi308, ht308, rfl⟩, hw308⟩
  · refine j_w w hw308 ?_
    refine j_iconst (v := 1) dX11_isFixed_5 (by decide) ?_
    refine j_callV (q := (RX11, TX11, 8)) dX11_isFixed_6 kX11_start lX11_76 inX11_start seX11_start h.m rfl (cm_start1 hl w _ _ h (by decide)) (Nat.le_of_ble_eq_true rfl) ⟨(Nat.le_of_ble_eq_true rfl), (Nat.le_of_ble_eq_true rfl)⟩ rfl (Nat.le_of_ble_eq_true rfl) rfl rfl (fun _ _ h => h.elim) ?_
    rintro _ w1 ⟨rfl, fm1, h1⟩
    have R1 := R.th (k := 1)
    refine j_if_ne (tgt := 25) dX11_isFixed_9 (by decide) (fun c_9_11 => ?_) (fun c_9_11 => ?_)
    · refine j_iconst (v := 0) dX11_isFixed_25 (by decide) ?_
      refine j_iret dX11_isFixed_26 rfl rfl ?_ (Nat.le_of_ble_eq_true rfl) (Nat.le_of_ble_eq_true rfl)
      refine cast (congrFun (congrFun hQ9 _) _) ?_
      refine ⟨_, _, rfl, (fm1.le (q' := 59) (by decide)), h1, sp_X1 (k := 1) ?_ (by decide) rfl R1⟩
      (first | (refine sp_k2_1 ?_ <;> (first | assumption | (refine Or.inl ?_; assumption) | (refine Or.inr ?_; assumption) | (refine Or.inr (Or.inl ?_); assumption) | (refine Or.inr (Or.inr ?_); assumption) | (refine Or.inr (Or.inr (Or.inl ?_)); assumption) | (refine Or.inr (Or.inr (Or.inr ?_)); assumption) | (refine fun z => Or.elim z ?_ ?_ <;> assumption) | (refine fun z => Or.elim z ?_ (fun z => Or.elim z ?_ ?_) <;> assumption) | (refine fun z => Or.elim z ?_ (fun z => Or.elim z ?_ (fun z => Or.elim z ?_ ?_)) <;> assumption) | (refine fun z => Or.elim z (fun z9 => z9 ?_) ?_ <;> (first | assumption | (refine Or.inl ?_; assumption) | (refine Or.inr (Or.inl ?_); assumption) | (refine Or.inr (Or.inr ?_); assumption) | (refine Or.inr (Or.inr (Or.inl ?_)); assumption) | (refine Or.inr (Or.inr (Or.inr ?_)); assumption))) | (refine Or.inl (fun z => Or.elim z ?_ (fun z => Or.elim z ?_ ?_)) <;> assumption) | (refine Or.inl (fun z => Or.elim z ?_ (fun z => Or.elim z ?_ (fun z => Or.elim z ?_ ?_))) <;> assumption))))
    · exact absurd c_9_11 (by decide)
  · refine j_w w hw308 ?_
    have ei308 : sp_i (nI i308) = i308 := sp_in' (by omega)
    refine j_iconst (v := 1) dX11_isFixed_5 (by decide) ?_
    refine j_callV (q := (RX11, TX11, 8)) dX11_isFixed_6 kX11_start lX11_76 inX11_start seX11_start h.m rfl (cm_start0 hl w _ _ h) (Nat.le_of_ble_eq_true rfl) ⟨(Nat.le_of_ble_eq_true rfl), (Nat.le_of_ble_eq_true rfl)⟩ rfl (Nat.le_of_ble_eq_true rfl) rfl rfl (fun _ _ h => h.elim) ?_
    rintro _ w2 ⟨rfl, fm2, h2⟩
    have R2 := R.th (k := 0)
    refine j_if_ne (tgt := 25) dX11_isFixed_9 (by decide) (fun c_9_24 => ?_) (fun c_9_24 => ?_)
    · exact absurd c_9_24 (by decide)
    · refine j_aload_n dX11_isFixed_12 rfl rfl ?_
      refine j_getf dX11_isFixed_13 fX11_25 h2.m rfl ?_
      refine j_iload_n dX11_isFixed_16 rfl ?_
      refine j_zald dX11_isFixed_17 h2.fx (vp_in_nI (by omega) (by omega)) rfl ?_
      rcases (Bool.eq_false_or_eq_true (sp_F S i308)) with hF17 | hF17
      · refine j_top (congrArg Value.int (show _ = (1 : Int32) from by rw [z_cla (by omega), R2.f (by omega)]; show z_bi (sp_F S i308) = 1; rw [hF17]; rfl)) ?_
        refine j_if_eq (tgt := 25) dX11_isFixed_18 (by decide) (fun c_18_32 => ?_) (fun c_18_32 => ?_)
        · exact absurd c_18_32 (by decide)
        · refine j_iconst (v := 1) dX11_isFixed_21 (by decide) ?_
          refine j_goto (tgt := 26) dX11_isFixed_22 (by decide) ?_
          refine j_iret dX11_isFixed_26 rfl rfl ?_ (Nat.le_of_ble_eq_true rfl) (Nat.le_of_ble_eq_true rfl)
          refine cast (congrFun (congrFun hQ9 _) _) ?_
          try rw [ei308]
          refine ⟨_, _, rfl, (fm2.le (q' := 59) (by decide)), h2, sp_X0 ?_ rfl R2 (by rw [hF17]; rfl)⟩
          (first | (refine sp_k2_0 ?_ <;> (first | assumption | (refine Or.inl ?_; assumption) | (refine Or.inr ?_; assumption) | (refine Or.inr (Or.inl ?_); assumption) | (refine Or.inr (Or.inr ?_); assumption) | (refine Or.inr (Or.inr (Or.inl ?_)); assumption) | (refine Or.inr (Or.inr (Or.inr ?_)); assumption) | (refine fun z => Or.elim z ?_ ?_ <;> assumption) | (refine fun z => Or.elim z ?_ (fun z => Or.elim z ?_ ?_) <;> assumption) | (refine fun z => Or.elim z ?_ (fun z => Or.elim z ?_ (fun z => Or.elim z ?_ ?_)) <;> assumption) | (refine fun z => Or.elim z (fun z9 => z9 ?_) ?_ <;> (first | assumption | (refine Or.inl ?_; assumption) | (refine Or.inr (Or.inl ?_); assumption) | (refine Or.inr (Or.inr ?_); assumption) | (refine Or.inr (Or.inr (Or.inl ?_)); assumption) | (refine Or.inr (Or.inr (Or.inr ?_)); assumption))) | (refine Or.inl (fun z => Or.elim z ?_ (fun z => Or.elim z ?_ ?_)) <;> assumption) | (refine Or.inl (fun z => Or.elim z ?_ (fun z => Or.elim z ?_ (fun z => Or.elim z ?_ ?_))) <;> assumption))))
      · refine j_top (congrArg Value.int (show _ = (0 : Int32) from by rw [z_cla (by omega), R2.f (by omega)]; show z_bi (sp_F S i308) = 0; rw [hF17]; rfl)) ?_
        refine j_if_eq (tgt := 25) dX11_isFixed_18 (by decide) (fun c_18_42 => ?_) (fun c_18_42 => ?_)
        · refine j_iconst (v := 0) dX11_isFixed_25 (by decide) ?_
          refine j_iret dX11_isFixed_26 rfl rfl ?_ (Nat.le_of_ble_eq_true rfl) (Nat.le_of_ble_eq_true rfl)
          refine cast (congrFun (congrFun hQ9 _) _) ?_
          try rw [ei308]
          refine ⟨_, _, rfl, (fm2.le (q' := 59) (by decide)), h2, sp_X0 ?_ rfl R2 (by rw [hF17]; rfl)⟩
          (first | (refine sp_k2_0 ?_ <;> (first | assumption | (refine Or.inl ?_; assumption) | (refine Or.inr ?_; assumption) | (refine Or.inr (Or.inl ?_); assumption) | (refine Or.inr (Or.inr ?_); assumption) | (refine Or.inr (Or.inr (Or.inl ?_)); assumption) | (refine Or.inr (Or.inr (Or.inr ?_)); assumption) | (refine fun z => Or.elim z ?_ ?_ <;> assumption) | (refine fun z => Or.elim z ?_ (fun z => Or.elim z ?_ ?_) <;> assumption) | (refine fun z => Or.elim z ?_ (fun z => Or.elim z ?_ (fun z => Or.elim z ?_ ?_)) <;> assumption) | (refine fun z => Or.elim z (fun z9 => z9 ?_) ?_ <;> (first | assumption | (refine Or.inl ?_; assumption) | (refine Or.inr (Or.inl ?_); assumption) | (refine Or.inr (Or.inr ?_); assumption) | (refine Or.inr (Or.inr (Or.inl ?_)); assumption) | (refine Or.inr (Or.inr (Or.inr ?_)); assumption))) | (refine Or.inl (fun z => Or.elim z ?_ (fun z => Or.elim z ?_ ?_)) <;> assumption) | (refine Or.inl (fun z => Or.elim z ?_ (fun z => Or.elim z ?_ (fun z => Or.elim z ?_ ?_))) <;> assumption))))
        · exact absurd c_18_42 (by decide)
set_option maxRecDepth 100000 in
set_option maxHeartbeats 8000000 in
theorem cx_counts (hl : l.stackTraces = false) (w : z_W) (S : sp_S) (s : z_Z) (r : Int32) (w0 : Int32) (h : z_mst w s) (R : sp_MR S s)  : z_Con G l mX11_counts 20 0 0 w [.ref 1000, .int r, .int w0] (fun v w9 => ∃ (r9 : Int32) (s9 : z_Z), v = some (.int r9) ∧ z_fm 59 w w9 ∧ z_mst w9 s9 ∧ s9.1.1 = q_k22 r (w0 < 0 ∨ 4 < w0) ∧ sp_MR (if q_k22 r (w0 < 0 ∨ 4 < w0) = 0 then S else S) s9 ∧ (q_k22 r (w0 < 0 ∨ 4 < w0) = 0 → r9 = sp_C S (sp_i r) (sp_i w0))) (fun _ _ => False) := by
  generalize hQ9 : (fun (v : Option Value) (w9 : z_W) => ∃ (r9 : Int32) (s9 : z_Z), v = some (.int r9) ∧ z_fm 59 w w9 ∧ z_mst w9 s9 ∧ s9.1.1 = q_k22 r (w0 < 0 ∨ 4 < w0) ∧ sp_MR (if q_k22 r (w0 < 0 ∨ 4 < w0) = 0 then S else S) s9 ∧ (q_k22 r (w0 < 0 ∨ 4 < w0) = 0 → r9 = sp_C S (sp_i r) (sp_i w0))) = Q9
  refine z_body hl (by decide) rfl (Nat.le_of_ble_eq_true rfl) ?_
  show z_J G l mX11_counts _ 0 [(0, _), (1, _), (2, _)] [] _ 0 0
  refine j_aload_n dX11_counts_0 rfl rfl ?_
  refine j_iload_n dX11_counts_1 rfl ?_
  refine j_callS dX11_counts_2 kX11_isNoTwo lX11_72 stX11_isNoTwo (cm_isNoTwo_r hl w _) (Nat.le_of_ble_eq_true rfl) ⟨(Nat.le_of_ble_eq_true rfl), (Nat.le_of_ble_eq_true rfl)⟩ rfl (Nat.le_of_ble_eq_true rfl) rfl rfl (fun _ _ h => h.elim) ?_
  rintro _ _ ⟨⟨rfl, hno309⟩ | ⟨rfl, i309, hi309, ht309, rfl⟩, hw309⟩
  · refine j_w w hw309 ?_
    refine j_iconst (v := 1) dX11_counts_5 (by decide) ?_
    refine j_callV (q := (RX11, TX11, 8)) dX11_counts_6 kX11_start lX11_76 inX11_start seX11_start h.m rfl (cm_start1 hl w _ _ h (by decide)) (Nat.le_of_ble_eq_true rfl) ⟨(Nat.le_of_ble_eq_true rfl), (Nat.le_of_ble_eq_true rfl)⟩ rfl (Nat.le_of_ble_eq_true rfl) rfl rfl (fun _ _ h => h.elim) ?_
    rintro _ w1 ⟨rfl, fm1, h1⟩
    have R1 := R.th (k := 1)
    refine j_if_ne (tgt := 34) dX11_counts_9 (by decide) (fun c_9_11 => ?_) (fun c_9_11 => ?_)
    · refine j_iconst (v := 0) dX11_counts_34 (by decide) ?_
      refine j_goto (tgt := 46) dX11_counts_35 (by decide) ?_
      refine j_iret dX11_counts_46 rfl rfl ?_ (Nat.le_of_ble_eq_true rfl) (Nat.le_of_ble_eq_true rfl)
      refine cast (congrFun (congrFun hQ9 _) _) ?_
      refine ⟨_, _, rfl, (fm1.le (q' := 59) (by decide)), h1, sp_X1 (k := 1) ?_ (by decide) rfl R1⟩
      (first | (refine sp_k22_1 ?_ <;> (first | assumption | (refine Or.inl ?_; assumption) | (refine Or.inr ?_; assumption) | (refine Or.inr (Or.inl ?_); assumption) | (refine Or.inr (Or.inr ?_); assumption) | (refine Or.inr (Or.inr (Or.inl ?_)); assumption) | (refine Or.inr (Or.inr (Or.inr ?_)); assumption) | (refine fun z => Or.elim z ?_ ?_ <;> assumption) | (refine fun z => Or.elim z ?_ (fun z => Or.elim z ?_ ?_) <;> assumption) | (refine fun z => Or.elim z ?_ (fun z => Or.elim z ?_ (fun z => Or.elim z ?_ ?_)) <;> assumption) | (refine fun z => Or.elim z (fun z9 => z9 ?_) ?_ <;> (first | assumption | (refine Or.inl ?_; assumption) | (refine Or.inr (Or.inl ?_); assumption) | (refine Or.inr (Or.inr ?_); assumption) | (refine Or.inr (Or.inr (Or.inl ?_)); assumption) | (refine Or.inr (Or.inr (Or.inr ?_)); assumption))) | (refine Or.inl (fun z => Or.elim z ?_ (fun z => Or.elim z ?_ ?_)) <;> assumption) | (refine Or.inl (fun z => Or.elim z ?_ (fun z => Or.elim z ?_ (fun z => Or.elim z ?_ ?_))) <;> assumption))))
    · exact absurd c_9_11 (by decide)
  · refine j_w w hw309 ?_
    have ei309 : sp_i (nI i309) = i309 := sp_in' (by omega)
    refine j_iconst (v := 1) dX11_counts_5 (by decide) ?_
    refine j_callV (q := (RX11, TX11, 8)) dX11_counts_6 kX11_start lX11_76 inX11_start seX11_start h.m rfl (cm_start0 hl w _ _ h) (Nat.le_of_ble_eq_true rfl) ⟨(Nat.le_of_ble_eq_true rfl), (Nat.le_of_ble_eq_true rfl)⟩ rfl (Nat.le_of_ble_eq_true rfl) rfl rfl (fun _ _ h => h.elim) ?_
    rintro _ w2 ⟨rfl, fm2, h2⟩
    have R2 := R.th (k := 0)
    refine j_if_ne (tgt := 34) dX11_counts_9 (by decide) (fun c_9_25 => ?_) (fun c_9_25 => ?_)
    · exact absurd c_9_25 (by decide)
    · refine j_aload_n dX11_counts_12 rfl rfl ?_
      refine j_iload_n dX11_counts_13 rfl ?_
      refine j_iconst (v := 0) dX11_counts_14 (by decide) ?_
      refine j_iconst (v := 4) dX11_counts_15 (by decide) ?_
      refine j_callS dX11_counts_16 kX11_isIn lX11_59 stX11_isIn (cm_isIn_r hl w2 _ (0) (4)) (Nat.le_of_ble_eq_true rfl) ⟨(Nat.le_of_ble_eq_true rfl), (Nat.le_of_ble_eq_true rfl)⟩ rfl (Nat.le_of_ble_eq_true rfl) rfl rfl (fun _ _ h => h.elim) ?_
      rintro _ _ ⟨⟨rfl, hi310⟩ | ⟨rfl, hno310⟩, hw310⟩
      · refine j_w w2 hw310 ?_
        obtain ⟨i310, hq310, rfl⟩ := sp_nt (m := 4) rfl (by omega) hi310
        have ei310 : sp_i (nI i310) = i310 := sp_in' (by omega)
        refine j_if_ne (tgt := 26) dX11_counts_19 (by decide) (fun c_19_36 => ?_) (fun c_19_36 => ?_)
        · refine j_iconst (v := 0) dX11_counts_26 (by decide) ?_
          refine j_iconst (v := 2) dX11_counts_27 (by decide) ?_
          refine j_callV (q := (RX11, TX11, 8)) dX11_counts_28 kX11_refuse lX11_52 inX11_refuse seX11_refuse h2.m rfl (cm_refuse0 hl w2 _ _ h2 rfl) (Nat.le_of_ble_eq_true rfl) ⟨(Nat.le_of_ble_eq_true rfl), (Nat.le_of_ble_eq_true rfl)⟩ rfl (Nat.le_of_ble_eq_true rfl) rfl rfl (fun _ _ h => h.elim) ?_
          rintro _ _ ⟨rfl, hw311⟩
          refine j_w w2 hw311 ?_
          refine j_if_eq (tgt := 38) dX11_counts_31 (by decide) (fun c_31_42 => ?_) (fun c_31_42 => ?_)
          · refine j_aload_n dX11_counts_38 rfl rfl ?_
            refine j_getf dX11_counts_39 fX11_31 h2.m rfl ?_
            refine j_iload_n dX11_counts_42 rfl ?_
            obtain ⟨fz312, gz312, hz312⟩ := h2.co
            refine j_aald (v := .ref (1004 + i309)) dX11_counts_43 gz312 rfl rfl (vp_in_nI (by omega) (by omega)) (by rw [z_cla (by omega)]; exact hz312 _ (by omega)) ?_
            refine j_iload_n dX11_counts_44 rfl ?_
            refine j_ld dX11_counts_45 (h2.cn (i := i309) (by omega)) (vp_in_nI (by omega) (by omega)) ?_
            refine j_iret dX11_counts_46 rfl rfl ?_ (Nat.le_of_ble_eq_true rfl) (Nat.le_of_ble_eq_true rfl)
            refine cast (congrFun (congrFun hQ9 _) _) ?_
            try rw [ei309]
            try rw [ei310]
            refine ⟨_, _, rfl, (fm2.le (q' := 59) (by decide)), h2, sp_X0 ?_ rfl R2 (by rw [z_cla (by omega)]; exact R2.c (by omega) (by omega))⟩
            (first | (refine sp_k22_0 ?_ ?_ <;> (first | assumption | (refine Or.inl ?_; assumption) | (refine Or.inr ?_; assumption) | (refine Or.inr (Or.inl ?_); assumption) | (refine Or.inr (Or.inr ?_); assumption) | (refine Or.inr (Or.inr (Or.inl ?_)); assumption) | (refine Or.inr (Or.inr (Or.inr ?_)); assumption) | (refine fun z => Or.elim z ?_ ?_ <;> assumption) | (refine fun z => Or.elim z ?_ (fun z => Or.elim z ?_ ?_) <;> assumption) | (refine fun z => Or.elim z ?_ (fun z => Or.elim z ?_ (fun z => Or.elim z ?_ ?_)) <;> assumption) | (refine fun z => Or.elim z (fun z9 => z9 ?_) ?_ <;> (first | assumption | (refine Or.inl ?_; assumption) | (refine Or.inr (Or.inl ?_); assumption) | (refine Or.inr (Or.inr ?_); assumption) | (refine Or.inr (Or.inr (Or.inl ?_)); assumption) | (refine Or.inr (Or.inr (Or.inr ?_)); assumption))) | (refine Or.inl (fun z => Or.elim z ?_ (fun z => Or.elim z ?_ ?_)) <;> assumption) | (refine Or.inl (fun z => Or.elim z ?_ (fun z => Or.elim z ?_ (fun z => Or.elim z ?_ ?_))) <;> assumption))))
          · exact absurd c_31_42 (by decide)
        · exact absurd c_19_36 (by decide)
      · refine j_w w2 hw310 ?_
        refine j_if_ne (tgt := 26) dX11_counts_19 (by decide) (fun c_19_59 => ?_) (fun c_19_59 => ?_)
        · exact absurd c_19_59 (by decide)
        · refine j_iconst (v := 1) dX11_counts_22 (by decide) ?_
          refine j_goto (tgt := 27) dX11_counts_23 (by decide) ?_
          refine j_iconst (v := 2) dX11_counts_27 (by decide) ?_
          refine j_callV (q := (RX11, TX11, 8)) dX11_counts_28 kX11_refuse lX11_52 inX11_refuse seX11_refuse h2.m rfl (cm_refuse1 hl w2 _ _ h2 rfl (by decide)) (Nat.le_of_ble_eq_true rfl) ⟨(Nat.le_of_ble_eq_true rfl), (Nat.le_of_ble_eq_true rfl)⟩ rfl (Nat.le_of_ble_eq_true rfl) rfl rfl (fun _ _ h => h.elim) ?_
          rintro _ w3 ⟨rfl, fm3, h3⟩
          have R3 := R2.th (k := 2)
          refine j_if_eq (tgt := 38) dX11_counts_31 (by decide) (fun c_31_67 => ?_) (fun c_31_67 => ?_)
          · exact absurd c_31_67 (by decide)
          · refine j_iconst (v := 0) dX11_counts_34 (by decide) ?_
            refine j_goto (tgt := 46) dX11_counts_35 (by decide) ?_
            refine j_iret dX11_counts_46 rfl rfl ?_ (Nat.le_of_ble_eq_true rfl) (Nat.le_of_ble_eq_true rfl)
            refine cast (congrFun (congrFun hQ9 _) _) ?_
            try rw [ei309]
            refine ⟨_, _, rfl, ((fm2.le (q' := 59) (by decide)).tr (fm3.le (q' := 59) (by decide))), h3, sp_X1 (k := 2) ?_ (by decide) rfl R3⟩
            (first | (refine sp_k22_2 ?_ ?_ <;> (first | assumption | (refine Or.inl ?_; assumption) | (refine Or.inr ?_; assumption) | (refine Or.inr (Or.inl ?_); assumption) | (refine Or.inr (Or.inr ?_); assumption) | (refine Or.inr (Or.inr (Or.inl ?_)); assumption) | (refine Or.inr (Or.inr (Or.inr ?_)); assumption) | (refine fun z => Or.elim z ?_ ?_ <;> assumption) | (refine fun z => Or.elim z ?_ (fun z => Or.elim z ?_ ?_) <;> assumption) | (refine fun z => Or.elim z ?_ (fun z => Or.elim z ?_ (fun z => Or.elim z ?_ ?_)) <;> assumption) | (refine fun z => Or.elim z (fun z9 => z9 ?_) ?_ <;> (first | assumption | (refine Or.inl ?_; assumption) | (refine Or.inr (Or.inl ?_); assumption) | (refine Or.inr (Or.inr ?_); assumption) | (refine Or.inr (Or.inr (Or.inl ?_)); assumption) | (refine Or.inr (Or.inr (Or.inr ?_)); assumption))) | (refine Or.inl (fun z => Or.elim z ?_ (fun z => Or.elim z ?_ ?_)) <;> assumption) | (refine Or.inl (fun z => Or.elim z ?_ (fun z => Or.elim z ?_ (fun z => Or.elim z ?_ ?_))) <;> assumption))))
set_option maxRecDepth 100000 in
set_option maxHeartbeats 8000000 in
theorem cx_shelfCounts (hl : l.stackTraces = false) (w : z_W) (S : sp_S) (s : z_Z) (w0 : Int32) (h : z_mst w s) (R : sp_MR S s)  : z_Con G l mX11_shelfCounts 20 0 0 w [.ref 1000, .int w0] (fun v w9 => ∃ (r9 : Int32) (s9 : z_Z), v = some (.int r9) ∧ z_fm 59 w w9 ∧ z_mst w9 s9 ∧ s9.1.1 = q_k1 (w0 < 0 ∨ 6 < w0) ∧ sp_MR (if q_k1 (w0 < 0 ∨ 6 < w0) = 0 then S else S) s9 ∧ (q_k1 (w0 < 0 ∨ 6 < w0) = 0 → r9 = sp_C S 2 (sp_i w0))) (fun _ _ => False) := by
  generalize hQ9 : (fun (v : Option Value) (w9 : z_W) => ∃ (r9 : Int32) (s9 : z_Z), v = some (.int r9) ∧ z_fm 59 w w9 ∧ z_mst w9 s9 ∧ s9.1.1 = q_k1 (w0 < 0 ∨ 6 < w0) ∧ sp_MR (if q_k1 (w0 < 0 ∨ 6 < w0) = 0 then S else S) s9 ∧ (q_k1 (w0 < 0 ∨ 6 < w0) = 0 → r9 = sp_C S 2 (sp_i w0))) = Q9
  refine z_body hl (by decide) rfl (Nat.le_of_ble_eq_true rfl) ?_
  show z_J G l mX11_shelfCounts _ 0 [(0, _), (1, _)] [] _ 0 0
  refine j_aload_n dX11_shelfCounts_0 rfl rfl ?_
  refine j_iload_n dX11_shelfCounts_1 rfl ?_
  refine j_iconst (v := 0) dX11_shelfCounts_2 (by decide) ?_
  refine j_bipush (v := 6) dX11_shelfCounts_3 (by decide) ?_
  refine j_callS dX11_shelfCounts_5 kX11_isIn lX11_59 stX11_isIn (cm_isIn_r hl w _ (0) (6)) (Nat.le_of_ble_eq_true rfl) ⟨(Nat.le_of_ble_eq_true rfl), (Nat.le_of_ble_eq_true rfl)⟩ rfl (Nat.le_of_ble_eq_true rfl) rfl rfl (fun _ _ h => h.elim) ?_
  rintro _ _ ⟨⟨rfl, hi314⟩ | ⟨rfl, hno314⟩, hw314⟩
  · refine j_w w hw314 ?_
    obtain ⟨i314, hq314, rfl⟩ := sp_nt (m := 6) rfl (by omega) hi314
    have ei314 : sp_i (nI i314) = i314 := sp_in' (by omega)
    refine j_if_ne (tgt := 15) dX11_shelfCounts_8 (by decide) (fun c_8_11 => ?_) (fun c_8_11 => ?_)
    · refine j_iconst (v := 0) dX11_shelfCounts_15 (by decide) ?_
      refine j_iconst (v := 1) dX11_shelfCounts_16 (by decide) ?_
      refine j_callV (q := (RX11, TX11, 8)) dX11_shelfCounts_17 kX11_start lX11_76 inX11_start seX11_start h.m rfl (cm_start0 hl w _ _ h) (Nat.le_of_ble_eq_true rfl) ⟨(Nat.le_of_ble_eq_true rfl), (Nat.le_of_ble_eq_true rfl)⟩ rfl (Nat.le_of_ble_eq_true rfl) rfl rfl (fun _ _ h => h.elim) ?_
      rintro _ w1 ⟨rfl, fm1, h1⟩
      have R1 := R.th (k := 0)
      refine j_if_eq (tgt := 27) dX11_shelfCounts_20 (by decide) (fun c_20_17 => ?_) (fun c_20_17 => ?_)
      · refine j_aload_n dX11_shelfCounts_27 rfl rfl ?_
        refine j_getf dX11_shelfCounts_28 fX11_31 h1.m rfl ?_
        refine j_iconst (v := 2) dX11_shelfCounts_31 (by decide) ?_
        obtain ⟨fz315, gz315, hz315⟩ := h1.co
        refine j_aald (v := .ref (1004 + 2)) dX11_shelfCounts_32 gz315 rfl rfl (vp_in_nI (n := 2) (by decide) (by decide)) (by rw [show (2 : Int32).toNatClampNeg = 2 by decide]; exact hz315 _ (by decide)) ?_
        refine j_iload_n dX11_shelfCounts_33 rfl ?_
        refine j_ld dX11_shelfCounts_34 (h1.cn (i := 2) (by decide)) (vp_in_nI (by omega) (by omega)) ?_
        refine j_iret dX11_shelfCounts_35 rfl rfl ?_ (Nat.le_of_ble_eq_true rfl) (Nat.le_of_ble_eq_true rfl)
        refine cast (congrFun (congrFun hQ9 _) _) ?_
        try rw [ei314]
        refine ⟨_, _, rfl, (fm1.le (q' := 59) (by decide)), h1, sp_X0 ?_ rfl R1 (by rw [z_cla (by omega)]; exact R1.c (by omega) (by omega))⟩
        (first | (refine if_neg ?_ <;> (first | assumption | (refine Or.inl ?_; assumption) | (refine Or.inr ?_; assumption) | (refine Or.inr (Or.inl ?_); assumption) | (refine Or.inr (Or.inr ?_); assumption) | (refine Or.inr (Or.inr (Or.inl ?_)); assumption) | (refine Or.inr (Or.inr (Or.inr ?_)); assumption) | (refine fun z => Or.elim z ?_ ?_ <;> assumption) | (refine fun z => Or.elim z ?_ (fun z => Or.elim z ?_ ?_) <;> assumption) | (refine fun z => Or.elim z ?_ (fun z => Or.elim z ?_ (fun z => Or.elim z ?_ ?_)) <;> assumption) | (refine fun z => Or.elim z (fun z9 => z9 ?_) ?_ <;> (first | assumption | (refine Or.inl ?_; assumption) | (refine Or.inr (Or.inl ?_); assumption) | (refine Or.inr (Or.inr ?_); assumption) | (refine Or.inr (Or.inr (Or.inl ?_)); assumption) | (refine Or.inr (Or.inr (Or.inr ?_)); assumption))) | (refine Or.inl (fun z => Or.elim z ?_ (fun z => Or.elim z ?_ ?_)) <;> assumption) | (refine Or.inl (fun z => Or.elim z ?_ (fun z => Or.elim z ?_ (fun z => Or.elim z ?_ ?_))) <;> assumption))))
      · exact absurd c_20_17 (by decide)
    · exact absurd c_8_11 (by decide)
  · refine j_w w hw314 ?_
    refine j_if_ne (tgt := 15) dX11_shelfCounts_8 (by decide) (fun c_8_33 => ?_) (fun c_8_33 => ?_)
    · exact absurd c_8_33 (by decide)
    · refine j_iconst (v := 1) dX11_shelfCounts_11 (by decide) ?_
      refine j_goto (tgt := 16) dX11_shelfCounts_12 (by decide) ?_
      refine j_iconst (v := 1) dX11_shelfCounts_16 (by decide) ?_
      refine j_callV (q := (RX11, TX11, 8)) dX11_shelfCounts_17 kX11_start lX11_76 inX11_start seX11_start h.m rfl (cm_start1 hl w _ _ h (by decide)) (Nat.le_of_ble_eq_true rfl) ⟨(Nat.le_of_ble_eq_true rfl), (Nat.le_of_ble_eq_true rfl)⟩ rfl (Nat.le_of_ble_eq_true rfl) rfl rfl (fun _ _ h => h.elim) ?_
      rintro _ w2 ⟨rfl, fm2, h2⟩
      have R2 := R.th (k := 1)
      refine j_if_eq (tgt := 27) dX11_shelfCounts_20 (by decide) (fun c_20_41 => ?_) (fun c_20_41 => ?_)
      · exact absurd c_20_41 (by decide)
      · refine j_iconst (v := 0) dX11_shelfCounts_23 (by decide) ?_
        refine j_goto (tgt := 35) dX11_shelfCounts_24 (by decide) ?_
        refine j_iret dX11_shelfCounts_35 rfl rfl ?_ (Nat.le_of_ble_eq_true rfl) (Nat.le_of_ble_eq_true rfl)
        refine cast (congrFun (congrFun hQ9 _) _) ?_
        refine ⟨_, _, rfl, (fm2.le (q' := 59) (by decide)), h2, sp_X1 (k := 1) ?_ (by decide) rfl R2⟩
        (first | (refine if_pos ?_ <;> (first | assumption | (refine Or.inl ?_; assumption) | (refine Or.inr ?_; assumption) | (refine Or.inr (Or.inl ?_); assumption) | (refine Or.inr (Or.inr ?_); assumption) | (refine Or.inr (Or.inr (Or.inl ?_)); assumption) | (refine Or.inr (Or.inr (Or.inr ?_)); assumption) | (refine fun z => Or.elim z ?_ ?_ <;> assumption) | (refine fun z => Or.elim z ?_ (fun z => Or.elim z ?_ ?_) <;> assumption) | (refine fun z => Or.elim z ?_ (fun z => Or.elim z ?_ (fun z => Or.elim z ?_ ?_)) <;> assumption) | (refine fun z => Or.elim z (fun z9 => z9 ?_) ?_ <;> (first | assumption | (refine Or.inl ?_; assumption) | (refine Or.inr (Or.inl ?_); assumption) | (refine Or.inr (Or.inr ?_); assumption) | (refine Or.inr (Or.inr (Or.inl ?_)); assumption) | (refine Or.inr (Or.inr (Or.inr ?_)); assumption))) | (refine Or.inl (fun z => Or.elim z ?_ (fun z => Or.elim z ?_ ?_)) <;> assumption) | (refine Or.inl (fun z => Or.elim z ?_ (fun z => Or.elim z ?_ (fun z => Or.elim z ?_ ?_))) <;> assumption))))
set_option maxRecDepth 100000 in
set_option maxHeartbeats 8000000 in
theorem cx_takeStep (hl : l.stackTraces = false) (w : z_W) (S : sp_S) (s : z_Z) (a : Int32) (b : Int32) (h : z_mst w s) (R : sp_MR S s)  : z_Con G l mX11_takeStep 20 0 0 w [.ref 1000, .int a, .int b] (fun v w9 => ∃ (r9 : Int32) (s9 : z_Z), v = some (.int r9) ∧ z_fm 59 w w9 ∧ z_mst w9 s9 ∧ s9.1.1 = q_k1 (sp_bv b ∨ (a < -999 ∨ b < a)) ∧ sp_MR (if q_k1 (sp_bv b ∨ (a < -999 ∨ b < a)) = 0 then sp_nine S else S) s9 ∧ (q_k1 (sp_bv b ∨ (a < -999 ∨ b < a)) = 0 → r9 = (-9 : Int32))) (fun _ _ => False) := by
  generalize hQ9 : (fun (v : Option Value) (w9 : z_W) => ∃ (r9 : Int32) (s9 : z_Z), v = some (.int r9) ∧ z_fm 59 w w9 ∧ z_mst w9 s9 ∧ s9.1.1 = q_k1 (sp_bv b ∨ (a < -999 ∨ b < a)) ∧ sp_MR (if q_k1 (sp_bv b ∨ (a < -999 ∨ b < a)) = 0 then sp_nine S else S) s9 ∧ (q_k1 (sp_bv b ∨ (a < -999 ∨ b < a)) = 0 → r9 = (-9 : Int32))) = Q9
  refine z_body hl (by decide) rfl (Nat.le_of_ble_eq_true rfl) ?_
  show z_J G l mX11_takeStep _ 0 [(0, _), (1, _), (2, _)] [] _ 0 0
  refine j_aload_n dX11_takeStep_0 rfl rfl ?_
  refine j_iload_n dX11_takeStep_1 rfl ?_
  refine j_callS dX11_takeStep_2 kX11_isNoValue lX11_79 stX11_isNoValue (cm_isNoValue_r hl w _) (Nat.le_of_ble_eq_true rfl) ⟨(Nat.le_of_ble_eq_true rfl), (Nat.le_of_ble_eq_true rfl)⟩ rfl (Nat.le_of_ble_eq_true rfl) rfl rfl (fun _ _ h => h.elim) ?_
  rintro _ _ ⟨⟨rfl, hno317⟩ | ⟨rfl, hye317⟩, hw317⟩
  · refine j_w w hw317 ?_
    refine j_if_ne (tgt := 20) dX11_takeStep_5 (by decide) (fun c_5_7 => ?_) (fun c_5_7 => ?_)
    · refine j_iconst (v := 1) dX11_takeStep_20 (by decide) ?_
      refine j_goto (tgt := 25) dX11_takeStep_21 (by decide) ?_
      refine j_iconst (v := 1) dX11_takeStep_25 (by decide) ?_
      refine j_callV (q := (RX11, TX11, 8)) dX11_takeStep_26 kX11_start lX11_76 inX11_start seX11_start h.m rfl (cm_start1 hl w _ _ h (by decide)) (Nat.le_of_ble_eq_true rfl) ⟨(Nat.le_of_ble_eq_true rfl), (Nat.le_of_ble_eq_true rfl)⟩ rfl (Nat.le_of_ble_eq_true rfl) rfl rfl (fun _ _ h => h.elim) ?_
      rintro _ w1 ⟨rfl, fm1, h1⟩
      have R1 := R.th (k := 1)
      refine j_if_eq (tgt := 36) dX11_takeStep_29 (by decide) (fun c_29_14 => ?_) (fun c_29_14 => ?_)
      · exact absurd c_29_14 (by decide)
      · refine j_iconst (v := 0) dX11_takeStep_32 (by decide) ?_
        refine j_goto (tgt := 40) dX11_takeStep_33 (by decide) ?_
        refine j_iret dX11_takeStep_40 rfl rfl ?_ (Nat.le_of_ble_eq_true rfl) (Nat.le_of_ble_eq_true rfl)
        refine cast (congrFun (congrFun hQ9 _) _) ?_
        refine ⟨_, _, rfl, (fm1.le (q' := 59) (by decide)), h1, sp_X1 (k := 1) ?_ (by decide) rfl R1⟩
        (first | (refine if_pos (q_ts.mpr (fun z => q_inn z.1 ?_)); assumption) | (refine if_pos (q_ts.mpr (fun z => q_inn z.2.1 ?_)); assumption) | (refine if_pos (q_ts.mpr (fun z => (?_ : ¬ _) z.2.2)); assumption))
    · exact absurd c_5_7 (by decide)
  · refine j_w w hw317 ?_
    refine j_if_ne (tgt := 20) dX11_takeStep_5 (by decide) (fun c_5_24 => ?_) (fun c_5_24 => ?_)
    · exact absurd c_5_24 (by decide)
    · refine j_iload_n dX11_takeStep_8 rfl ?_
      refine j_callS dX11_takeStep_9 kX11_isNoValue lX11_79 stX11_isNoValue (cm_isNoValue_r hl w _) (Nat.le_of_ble_eq_true rfl) ⟨(Nat.le_of_ble_eq_true rfl), (Nat.le_of_ble_eq_true rfl)⟩ rfl (Nat.le_of_ble_eq_true rfl) rfl rfl (fun _ _ h => h.elim) ?_
      rintro _ _ ⟨⟨rfl, hno318⟩ | ⟨rfl, hye318⟩, hw318⟩
      · refine j_w w hw318 ?_
        refine j_if_ne (tgt := 20) dX11_takeStep_12 (by decide) (fun c_12_30 => ?_) (fun c_12_30 => ?_)
        · refine j_iconst (v := 1) dX11_takeStep_20 (by decide) ?_
          refine j_goto (tgt := 25) dX11_takeStep_21 (by decide) ?_
          refine j_iconst (v := 1) dX11_takeStep_25 (by decide) ?_
          refine j_callV (q := (RX11, TX11, 8)) dX11_takeStep_26 kX11_start lX11_76 inX11_start seX11_start h.m rfl (cm_start1 hl w _ _ h (by decide)) (Nat.le_of_ble_eq_true rfl) ⟨(Nat.le_of_ble_eq_true rfl), (Nat.le_of_ble_eq_true rfl)⟩ rfl (Nat.le_of_ble_eq_true rfl) rfl rfl (fun _ _ h => h.elim) ?_
          rintro _ w2 ⟨rfl, fm2, h2⟩
          have R2 := R.th (k := 1)
          refine j_if_eq (tgt := 36) dX11_takeStep_29 (by decide) (fun c_29_37 => ?_) (fun c_29_37 => ?_)
          · exact absurd c_29_37 (by decide)
          · refine j_iconst (v := 0) dX11_takeStep_32 (by decide) ?_
            refine j_goto (tgt := 40) dX11_takeStep_33 (by decide) ?_
            refine j_iret dX11_takeStep_40 rfl rfl ?_ (Nat.le_of_ble_eq_true rfl) (Nat.le_of_ble_eq_true rfl)
            refine cast (congrFun (congrFun hQ9 _) _) ?_
            refine ⟨_, _, rfl, (fm2.le (q' := 59) (by decide)), h2, sp_X1 (k := 1) ?_ (by decide) rfl R2⟩
            (first | (refine if_pos (q_ts.mpr (fun z => q_inn z.1 ?_)); assumption) | (refine if_pos (q_ts.mpr (fun z => q_inn z.2.1 ?_)); assumption) | (refine if_pos (q_ts.mpr (fun z => (?_ : ¬ _) z.2.2)); assumption))
        · exact absurd c_12_30 (by decide)
      · refine j_w w hw318 ?_
        refine j_if_ne (tgt := 20) dX11_takeStep_12 (by decide) (fun c_12_47 => ?_) (fun c_12_47 => ?_)
        · exact absurd c_12_47 (by decide)
        · refine j_iload_n dX11_takeStep_15 rfl ?_
          refine j_iload_n dX11_takeStep_16 rfl ?_
          refine j_icmp_le (tgt := 24) dX11_takeStep_17 (by decide) (fun c_17_51 => ?_) (fun c_17_51 => ?_)
          · refine j_iconst (v := 0) dX11_takeStep_24 (by decide) ?_
            refine j_iconst (v := 1) dX11_takeStep_25 (by decide) ?_
            refine j_callV (q := (RX11, TX11, 8)) dX11_takeStep_26 kX11_start lX11_76 inX11_start seX11_start h.m rfl (cm_start0 hl w _ _ h) (Nat.le_of_ble_eq_true rfl) ⟨(Nat.le_of_ble_eq_true rfl), (Nat.le_of_ble_eq_true rfl)⟩ rfl (Nat.le_of_ble_eq_true rfl) rfl rfl (fun _ _ h => h.elim) ?_
            rintro _ w3 ⟨rfl, fm3, h3⟩
            have R3 := R.th (k := 0)
            refine j_if_eq (tgt := 36) dX11_takeStep_29 (by decide) (fun c_29_57 => ?_) (fun c_29_57 => ?_)
            · refine j_aload_n dX11_takeStep_36 rfl rfl ?_
              refine j_callV (q := (RX11, TX11, 8)) dX11_takeStep_37 kX11_nine lX11_105 inX11_nine seX11_nine h3.m rfl (cm_nine hl w3 _ h3) (Nat.le_of_ble_eq_true rfl) ⟨(Nat.le_of_ble_eq_true rfl), (Nat.le_of_ble_eq_true rfl)⟩ rfl (Nat.le_of_ble_eq_true rfl) rfl rfl (fun _ _ h => h.elim) ?_
              rintro _ w4 ⟨rfl, fm4, h4⟩
              have R4 := R3.ni
              refine j_iret dX11_takeStep_40 rfl rfl ?_ (Nat.le_of_ble_eq_true rfl) (Nat.le_of_ble_eq_true rfl)
              refine cast (congrFun (congrFun hQ9 _) _) ?_
              refine ⟨_, _, rfl, ((fm3.le (q' := 59) (by decide)).tr (fm4.le (q' := 59) (by decide))), h4, sp_X0 ?_ rfl R4 rfl⟩
              (refine if_neg (fun z => q_ts.mp z ⟨q_nor ?_, q_nor ?_, ?_⟩) <;> assumption)
            · exact absurd c_29_57 (by decide)
          · refine j_iconst (v := 1) dX11_takeStep_20 (by decide) ?_
            refine j_goto (tgt := 25) dX11_takeStep_21 (by decide) ?_
            refine j_iconst (v := 1) dX11_takeStep_25 (by decide) ?_
            refine j_callV (q := (RX11, TX11, 8)) dX11_takeStep_26 kX11_start lX11_76 inX11_start seX11_start h.m rfl (cm_start1 hl w _ _ h (by decide)) (Nat.le_of_ble_eq_true rfl) ⟨(Nat.le_of_ble_eq_true rfl), (Nat.le_of_ble_eq_true rfl)⟩ rfl (Nat.le_of_ble_eq_true rfl) rfl rfl (fun _ _ h => h.elim) ?_
            rintro _ w5 ⟨rfl, fm5, h5⟩
            have R5 := R.th (k := 1)
            refine j_if_eq (tgt := 36) dX11_takeStep_29 (by decide) (fun c_29_73 => ?_) (fun c_29_73 => ?_)
            · exact absurd c_29_73 (by decide)
            · refine j_iconst (v := 0) dX11_takeStep_32 (by decide) ?_
              refine j_goto (tgt := 40) dX11_takeStep_33 (by decide) ?_
              refine j_iret dX11_takeStep_40 rfl rfl ?_ (Nat.le_of_ble_eq_true rfl) (Nat.le_of_ble_eq_true rfl)
              refine cast (congrFun (congrFun hQ9 _) _) ?_
              refine ⟨_, _, rfl, (fm5.le (q' := 59) (by decide)), h5, sp_X1 (k := 1) ?_ (by decide) rfl R5⟩
              (first | (refine if_pos (q_ts.mpr (fun z => q_inn z.1 ?_)); assumption) | (refine if_pos (q_ts.mpr (fun z => q_inn z.2.1 ?_)); assumption) | (refine if_pos (q_ts.mpr (fun z => (?_ : ¬ _) z.2.2)); assumption))
set_option maxRecDepth 100000 in
set_option maxHeartbeats 8000000 in
theorem cx_given (hl : l.stackTraces = false) (w : z_W) (S : sp_S) (s : z_Z) (r : Int32) (k : Int32) (y : Int32) (n : Int32) (h : z_mst w s) (R : sp_MR S s)  : z_Con G l mX11_given 20 0 0 w [.ref 1000, .int r, .int k, .int y, .int n] (fun v w9 => ∃ (r9 : Int32) (s9 : z_Z), v = some (.int r9) ∧ z_fm 59 w w9 ∧ z_mst w9 s9 ∧ s9.1.1 = q_k1 (sp_bk k ∨ (y < -1000 ∨ 999 < y) ∨ (r < 0 ∨ 5 < r) ∨ sp_bv n) ∧ sp_MR (if q_k1 (sp_bk k ∨ (y < -1000 ∨ 999 < y) ∨ (r < 0 ∨ 5 < r) ∨ sp_bv n) = 0 then S else S) s9 ∧ (q_k1 (sp_bk k ∨ (y < -1000 ∨ 999 < y) ∨ (r < 0 ∨ 5 < r) ∨ sp_bv n) = 0 → r9 = (q_rt r k (q_d y) n).getD (-9))) (fun _ _ => False) := by
  generalize hQ9 : (fun (v : Option Value) (w9 : z_W) => ∃ (r9 : Int32) (s9 : z_Z), v = some (.int r9) ∧ z_fm 59 w w9 ∧ z_mst w9 s9 ∧ s9.1.1 = q_k1 (sp_bk k ∨ (y < -1000 ∨ 999 < y) ∨ (r < 0 ∨ 5 < r) ∨ sp_bv n) ∧ sp_MR (if q_k1 (sp_bk k ∨ (y < -1000 ∨ 999 < y) ∨ (r < 0 ∨ 5 < r) ∨ sp_bv n) = 0 then S else S) s9 ∧ (q_k1 (sp_bk k ∨ (y < -1000 ∨ 999 < y) ∨ (r < 0 ∨ 5 < r) ∨ sp_bv n) = 0 → r9 = (q_rt r k (q_d y) n).getD (-9))) = Q9
  refine z_body hl (by decide) rfl (Nat.le_of_ble_eq_true rfl) ?_
  show z_J G l mX11_given _ 0 [(0, _), (1, _), (2, _), (3, _), (4, _)] [] _ 0 0
  refine j_aload_n dX11_given_0 rfl rfl ?_
  refine j_iload_n dX11_given_1 rfl ?_
  refine j_callS dX11_given_2 kX11_isNoKey lX11_139 stX11_isNoKey (cm_isNoKey_r hl w _) (Nat.le_of_ble_eq_true rfl) ⟨(Nat.le_of_ble_eq_true rfl), (Nat.le_of_ble_eq_true rfl)⟩ rfl (Nat.le_of_ble_eq_true rfl) rfl rfl (fun _ _ h => h.elim) ?_
  rintro _ _ ⟨⟨rfl, hno319⟩ | ⟨rfl, i319, hi319, ht319, rfl⟩, hw319⟩
  · refine j_w w hw319 ?_
    refine j_if_ne (tgt := 38) dX11_given_5 (by decide) (fun c_5_7 => ?_) (fun c_5_7 => ?_)
    · refine j_iconst (v := 1) dX11_given_38 (by decide) ?_
      refine j_goto (tgt := 43) dX11_given_39 (by decide) ?_
      refine j_iconst (v := 1) dX11_given_43 (by decide) ?_
      refine j_callV (q := (RX11, TX11, 8)) dX11_given_44 kX11_start lX11_76 inX11_start seX11_start h.m rfl (cm_start1 hl w _ _ h (by decide)) (Nat.le_of_ble_eq_true rfl) ⟨(Nat.le_of_ble_eq_true rfl), (Nat.le_of_ble_eq_true rfl)⟩ rfl (Nat.le_of_ble_eq_true rfl) rfl rfl (fun _ _ h => h.elim) ?_
      rintro _ w1 ⟨rfl, fm1, h1⟩
      have R1 := R.th (k := 1)
      refine j_if_eq (tgt := 52) dX11_given_47 (by decide) (fun c_47_14 => ?_) (fun c_47_14 => ?_)
      · exact absurd c_47_14 (by decide)
      · refine j_iconst (v := 0) dX11_given_50 (by decide) ?_
        refine j_iret dX11_given_51 rfl rfl ?_ (Nat.le_of_ble_eq_true rfl) (Nat.le_of_ble_eq_true rfl)
        refine cast (congrFun (congrFun hQ9 _) _) ?_
        refine ⟨_, _, rfl, (fm1.le (q' := 59) (by decide)), h1, sp_X1 (k := 1) ?_ (by decide) rfl R1⟩
        (first | (refine if_pos ?_ <;> (first | assumption | (refine Or.inl ?_; assumption) | (refine Or.inr ?_; assumption) | (refine Or.inr (Or.inl ?_); assumption) | (refine Or.inr (Or.inr ?_); assumption) | (refine Or.inr (Or.inr (Or.inl ?_)); assumption) | (refine Or.inr (Or.inr (Or.inr ?_)); assumption) | (refine fun z => Or.elim z ?_ ?_ <;> assumption) | (refine fun z => Or.elim z ?_ (fun z => Or.elim z ?_ ?_) <;> assumption) | (refine fun z => Or.elim z ?_ (fun z => Or.elim z ?_ (fun z => Or.elim z ?_ ?_)) <;> assumption) | (refine fun z => Or.elim z (fun z9 => z9 ?_) ?_ <;> (first | assumption | (refine Or.inl ?_; assumption) | (refine Or.inr (Or.inl ?_); assumption) | (refine Or.inr (Or.inr ?_); assumption) | (refine Or.inr (Or.inr (Or.inl ?_)); assumption) | (refine Or.inr (Or.inr (Or.inr ?_)); assumption))) | (refine Or.inl (fun z => Or.elim z ?_ (fun z => Or.elim z ?_ ?_)) <;> assumption) | (refine Or.inl (fun z => Or.elim z ?_ (fun z => Or.elim z ?_ (fun z => Or.elim z ?_ ?_))) <;> assumption))))
    · exact absurd c_5_7 (by decide)
  · refine j_w w hw319 ?_
    have ei319 : sp_i (nI i319) = i319 := sp_in' (by omega)
    refine j_if_ne (tgt := 38) dX11_given_5 (by decide) (fun c_5_24 => ?_) (fun c_5_24 => ?_)
    · exact absurd c_5_24 (by decide)
    · refine j_iload_n dX11_given_8 rfl ?_
      refine j_sipush (v := (-1000)) dX11_given_9 (by decide) ?_
      refine j_sipush (v := 999) dX11_given_12 (by decide) ?_
      refine j_callS dX11_given_15 kX11_isIn lX11_59 stX11_isIn (cm_isIn_r hl w _ (-1000) (999)) (Nat.le_of_ble_eq_true rfl) ⟨(Nat.le_of_ble_eq_true rfl), (Nat.le_of_ble_eq_true rfl)⟩ rfl (Nat.le_of_ble_eq_true rfl) rfl rfl (fun _ _ h => h.elim) ?_
      rintro _ _ ⟨⟨rfl, hye320⟩ | ⟨rfl, hno320⟩, hw320⟩
      · refine j_w w hw320 ?_
        refine j_if_eq (tgt := 38) dX11_given_18 (by decide) (fun c_18_32 => ?_) (fun c_18_32 => ?_)
        · exact absurd c_18_32 (by decide)
        · refine j_iload_n dX11_given_21 rfl ?_
          refine j_iconst (v := 0) dX11_given_22 (by decide) ?_
          refine j_iconst (v := 5) dX11_given_23 (by decide) ?_
          refine j_callS dX11_given_24 kX11_isIn lX11_59 stX11_isIn (cm_isIn_r hl w _ (0) (5)) (Nat.le_of_ble_eq_true rfl) ⟨(Nat.le_of_ble_eq_true rfl), (Nat.le_of_ble_eq_true rfl)⟩ rfl (Nat.le_of_ble_eq_true rfl) rfl rfl (fun _ _ h => h.elim) ?_
          rintro _ _ ⟨⟨rfl, hye321⟩ | ⟨rfl, hno321⟩, hw321⟩
          · refine j_w w hw321 ?_
            refine j_if_eq (tgt := 38) dX11_given_27 (by decide) (fun c_27_40 => ?_) (fun c_27_40 => ?_)
            · exact absurd c_27_40 (by decide)
            · refine j_iload dX11_given_30 rfl ?_
              refine j_callS dX11_given_32 kX11_isNoValue lX11_79 stX11_isNoValue (cm_isNoValue_r hl w _) (Nat.le_of_ble_eq_true rfl) ⟨(Nat.le_of_ble_eq_true rfl), (Nat.le_of_ble_eq_true rfl)⟩ rfl (Nat.le_of_ble_eq_true rfl) rfl rfl (fun _ _ h => h.elim) ?_
              rintro _ _ ⟨⟨rfl, hno322⟩ | ⟨rfl, hye322⟩, hw322⟩
              · refine j_w w hw322 ?_
                refine j_if_eq (tgt := 42) dX11_given_35 (by decide) (fun c_35_46 => ?_) (fun c_35_46 => ?_)
                · exact absurd c_35_46 (by decide)
                · refine j_iconst (v := 1) dX11_given_38 (by decide) ?_
                  refine j_goto (tgt := 43) dX11_given_39 (by decide) ?_
                  refine j_iconst (v := 1) dX11_given_43 (by decide) ?_
                  refine j_callV (q := (RX11, TX11, 8)) dX11_given_44 kX11_start lX11_76 inX11_start seX11_start h.m rfl (cm_start1 hl w _ _ h (by decide)) (Nat.le_of_ble_eq_true rfl) ⟨(Nat.le_of_ble_eq_true rfl), (Nat.le_of_ble_eq_true rfl)⟩ rfl (Nat.le_of_ble_eq_true rfl) rfl rfl (fun _ _ h => h.elim) ?_
                  rintro _ w2 ⟨rfl, fm2, h2⟩
                  have R2 := R.th (k := 1)
                  refine j_if_eq (tgt := 52) dX11_given_47 (by decide) (fun c_47_54 => ?_) (fun c_47_54 => ?_)
                  · exact absurd c_47_54 (by decide)
                  · refine j_iconst (v := 0) dX11_given_50 (by decide) ?_
                    refine j_iret dX11_given_51 rfl rfl ?_ (Nat.le_of_ble_eq_true rfl) (Nat.le_of_ble_eq_true rfl)
                    refine cast (congrFun (congrFun hQ9 _) _) ?_
                    try rw [ei319]
                    refine ⟨_, _, rfl, (fm2.le (q' := 59) (by decide)), h2, sp_X1 (k := 1) ?_ (by decide) rfl R2⟩
                    (first | (refine if_pos ?_ <;> (first | assumption | (refine Or.inl ?_; assumption) | (refine Or.inr ?_; assumption) | (refine Or.inr (Or.inl ?_); assumption) | (refine Or.inr (Or.inr ?_); assumption) | (refine Or.inr (Or.inr (Or.inl ?_)); assumption) | (refine Or.inr (Or.inr (Or.inr ?_)); assumption) | (refine fun z => Or.elim z ?_ ?_ <;> assumption) | (refine fun z => Or.elim z ?_ (fun z => Or.elim z ?_ ?_) <;> assumption) | (refine fun z => Or.elim z ?_ (fun z => Or.elim z ?_ (fun z => Or.elim z ?_ ?_)) <;> assumption) | (refine fun z => Or.elim z (fun z9 => z9 ?_) ?_ <;> (first | assumption | (refine Or.inl ?_; assumption) | (refine Or.inr (Or.inl ?_); assumption) | (refine Or.inr (Or.inr ?_); assumption) | (refine Or.inr (Or.inr (Or.inl ?_)); assumption) | (refine Or.inr (Or.inr (Or.inr ?_)); assumption))) | (refine Or.inl (fun z => Or.elim z ?_ (fun z => Or.elim z ?_ ?_)) <;> assumption) | (refine Or.inl (fun z => Or.elim z ?_ (fun z => Or.elim z ?_ (fun z => Or.elim z ?_ ?_))) <;> assumption))))
              · refine j_w w hw322 ?_
                refine j_if_eq (tgt := 42) dX11_given_35 (by decide) (fun c_35_63 => ?_) (fun c_35_63 => ?_)
                · refine j_iconst (v := 0) dX11_given_42 (by decide) ?_
                  refine j_iconst (v := 1) dX11_given_43 (by decide) ?_
                  refine j_callV (q := (RX11, TX11, 8)) dX11_given_44 kX11_start lX11_76 inX11_start seX11_start h.m rfl (cm_start0 hl w _ _ h) (Nat.le_of_ble_eq_true rfl) ⟨(Nat.le_of_ble_eq_true rfl), (Nat.le_of_ble_eq_true rfl)⟩ rfl (Nat.le_of_ble_eq_true rfl) rfl rfl (fun _ _ h => h.elim) ?_
                  rintro _ w3 ⟨rfl, fm3, h3⟩
                  have R3 := R.th (k := 0)
                  refine j_if_eq (tgt := 52) dX11_given_47 (by decide) (fun c_47_69 => ?_) (fun c_47_69 => ?_)
                  · refine j_iload_n dX11_given_52 rfl ?_
                    refine j_iload_n dX11_given_53 rfl ?_
                    refine j_iload_n dX11_given_54 rfl ?_
                    refine j_sipush (v := (-1000)) dX11_given_55 (by decide) ?_
                    refine j_icmp_ne (tgt := 65) dX11_given_58 (by decide) (fun c_58_74 => ?_) (fun c_58_74 => ?_)
                    · refine j_iload_n dX11_given_65 rfl ?_
                      refine j_iload dX11_given_66 rfl ?_
                      refine j_callS dX11_given_68 kX11_rule lX11_115 stX11_rule (cm_rule_r hl w3 _ _ _ _ (q_nor (by assumption)).2 (sp_vl (by assumption)).2) (Nat.le_of_ble_eq_true rfl) ⟨(Nat.le_of_ble_eq_true rfl), (Nat.le_of_ble_eq_true rfl)⟩ rfl (Nat.le_of_ble_eq_true rfl) rfl rfl (fun _ _ h => h.elim) ?_
                      rintro _ _ ⟨⟨rfl, hq323⟩ | ⟨y323, rfl, hq323, hne323⟩, hw323⟩
                      · refine j_w w3 hw323 ?_
                        refine j_istore (lo' := [(5, _), (0, _), (1, _), (2, _), (3, _), (4, _)]) dX11_given_71 (by decide) rfl ?_
                        refine j_iload dX11_given_73 rfl ?_
                        refine j_ldc dX11_given_75 kcX11_67 ?_
                        refine j_icmp_ne (tgt := 85) dX11_given_77 (by decide) (fun c_77_83 => ?_) (fun c_77_83 => ?_)
                        · exact absurd c_77_83 (by decide)
                        · refine j_bipush (v := (-9)) dX11_given_80 (by decide) ?_
                          refine j_goto (tgt := 87) dX11_given_82 (by decide) ?_
                          refine j_iret dX11_given_87 rfl rfl ?_ (Nat.le_of_ble_eq_true rfl) (Nat.le_of_ble_eq_true rfl)
                          refine cast (congrFun (congrFun hQ9 _) _) ?_
                          try rw [ei319]
                          refine ⟨_, _, rfl, (fm3.le (q' := 59) (by decide)), h3, sp_X0 ?_ rfl R3 (by rw [show q_d y = _ from (if_neg c_58_74), hq323]; rfl)⟩
                          (first | (refine if_neg ?_ <;> (first | assumption | (refine Or.inl ?_; assumption) | (refine Or.inr ?_; assumption) | (refine Or.inr (Or.inl ?_); assumption) | (refine Or.inr (Or.inr ?_); assumption) | (refine Or.inr (Or.inr (Or.inl ?_)); assumption) | (refine Or.inr (Or.inr (Or.inr ?_)); assumption) | (refine fun z => Or.elim z ?_ ?_ <;> assumption) | (refine fun z => Or.elim z ?_ (fun z => Or.elim z ?_ ?_) <;> assumption) | (refine fun z => Or.elim z ?_ (fun z => Or.elim z ?_ (fun z => Or.elim z ?_ ?_)) <;> assumption) | (refine fun z => Or.elim z (fun z9 => z9 ?_) ?_ <;> (first | assumption | (refine Or.inl ?_; assumption) | (refine Or.inr (Or.inl ?_); assumption) | (refine Or.inr (Or.inr ?_); assumption) | (refine Or.inr (Or.inr (Or.inl ?_)); assumption) | (refine Or.inr (Or.inr (Or.inr ?_)); assumption))) | (refine Or.inl (fun z => Or.elim z ?_ (fun z => Or.elim z ?_ ?_)) <;> assumption) | (refine Or.inl (fun z => Or.elim z ?_ (fun z => Or.elim z ?_ (fun z => Or.elim z ?_ ?_))) <;> assumption))))
                      · refine j_w w3 hw323 ?_
                        refine j_istore (lo' := [(5, _), (0, _), (1, _), (2, _), (3, _), (4, _)]) dX11_given_71 (by decide) rfl ?_
                        refine j_iload dX11_given_73 rfl ?_
                        refine j_ldc dX11_given_75 kcX11_67 ?_
                        refine j_icmp_ne (tgt := 85) dX11_given_77 (by decide) (fun c_77_96 => ?_) (fun c_77_96 => ?_)
                        · refine j_iload dX11_given_85 rfl ?_
                          refine j_iret dX11_given_87 rfl rfl ?_ (Nat.le_of_ble_eq_true rfl) (Nat.le_of_ble_eq_true rfl)
                          refine cast (congrFun (congrFun hQ9 _) _) ?_
                          try rw [ei319]
                          refine ⟨_, _, rfl, (fm3.le (q' := 59) (by decide)), h3, sp_X0 ?_ rfl R3 (by rw [show q_d y = _ from (if_neg c_58_74), hq323]; rfl)⟩
                          (first | (refine if_neg ?_ <;> (first | assumption | (refine Or.inl ?_; assumption) | (refine Or.inr ?_; assumption) | (refine Or.inr (Or.inl ?_); assumption) | (refine Or.inr (Or.inr ?_); assumption) | (refine Or.inr (Or.inr (Or.inl ?_)); assumption) | (refine Or.inr (Or.inr (Or.inr ?_)); assumption) | (refine fun z => Or.elim z ?_ ?_ <;> assumption) | (refine fun z => Or.elim z ?_ (fun z => Or.elim z ?_ ?_) <;> assumption) | (refine fun z => Or.elim z ?_ (fun z => Or.elim z ?_ (fun z => Or.elim z ?_ ?_)) <;> assumption) | (refine fun z => Or.elim z (fun z9 => z9 ?_) ?_ <;> (first | assumption | (refine Or.inl ?_; assumption) | (refine Or.inr (Or.inl ?_); assumption) | (refine Or.inr (Or.inr ?_); assumption) | (refine Or.inr (Or.inr (Or.inl ?_)); assumption) | (refine Or.inr (Or.inr (Or.inr ?_)); assumption))) | (refine Or.inl (fun z => Or.elim z ?_ (fun z => Or.elim z ?_ ?_)) <;> assumption) | (refine Or.inl (fun z => Or.elim z ?_ (fun z => Or.elim z ?_ (fun z => Or.elim z ?_ ?_))) <;> assumption))))
                        · exact absurd c_77_96 hne323
                    · refine j_iconst (v := 0) dX11_given_61 (by decide) ?_
                      refine j_goto (tgt := 66) dX11_given_62 (by decide) ?_
                      refine j_iload dX11_given_66 rfl ?_
                      refine j_callS dX11_given_68 kX11_rule lX11_115 stX11_rule (cm_rule_r hl w3 _ _ _ _ (by decide) (sp_vl (by assumption)).2) (Nat.le_of_ble_eq_true rfl) ⟨(Nat.le_of_ble_eq_true rfl), (Nat.le_of_ble_eq_true rfl)⟩ rfl (Nat.le_of_ble_eq_true rfl) rfl rfl (fun _ _ h => h.elim) ?_
                      rintro _ _ ⟨⟨rfl, hq324⟩ | ⟨y324, rfl, hq324, hne324⟩, hw324⟩
                      · refine j_w w3 hw324 ?_
                        refine j_istore (lo' := [(5, _), (0, _), (1, _), (2, _), (3, _), (4, _)]) dX11_given_71 (by decide) rfl ?_
                        refine j_iload dX11_given_73 rfl ?_
                        refine j_ldc dX11_given_75 kcX11_67 ?_
                        refine j_icmp_ne (tgt := 85) dX11_given_77 (by decide) (fun c_77_113 => ?_) (fun c_77_113 => ?_)
                        · exact absurd c_77_113 (by decide)
                        · refine j_bipush (v := (-9)) dX11_given_80 (by decide) ?_
                          refine j_goto (tgt := 87) dX11_given_82 (by decide) ?_
                          refine j_iret dX11_given_87 rfl rfl ?_ (Nat.le_of_ble_eq_true rfl) (Nat.le_of_ble_eq_true rfl)
                          refine cast (congrFun (congrFun hQ9 _) _) ?_
                          try rw [ei319]
                          refine ⟨_, _, rfl, (fm3.le (q' := 59) (by decide)), h3, sp_X0 ?_ rfl R3 (by rw [show q_d y = _ from (if_pos c_58_74), hq324]; rfl)⟩
                          (first | (refine if_neg ?_ <;> (first | assumption | (refine Or.inl ?_; assumption) | (refine Or.inr ?_; assumption) | (refine Or.inr (Or.inl ?_); assumption) | (refine Or.inr (Or.inr ?_); assumption) | (refine Or.inr (Or.inr (Or.inl ?_)); assumption) | (refine Or.inr (Or.inr (Or.inr ?_)); assumption) | (refine fun z => Or.elim z ?_ ?_ <;> assumption) | (refine fun z => Or.elim z ?_ (fun z => Or.elim z ?_ ?_) <;> assumption) | (refine fun z => Or.elim z ?_ (fun z => Or.elim z ?_ (fun z => Or.elim z ?_ ?_)) <;> assumption) | (refine fun z => Or.elim z (fun z9 => z9 ?_) ?_ <;> (first | assumption | (refine Or.inl ?_; assumption) | (refine Or.inr (Or.inl ?_); assumption) | (refine Or.inr (Or.inr ?_); assumption) | (refine Or.inr (Or.inr (Or.inl ?_)); assumption) | (refine Or.inr (Or.inr (Or.inr ?_)); assumption))) | (refine Or.inl (fun z => Or.elim z ?_ (fun z => Or.elim z ?_ ?_)) <;> assumption) | (refine Or.inl (fun z => Or.elim z ?_ (fun z => Or.elim z ?_ (fun z => Or.elim z ?_ ?_))) <;> assumption))))
                      · refine j_w w3 hw324 ?_
                        refine j_istore (lo' := [(5, _), (0, _), (1, _), (2, _), (3, _), (4, _)]) dX11_given_71 (by decide) rfl ?_
                        refine j_iload dX11_given_73 rfl ?_
                        refine j_ldc dX11_given_75 kcX11_67 ?_
                        refine j_icmp_ne (tgt := 85) dX11_given_77 (by decide) (fun c_77_126 => ?_) (fun c_77_126 => ?_)
                        · refine j_iload dX11_given_85 rfl ?_
                          refine j_iret dX11_given_87 rfl rfl ?_ (Nat.le_of_ble_eq_true rfl) (Nat.le_of_ble_eq_true rfl)
                          refine cast (congrFun (congrFun hQ9 _) _) ?_
                          try rw [ei319]
                          refine ⟨_, _, rfl, (fm3.le (q' := 59) (by decide)), h3, sp_X0 ?_ rfl R3 (by rw [show q_d y = _ from (if_pos c_58_74), hq324]; rfl)⟩
                          (first | (refine if_neg ?_ <;> (first | assumption | (refine Or.inl ?_; assumption) | (refine Or.inr ?_; assumption) | (refine Or.inr (Or.inl ?_); assumption) | (refine Or.inr (Or.inr ?_); assumption) | (refine Or.inr (Or.inr (Or.inl ?_)); assumption) | (refine Or.inr (Or.inr (Or.inr ?_)); assumption) | (refine fun z => Or.elim z ?_ ?_ <;> assumption) | (refine fun z => Or.elim z ?_ (fun z => Or.elim z ?_ ?_) <;> assumption) | (refine fun z => Or.elim z ?_ (fun z => Or.elim z ?_ (fun z => Or.elim z ?_ ?_)) <;> assumption) | (refine fun z => Or.elim z (fun z9 => z9 ?_) ?_ <;> (first | assumption | (refine Or.inl ?_; assumption) | (refine Or.inr (Or.inl ?_); assumption) | (refine Or.inr (Or.inr ?_); assumption) | (refine Or.inr (Or.inr (Or.inl ?_)); assumption) | (refine Or.inr (Or.inr (Or.inr ?_)); assumption))) | (refine Or.inl (fun z => Or.elim z ?_ (fun z => Or.elim z ?_ ?_)) <;> assumption) | (refine Or.inl (fun z => Or.elim z ?_ (fun z => Or.elim z ?_ (fun z => Or.elim z ?_ ?_))) <;> assumption))))
                        · exact absurd c_77_126 hne324
                  · exact absurd c_47_69 (by decide)
                · exact absurd c_35_63 (by decide)
          · refine j_w w hw321 ?_
            refine j_if_eq (tgt := 38) dX11_given_27 (by decide) (fun c_27_137 => ?_) (fun c_27_137 => ?_)
            · refine j_iconst (v := 1) dX11_given_38 (by decide) ?_
              refine j_goto (tgt := 43) dX11_given_39 (by decide) ?_
              refine j_iconst (v := 1) dX11_given_43 (by decide) ?_
              refine j_callV (q := (RX11, TX11, 8)) dX11_given_44 kX11_start lX11_76 inX11_start seX11_start h.m rfl (cm_start1 hl w _ _ h (by decide)) (Nat.le_of_ble_eq_true rfl) ⟨(Nat.le_of_ble_eq_true rfl), (Nat.le_of_ble_eq_true rfl)⟩ rfl (Nat.le_of_ble_eq_true rfl) rfl rfl (fun _ _ h => h.elim) ?_
              rintro _ w4 ⟨rfl, fm4, h4⟩
              have R4 := R.th (k := 1)
              refine j_if_eq (tgt := 52) dX11_given_47 (by decide) (fun c_47_144 => ?_) (fun c_47_144 => ?_)
              · exact absurd c_47_144 (by decide)
              · refine j_iconst (v := 0) dX11_given_50 (by decide) ?_
                refine j_iret dX11_given_51 rfl rfl ?_ (Nat.le_of_ble_eq_true rfl) (Nat.le_of_ble_eq_true rfl)
                refine cast (congrFun (congrFun hQ9 _) _) ?_
                try rw [ei319]
                refine ⟨_, _, rfl, (fm4.le (q' := 59) (by decide)), h4, sp_X1 (k := 1) ?_ (by decide) rfl R4⟩
                (first | (refine if_pos ?_ <;> (first | assumption | (refine Or.inl ?_; assumption) | (refine Or.inr ?_; assumption) | (refine Or.inr (Or.inl ?_); assumption) | (refine Or.inr (Or.inr ?_); assumption) | (refine Or.inr (Or.inr (Or.inl ?_)); assumption) | (refine Or.inr (Or.inr (Or.inr ?_)); assumption) | (refine fun z => Or.elim z ?_ ?_ <;> assumption) | (refine fun z => Or.elim z ?_ (fun z => Or.elim z ?_ ?_) <;> assumption) | (refine fun z => Or.elim z ?_ (fun z => Or.elim z ?_ (fun z => Or.elim z ?_ ?_)) <;> assumption) | (refine fun z => Or.elim z (fun z9 => z9 ?_) ?_ <;> (first | assumption | (refine Or.inl ?_; assumption) | (refine Or.inr (Or.inl ?_); assumption) | (refine Or.inr (Or.inr ?_); assumption) | (refine Or.inr (Or.inr (Or.inl ?_)); assumption) | (refine Or.inr (Or.inr (Or.inr ?_)); assumption))) | (refine Or.inl (fun z => Or.elim z ?_ (fun z => Or.elim z ?_ ?_)) <;> assumption) | (refine Or.inl (fun z => Or.elim z ?_ (fun z => Or.elim z ?_ (fun z => Or.elim z ?_ ?_))) <;> assumption))))
            · exact absurd c_27_137 (by decide)
      · refine j_w w hw320 ?_
        refine j_if_eq (tgt := 38) dX11_given_18 (by decide) (fun c_18_154 => ?_) (fun c_18_154 => ?_)
        · refine j_iconst (v := 1) dX11_given_38 (by decide) ?_
          refine j_goto (tgt := 43) dX11_given_39 (by decide) ?_
          refine j_iconst (v := 1) dX11_given_43 (by decide) ?_
          refine j_callV (q := (RX11, TX11, 8)) dX11_given_44 kX11_start lX11_76 inX11_start seX11_start h.m rfl (cm_start1 hl w _ _ h (by decide)) (Nat.le_of_ble_eq_true rfl) ⟨(Nat.le_of_ble_eq_true rfl), (Nat.le_of_ble_eq_true rfl)⟩ rfl (Nat.le_of_ble_eq_true rfl) rfl rfl (fun _ _ h => h.elim) ?_
          rintro _ w5 ⟨rfl, fm5, h5⟩
          have R5 := R.th (k := 1)
          refine j_if_eq (tgt := 52) dX11_given_47 (by decide) (fun c_47_161 => ?_) (fun c_47_161 => ?_)
          · exact absurd c_47_161 (by decide)
          · refine j_iconst (v := 0) dX11_given_50 (by decide) ?_
            refine j_iret dX11_given_51 rfl rfl ?_ (Nat.le_of_ble_eq_true rfl) (Nat.le_of_ble_eq_true rfl)
            refine cast (congrFun (congrFun hQ9 _) _) ?_
            try rw [ei319]
            refine ⟨_, _, rfl, (fm5.le (q' := 59) (by decide)), h5, sp_X1 (k := 1) ?_ (by decide) rfl R5⟩
            (first | (refine if_pos ?_ <;> (first | assumption | (refine Or.inl ?_; assumption) | (refine Or.inr ?_; assumption) | (refine Or.inr (Or.inl ?_); assumption) | (refine Or.inr (Or.inr ?_); assumption) | (refine Or.inr (Or.inr (Or.inl ?_)); assumption) | (refine Or.inr (Or.inr (Or.inr ?_)); assumption) | (refine fun z => Or.elim z ?_ ?_ <;> assumption) | (refine fun z => Or.elim z ?_ (fun z => Or.elim z ?_ ?_) <;> assumption) | (refine fun z => Or.elim z ?_ (fun z => Or.elim z ?_ (fun z => Or.elim z ?_ ?_)) <;> assumption) | (refine fun z => Or.elim z (fun z9 => z9 ?_) ?_ <;> (first | assumption | (refine Or.inl ?_; assumption) | (refine Or.inr (Or.inl ?_); assumption) | (refine Or.inr (Or.inr ?_); assumption) | (refine Or.inr (Or.inr (Or.inl ?_)); assumption) | (refine Or.inr (Or.inr (Or.inr ?_)); assumption))) | (refine Or.inl (fun z => Or.elim z ?_ (fun z => Or.elim z ?_ ?_)) <;> assumption) | (refine Or.inl (fun z => Or.elim z ?_ (fun z => Or.elim z ?_ (fun z => Or.elim z ?_ ?_))) <;> assumption))))
        · exact absurd c_18_154 (by decide)
set_option maxRecDepth 100000 in
set_option maxHeartbeats 8000000 in
theorem cx_tested (hl : l.stackTraces = false) (w : z_W) (S : sp_S) (s : z_Z) (t : Int32) (y : Int32) (n : Int32) (h : z_mst w s) (R : sp_MR S s)  : z_Con G l mX11_tested 20 0 0 w [.ref 1000, .int t, .int y, .int n] (fun v w9 => ∃ (r9 : Int32) (s9 : z_Z), v = some (.int r9) ∧ z_fm 59 w w9 ∧ z_mst w9 s9 ∧ s9.1.1 = q_k1 ((t < 0 ∨ 5 < t) ∨ sp_bv y ∨ sp_bv n) ∧ sp_MR (if q_k1 ((t < 0 ∨ 5 < t) ∨ sp_bv y ∨ sp_bv n) = 0 then S else S) s9 ∧ (q_k1 ((t < 0 ∨ 5 < t) ∨ sp_bv y ∨ sp_bv n) = 0 → r9 = (q_tt t y n).getD (-9))) (fun _ _ => False) := by
  generalize hQ9 : (fun (v : Option Value) (w9 : z_W) => ∃ (r9 : Int32) (s9 : z_Z), v = some (.int r9) ∧ z_fm 59 w w9 ∧ z_mst w9 s9 ∧ s9.1.1 = q_k1 ((t < 0 ∨ 5 < t) ∨ sp_bv y ∨ sp_bv n) ∧ sp_MR (if q_k1 ((t < 0 ∨ 5 < t) ∨ sp_bv y ∨ sp_bv n) = 0 then S else S) s9 ∧ (q_k1 ((t < 0 ∨ 5 < t) ∨ sp_bv y ∨ sp_bv n) = 0 → r9 = (q_tt t y n).getD (-9))) = Q9
  refine z_body hl (by decide) rfl (Nat.le_of_ble_eq_true rfl) ?_
  show z_J G l mX11_tested _ 0 [(0, _), (1, _), (2, _), (3, _)] [] _ 0 0
  refine j_aload_n dX11_tested_0 rfl rfl ?_
  refine j_iload_n dX11_tested_1 rfl ?_
  refine j_iconst (v := 0) dX11_tested_2 (by decide) ?_
  refine j_iconst (v := 5) dX11_tested_3 (by decide) ?_
  refine j_callS dX11_tested_4 kX11_isIn lX11_59 stX11_isIn (cm_isIn_r hl w _ (0) (5)) (Nat.le_of_ble_eq_true rfl) ⟨(Nat.le_of_ble_eq_true rfl), (Nat.le_of_ble_eq_true rfl)⟩ rfl (Nat.le_of_ble_eq_true rfl) rfl rfl (fun _ _ h => h.elim) ?_
  rintro _ _ ⟨⟨rfl, hye325⟩ | ⟨rfl, hno325⟩, hw325⟩
  · refine j_w w hw325 ?_
    refine j_if_eq (tgt := 24) dX11_tested_7 (by decide) (fun c_7_9 => ?_) (fun c_7_9 => ?_)
    · exact absurd c_7_9 (by decide)
    · refine j_iload_n dX11_tested_10 rfl ?_
      refine j_callS dX11_tested_11 kX11_isNoValue lX11_79 stX11_isNoValue (cm_isNoValue_r hl w _) (Nat.le_of_ble_eq_true rfl) ⟨(Nat.le_of_ble_eq_true rfl), (Nat.le_of_ble_eq_true rfl)⟩ rfl (Nat.le_of_ble_eq_true rfl) rfl rfl (fun _ _ h => h.elim) ?_
      rintro _ _ ⟨⟨rfl, hno326⟩ | ⟨rfl, hye326⟩, hw326⟩
      · refine j_w w hw326 ?_
        refine j_if_ne (tgt := 24) dX11_tested_14 (by decide) (fun c_14_15 => ?_) (fun c_14_15 => ?_)
        · refine j_iconst (v := 1) dX11_tested_24 (by decide) ?_
          refine j_goto (tgt := 29) dX11_tested_25 (by decide) ?_
          refine j_iconst (v := 1) dX11_tested_29 (by decide) ?_
          refine j_callV (q := (RX11, TX11, 8)) dX11_tested_30 kX11_start lX11_76 inX11_start seX11_start h.m rfl (cm_start1 hl w _ _ h (by decide)) (Nat.le_of_ble_eq_true rfl) ⟨(Nat.le_of_ble_eq_true rfl), (Nat.le_of_ble_eq_true rfl)⟩ rfl (Nat.le_of_ble_eq_true rfl) rfl rfl (fun _ _ h => h.elim) ?_
          rintro _ w1 ⟨rfl, fm1, h1⟩
          have R1 := R.th (k := 1)
          refine j_if_eq (tgt := 38) dX11_tested_33 (by decide) (fun c_33_22 => ?_) (fun c_33_22 => ?_)
          · exact absurd c_33_22 (by decide)
          · refine j_iconst (v := 0) dX11_tested_36 (by decide) ?_
            refine j_iret dX11_tested_37 rfl rfl ?_ (Nat.le_of_ble_eq_true rfl) (Nat.le_of_ble_eq_true rfl)
            refine cast (congrFun (congrFun hQ9 _) _) ?_
            refine ⟨_, _, rfl, (fm1.le (q' := 59) (by decide)), h1, sp_X1 (k := 1) ?_ (by decide) rfl R1⟩
            (first | (refine if_pos ?_ <;> (first | assumption | (refine Or.inl ?_; assumption) | (refine Or.inr ?_; assumption) | (refine Or.inr (Or.inl ?_); assumption) | (refine Or.inr (Or.inr ?_); assumption) | (refine Or.inr (Or.inr (Or.inl ?_)); assumption) | (refine Or.inr (Or.inr (Or.inr ?_)); assumption) | (refine fun z => Or.elim z ?_ ?_ <;> assumption) | (refine fun z => Or.elim z ?_ (fun z => Or.elim z ?_ ?_) <;> assumption) | (refine fun z => Or.elim z ?_ (fun z => Or.elim z ?_ (fun z => Or.elim z ?_ ?_)) <;> assumption) | (refine fun z => Or.elim z (fun z9 => z9 ?_) ?_ <;> (first | assumption | (refine Or.inl ?_; assumption) | (refine Or.inr (Or.inl ?_); assumption) | (refine Or.inr (Or.inr ?_); assumption) | (refine Or.inr (Or.inr (Or.inl ?_)); assumption) | (refine Or.inr (Or.inr (Or.inr ?_)); assumption))) | (refine Or.inl (fun z => Or.elim z ?_ (fun z => Or.elim z ?_ ?_)) <;> assumption) | (refine Or.inl (fun z => Or.elim z ?_ (fun z => Or.elim z ?_ (fun z => Or.elim z ?_ ?_))) <;> assumption))))
        · exact absurd c_14_15 (by decide)
      · refine j_w w hw326 ?_
        refine j_if_ne (tgt := 24) dX11_tested_14 (by decide) (fun c_14_31 => ?_) (fun c_14_31 => ?_)
        · exact absurd c_14_31 (by decide)
        · refine j_iload_n dX11_tested_17 rfl ?_
          refine j_callS dX11_tested_18 kX11_isNoValue lX11_79 stX11_isNoValue (cm_isNoValue_r hl w _) (Nat.le_of_ble_eq_true rfl) ⟨(Nat.le_of_ble_eq_true rfl), (Nat.le_of_ble_eq_true rfl)⟩ rfl (Nat.le_of_ble_eq_true rfl) rfl rfl (fun _ _ h => h.elim) ?_
          rintro _ _ ⟨⟨rfl, hno327⟩ | ⟨rfl, hye327⟩, hw327⟩
          · refine j_w w hw327 ?_
            refine j_if_eq (tgt := 28) dX11_tested_21 (by decide) (fun c_21_37 => ?_) (fun c_21_37 => ?_)
            · exact absurd c_21_37 (by decide)
            · refine j_iconst (v := 1) dX11_tested_24 (by decide) ?_
              refine j_goto (tgt := 29) dX11_tested_25 (by decide) ?_
              refine j_iconst (v := 1) dX11_tested_29 (by decide) ?_
              refine j_callV (q := (RX11, TX11, 8)) dX11_tested_30 kX11_start lX11_76 inX11_start seX11_start h.m rfl (cm_start1 hl w _ _ h (by decide)) (Nat.le_of_ble_eq_true rfl) ⟨(Nat.le_of_ble_eq_true rfl), (Nat.le_of_ble_eq_true rfl)⟩ rfl (Nat.le_of_ble_eq_true rfl) rfl rfl (fun _ _ h => h.elim) ?_
              rintro _ w2 ⟨rfl, fm2, h2⟩
              have R2 := R.th (k := 1)
              refine j_if_eq (tgt := 38) dX11_tested_33 (by decide) (fun c_33_45 => ?_) (fun c_33_45 => ?_)
              · exact absurd c_33_45 (by decide)
              · refine j_iconst (v := 0) dX11_tested_36 (by decide) ?_
                refine j_iret dX11_tested_37 rfl rfl ?_ (Nat.le_of_ble_eq_true rfl) (Nat.le_of_ble_eq_true rfl)
                refine cast (congrFun (congrFun hQ9 _) _) ?_
                refine ⟨_, _, rfl, (fm2.le (q' := 59) (by decide)), h2, sp_X1 (k := 1) ?_ (by decide) rfl R2⟩
                (first | (refine if_pos ?_ <;> (first | assumption | (refine Or.inl ?_; assumption) | (refine Or.inr ?_; assumption) | (refine Or.inr (Or.inl ?_); assumption) | (refine Or.inr (Or.inr ?_); assumption) | (refine Or.inr (Or.inr (Or.inl ?_)); assumption) | (refine Or.inr (Or.inr (Or.inr ?_)); assumption) | (refine fun z => Or.elim z ?_ ?_ <;> assumption) | (refine fun z => Or.elim z ?_ (fun z => Or.elim z ?_ ?_) <;> assumption) | (refine fun z => Or.elim z ?_ (fun z => Or.elim z ?_ (fun z => Or.elim z ?_ ?_)) <;> assumption) | (refine fun z => Or.elim z (fun z9 => z9 ?_) ?_ <;> (first | assumption | (refine Or.inl ?_; assumption) | (refine Or.inr (Or.inl ?_); assumption) | (refine Or.inr (Or.inr ?_); assumption) | (refine Or.inr (Or.inr (Or.inl ?_)); assumption) | (refine Or.inr (Or.inr (Or.inr ?_)); assumption))) | (refine Or.inl (fun z => Or.elim z ?_ (fun z => Or.elim z ?_ ?_)) <;> assumption) | (refine Or.inl (fun z => Or.elim z ?_ (fun z => Or.elim z ?_ (fun z => Or.elim z ?_ ?_))) <;> assumption))))
          · refine j_w w hw327 ?_
            refine j_if_eq (tgt := 28) dX11_tested_21 (by decide) (fun c_21_53 => ?_) (fun c_21_53 => ?_)
            · refine j_iconst (v := 0) dX11_tested_28 (by decide) ?_
              refine j_iconst (v := 1) dX11_tested_29 (by decide) ?_
              refine j_callV (q := (RX11, TX11, 8)) dX11_tested_30 kX11_start lX11_76 inX11_start seX11_start h.m rfl (cm_start0 hl w _ _ h) (Nat.le_of_ble_eq_true rfl) ⟨(Nat.le_of_ble_eq_true rfl), (Nat.le_of_ble_eq_true rfl)⟩ rfl (Nat.le_of_ble_eq_true rfl) rfl rfl (fun _ _ h => h.elim) ?_
              rintro _ w3 ⟨rfl, fm3, h3⟩
              have R3 := R.th (k := 0)
              refine j_if_eq (tgt := 38) dX11_tested_33 (by decide) (fun c_33_59 => ?_) (fun c_33_59 => ?_)
              · refine j_iload_n dX11_tested_38 rfl ?_
                refine j_iload_n dX11_tested_39 rfl ?_
                refine j_iload_n dX11_tested_40 rfl ?_
                refine j_callS dX11_tested_41 kX11_test lX11_112 stX11_test (cm_test_r hl w3 _ _ _) (Nat.le_of_ble_eq_true rfl) ⟨(Nat.le_of_ble_eq_true rfl), (Nat.le_of_ble_eq_true rfl)⟩ rfl (Nat.le_of_ble_eq_true rfl) rfl rfl (fun _ _ h => h.elim) ?_
                rintro _ _ ⟨⟨rfl, hq328⟩ | ⟨rfl, hq328⟩ | ⟨rfl, hq328⟩, hw328⟩
                · refine j_w w3 hw328 ?_
                  refine j_istore (lo' := [(4, _), (0, _), (1, _), (2, _), (3, _)]) dX11_tested_44 (by decide) rfl ?_
                  refine j_iload dX11_tested_46 rfl ?_
                  refine j_ldc dX11_tested_48 kcX11_67 ?_
                  refine j_icmp_ne (tgt := 58) dX11_tested_50 (by decide) (fun c_50_69 => ?_) (fun c_50_69 => ?_)
                  · exact absurd c_50_69 (by decide)
                  · refine j_bipush (v := (-9)) dX11_tested_53 (by decide) ?_
                    refine j_goto (tgt := 60) dX11_tested_55 (by decide) ?_
                    refine j_iret dX11_tested_60 rfl rfl ?_ (Nat.le_of_ble_eq_true rfl) (Nat.le_of_ble_eq_true rfl)
                    refine cast (congrFun (congrFun hQ9 _) _) ?_
                    refine ⟨_, _, rfl, (fm3.le (q' := 59) (by decide)), h3, sp_X0 ?_ rfl R3 (by rw [hq328]; rfl)⟩
                    (first | (refine if_neg ?_ <;> (first | assumption | (refine Or.inl ?_; assumption) | (refine Or.inr ?_; assumption) | (refine Or.inr (Or.inl ?_); assumption) | (refine Or.inr (Or.inr ?_); assumption) | (refine Or.inr (Or.inr (Or.inl ?_)); assumption) | (refine Or.inr (Or.inr (Or.inr ?_)); assumption) | (refine fun z => Or.elim z ?_ ?_ <;> assumption) | (refine fun z => Or.elim z ?_ (fun z => Or.elim z ?_ ?_) <;> assumption) | (refine fun z => Or.elim z ?_ (fun z => Or.elim z ?_ (fun z => Or.elim z ?_ ?_)) <;> assumption) | (refine fun z => Or.elim z (fun z9 => z9 ?_) ?_ <;> (first | assumption | (refine Or.inl ?_; assumption) | (refine Or.inr (Or.inl ?_); assumption) | (refine Or.inr (Or.inr ?_); assumption) | (refine Or.inr (Or.inr (Or.inl ?_)); assumption) | (refine Or.inr (Or.inr (Or.inr ?_)); assumption))) | (refine Or.inl (fun z => Or.elim z ?_ (fun z => Or.elim z ?_ ?_)) <;> assumption) | (refine Or.inl (fun z => Or.elim z ?_ (fun z => Or.elim z ?_ (fun z => Or.elim z ?_ ?_))) <;> assumption))))
                · refine j_w w3 hw328 ?_
                  refine j_istore (lo' := [(4, _), (0, _), (1, _), (2, _), (3, _)]) dX11_tested_44 (by decide) rfl ?_
                  refine j_iload dX11_tested_46 rfl ?_
                  refine j_ldc dX11_tested_48 kcX11_67 ?_
                  refine j_icmp_ne (tgt := 58) dX11_tested_50 (by decide) (fun c_50_81 => ?_) (fun c_50_81 => ?_)
                  · refine j_iload dX11_tested_58 rfl ?_
                    refine j_iret dX11_tested_60 rfl rfl ?_ (Nat.le_of_ble_eq_true rfl) (Nat.le_of_ble_eq_true rfl)
                    refine cast (congrFun (congrFun hQ9 _) _) ?_
                    refine ⟨_, _, rfl, (fm3.le (q' := 59) (by decide)), h3, sp_X0 ?_ rfl R3 (by rw [hq328]; rfl)⟩
                    (first | (refine if_neg ?_ <;> (first | assumption | (refine Or.inl ?_; assumption) | (refine Or.inr ?_; assumption) | (refine Or.inr (Or.inl ?_); assumption) | (refine Or.inr (Or.inr ?_); assumption) | (refine Or.inr (Or.inr (Or.inl ?_)); assumption) | (refine Or.inr (Or.inr (Or.inr ?_)); assumption) | (refine fun z => Or.elim z ?_ ?_ <;> assumption) | (refine fun z => Or.elim z ?_ (fun z => Or.elim z ?_ ?_) <;> assumption) | (refine fun z => Or.elim z ?_ (fun z => Or.elim z ?_ (fun z => Or.elim z ?_ ?_)) <;> assumption) | (refine fun z => Or.elim z (fun z9 => z9 ?_) ?_ <;> (first | assumption | (refine Or.inl ?_; assumption) | (refine Or.inr (Or.inl ?_); assumption) | (refine Or.inr (Or.inr ?_); assumption) | (refine Or.inr (Or.inr (Or.inl ?_)); assumption) | (refine Or.inr (Or.inr (Or.inr ?_)); assumption))) | (refine Or.inl (fun z => Or.elim z ?_ (fun z => Or.elim z ?_ ?_)) <;> assumption) | (refine Or.inl (fun z => Or.elim z ?_ (fun z => Or.elim z ?_ (fun z => Or.elim z ?_ ?_))) <;> assumption))))
                  · exact absurd c_50_81 (by decide)
                · refine j_w w3 hw328 ?_
                  refine j_istore (lo' := [(4, _), (0, _), (1, _), (2, _), (3, _)]) dX11_tested_44 (by decide) rfl ?_
                  refine j_iload dX11_tested_46 rfl ?_
                  refine j_ldc dX11_tested_48 kcX11_67 ?_
                  refine j_icmp_ne (tgt := 58) dX11_tested_50 (by decide) (fun c_50_92 => ?_) (fun c_50_92 => ?_)
                  · refine j_iload dX11_tested_58 rfl ?_
                    refine j_iret dX11_tested_60 rfl rfl ?_ (Nat.le_of_ble_eq_true rfl) (Nat.le_of_ble_eq_true rfl)
                    refine cast (congrFun (congrFun hQ9 _) _) ?_
                    refine ⟨_, _, rfl, (fm3.le (q' := 59) (by decide)), h3, sp_X0 ?_ rfl R3 (by rw [hq328]; rfl)⟩
                    (first | (refine if_neg ?_ <;> (first | assumption | (refine Or.inl ?_; assumption) | (refine Or.inr ?_; assumption) | (refine Or.inr (Or.inl ?_); assumption) | (refine Or.inr (Or.inr ?_); assumption) | (refine Or.inr (Or.inr (Or.inl ?_)); assumption) | (refine Or.inr (Or.inr (Or.inr ?_)); assumption) | (refine fun z => Or.elim z ?_ ?_ <;> assumption) | (refine fun z => Or.elim z ?_ (fun z => Or.elim z ?_ ?_) <;> assumption) | (refine fun z => Or.elim z ?_ (fun z => Or.elim z ?_ (fun z => Or.elim z ?_ ?_)) <;> assumption) | (refine fun z => Or.elim z (fun z9 => z9 ?_) ?_ <;> (first | assumption | (refine Or.inl ?_; assumption) | (refine Or.inr (Or.inl ?_); assumption) | (refine Or.inr (Or.inr ?_); assumption) | (refine Or.inr (Or.inr (Or.inl ?_)); assumption) | (refine Or.inr (Or.inr (Or.inr ?_)); assumption))) | (refine Or.inl (fun z => Or.elim z ?_ (fun z => Or.elim z ?_ ?_)) <;> assumption) | (refine Or.inl (fun z => Or.elim z ?_ (fun z => Or.elim z ?_ (fun z => Or.elim z ?_ ?_))) <;> assumption))))
                  · exact absurd c_50_92 (by decide)
              · exact absurd c_33_59 (by decide)
            · exact absurd c_21_53 (by decide)
  · refine j_w w hw325 ?_
    refine j_if_eq (tgt := 24) dX11_tested_7 (by decide) (fun c_7_102 => ?_) (fun c_7_102 => ?_)
    · refine j_iconst (v := 1) dX11_tested_24 (by decide) ?_
      refine j_goto (tgt := 29) dX11_tested_25 (by decide) ?_
      refine j_iconst (v := 1) dX11_tested_29 (by decide) ?_
      refine j_callV (q := (RX11, TX11, 8)) dX11_tested_30 kX11_start lX11_76 inX11_start seX11_start h.m rfl (cm_start1 hl w _ _ h (by decide)) (Nat.le_of_ble_eq_true rfl) ⟨(Nat.le_of_ble_eq_true rfl), (Nat.le_of_ble_eq_true rfl)⟩ rfl (Nat.le_of_ble_eq_true rfl) rfl rfl (fun _ _ h => h.elim) ?_
      rintro _ w4 ⟨rfl, fm4, h4⟩
      have R4 := R.th (k := 1)
      refine j_if_eq (tgt := 38) dX11_tested_33 (by decide) (fun c_33_109 => ?_) (fun c_33_109 => ?_)
      · exact absurd c_33_109 (by decide)
      · refine j_iconst (v := 0) dX11_tested_36 (by decide) ?_
        refine j_iret dX11_tested_37 rfl rfl ?_ (Nat.le_of_ble_eq_true rfl) (Nat.le_of_ble_eq_true rfl)
        refine cast (congrFun (congrFun hQ9 _) _) ?_
        refine ⟨_, _, rfl, (fm4.le (q' := 59) (by decide)), h4, sp_X1 (k := 1) ?_ (by decide) rfl R4⟩
        (first | (refine if_pos ?_ <;> (first | assumption | (refine Or.inl ?_; assumption) | (refine Or.inr ?_; assumption) | (refine Or.inr (Or.inl ?_); assumption) | (refine Or.inr (Or.inr ?_); assumption) | (refine Or.inr (Or.inr (Or.inl ?_)); assumption) | (refine Or.inr (Or.inr (Or.inr ?_)); assumption) | (refine fun z => Or.elim z ?_ ?_ <;> assumption) | (refine fun z => Or.elim z ?_ (fun z => Or.elim z ?_ ?_) <;> assumption) | (refine fun z => Or.elim z ?_ (fun z => Or.elim z ?_ (fun z => Or.elim z ?_ ?_)) <;> assumption) | (refine fun z => Or.elim z (fun z9 => z9 ?_) ?_ <;> (first | assumption | (refine Or.inl ?_; assumption) | (refine Or.inr (Or.inl ?_); assumption) | (refine Or.inr (Or.inr ?_); assumption) | (refine Or.inr (Or.inr (Or.inl ?_)); assumption) | (refine Or.inr (Or.inr (Or.inr ?_)); assumption))) | (refine Or.inl (fun z => Or.elim z ?_ (fun z => Or.elim z ?_ ?_)) <;> assumption) | (refine Or.inl (fun z => Or.elim z ?_ (fun z => Or.elim z ?_ (fun z => Or.elim z ?_ ?_))) <;> assumption))))
    · exact absurd c_7_102 (by decide)
set_option maxRecDepth 100000 in
set_option maxHeartbeats 8000000 in
theorem cx_stop (hl : l.stackTraces = false) (w : z_W) (S : sp_S) (s : z_Z) (g : Int32) (n : Int32) (h : z_mst w s) (R : sp_MR S s)  : z_Con G l mX11_stop 20 0 0 w [.ref 1000, .int g, .int n] (fun v w9 => ∃ (r9 : Int32) (s9 : z_Z), v = some (.int r9) ∧ z_fm 59 w w9 ∧ z_mst w9 s9 ∧ s9.1.1 = q_k22 g (n < -1000 ∨ 99999 < n) ∧ sp_MR (if q_k22 g (n < -1000 ∨ 99999 < n) = 0 then sp_uE S (sp_i g) (sp_stp' (sp_E S (sp_i g)) n) else S) s9 ∧ (q_k22 g (n < -1000 ∨ 99999 < n) = 0 → r9 = (sp_E S (sp_i g)).1.1)) (fun _ _ => False) := by
  generalize hQ9 : (fun (v : Option Value) (w9 : z_W) => ∃ (r9 : Int32) (s9 : z_Z), v = some (.int r9) ∧ z_fm 59 w w9 ∧ z_mst w9 s9 ∧ s9.1.1 = q_k22 g (n < -1000 ∨ 99999 < n) ∧ sp_MR (if q_k22 g (n < -1000 ∨ 99999 < n) = 0 then sp_uE S (sp_i g) (sp_stp' (sp_E S (sp_i g)) n) else S) s9 ∧ (q_k22 g (n < -1000 ∨ 99999 < n) = 0 → r9 = (sp_E S (sp_i g)).1.1)) = Q9
  refine z_body hl (by decide) rfl (Nat.le_of_ble_eq_true rfl) ?_
  show z_J G l mX11_stop _ 0 [(0, _), (1, _), (2, _)] [] _ 0 0
  refine j_aload_n dX11_stop_0 rfl rfl ?_
  refine j_iload_n dX11_stop_1 rfl ?_
  refine j_callS dX11_stop_2 kX11_isNoTwo lX11_72 stX11_isNoTwo (cm_isNoTwo_r hl w _) (Nat.le_of_ble_eq_true rfl) ⟨(Nat.le_of_ble_eq_true rfl), (Nat.le_of_ble_eq_true rfl)⟩ rfl (Nat.le_of_ble_eq_true rfl) rfl rfl (fun _ _ h => h.elim) ?_
  rintro _ _ ⟨⟨rfl, hno329⟩ | ⟨rfl, i329, hi329, ht329, rfl⟩, hw329⟩
  · refine j_w w hw329 ?_
    refine j_iconst (v := 1) dX11_stop_5 (by decide) ?_
    refine j_callV (q := (RX11, TX11, 8)) dX11_stop_6 kX11_start lX11_76 inX11_start seX11_start h.m rfl (cm_start1 hl w _ _ h (by decide)) (Nat.le_of_ble_eq_true rfl) ⟨(Nat.le_of_ble_eq_true rfl), (Nat.le_of_ble_eq_true rfl)⟩ rfl (Nat.le_of_ble_eq_true rfl) rfl rfl (fun _ _ h => h.elim) ?_
    rintro _ w1 ⟨rfl, fm1, h1⟩
    have R1 := R.th (k := 1)
    refine j_if_ne (tgt := 37) dX11_stop_9 (by decide) (fun c_9_11 => ?_) (fun c_9_11 => ?_)
    · refine j_iconst (v := 0) dX11_stop_37 (by decide) ?_
      refine j_iret dX11_stop_38 rfl rfl ?_ (Nat.le_of_ble_eq_true rfl) (Nat.le_of_ble_eq_true rfl)
      refine cast (congrFun (congrFun hQ9 _) _) ?_
      refine ⟨_, _, rfl, (fm1.le (q' := 59) (by decide)), h1, sp_X1 (k := 1) ?_ (by decide) rfl R1⟩
      (first | (refine sp_k22_1 ?_ <;> (first | assumption | (refine Or.inl ?_; assumption) | (refine Or.inr ?_; assumption) | (refine Or.inr (Or.inl ?_); assumption) | (refine Or.inr (Or.inr ?_); assumption) | (refine Or.inr (Or.inr (Or.inl ?_)); assumption) | (refine Or.inr (Or.inr (Or.inr ?_)); assumption) | (refine fun z => Or.elim z ?_ ?_ <;> assumption) | (refine fun z => Or.elim z ?_ (fun z => Or.elim z ?_ ?_) <;> assumption) | (refine fun z => Or.elim z ?_ (fun z => Or.elim z ?_ (fun z => Or.elim z ?_ ?_)) <;> assumption) | (refine fun z => Or.elim z (fun z9 => z9 ?_) ?_ <;> (first | assumption | (refine Or.inl ?_; assumption) | (refine Or.inr (Or.inl ?_); assumption) | (refine Or.inr (Or.inr ?_); assumption) | (refine Or.inr (Or.inr (Or.inl ?_)); assumption) | (refine Or.inr (Or.inr (Or.inr ?_)); assumption))) | (refine Or.inl (fun z => Or.elim z ?_ (fun z => Or.elim z ?_ ?_)) <;> assumption) | (refine Or.inl (fun z => Or.elim z ?_ (fun z => Or.elim z ?_ (fun z => Or.elim z ?_ ?_))) <;> assumption))))
    · exact absurd c_9_11 (by decide)
  · refine j_w w hw329 ?_
    have ei329 : sp_i (nI i329) = i329 := sp_in' (by omega)
    refine j_iconst (v := 1) dX11_stop_5 (by decide) ?_
    refine j_callV (q := (RX11, TX11, 8)) dX11_stop_6 kX11_start lX11_76 inX11_start seX11_start h.m rfl (cm_start0 hl w _ _ h) (Nat.le_of_ble_eq_true rfl) ⟨(Nat.le_of_ble_eq_true rfl), (Nat.le_of_ble_eq_true rfl)⟩ rfl (Nat.le_of_ble_eq_true rfl) rfl rfl (fun _ _ h => h.elim) ?_
    rintro _ w2 ⟨rfl, fm2, h2⟩
    have R2 := R.th (k := 0)
    refine j_if_ne (tgt := 37) dX11_stop_9 (by decide) (fun c_9_24 => ?_) (fun c_9_24 => ?_)
    · exact absurd c_9_24 (by decide)
    · refine j_aload_n dX11_stop_12 rfl rfl ?_
      refine j_iload_n dX11_stop_13 rfl ?_
      refine j_sipush (v := (-1000)) dX11_stop_14 (by decide) ?_
      refine j_ldc dX11_stop_17 kcX11_189 ?_
      refine j_callS dX11_stop_19 kX11_isIn lX11_59 stX11_isIn (cm_isIn_r hl w2 _ (-1000) (99999)) (Nat.le_of_ble_eq_true rfl) ⟨(Nat.le_of_ble_eq_true rfl), (Nat.le_of_ble_eq_true rfl)⟩ rfl (Nat.le_of_ble_eq_true rfl) rfl rfl (fun _ _ h => h.elim) ?_
      rintro _ _ ⟨⟨rfl, hye330⟩ | ⟨rfl, hno330⟩, hw330⟩
      · refine j_w w2 hw330 ?_
        refine j_if_ne (tgt := 29) dX11_stop_22 (by decide) (fun c_22_33 => ?_) (fun c_22_33 => ?_)
        · refine j_iconst (v := 0) dX11_stop_29 (by decide) ?_
          refine j_iconst (v := 2) dX11_stop_30 (by decide) ?_
          refine j_callV (q := (RX11, TX11, 8)) dX11_stop_31 kX11_refuse lX11_52 inX11_refuse seX11_refuse h2.m rfl (cm_refuse0 hl w2 _ _ h2 rfl) (Nat.le_of_ble_eq_true rfl) ⟨(Nat.le_of_ble_eq_true rfl), (Nat.le_of_ble_eq_true rfl)⟩ rfl (Nat.le_of_ble_eq_true rfl) rfl rfl (fun _ _ h => h.elim) ?_
          rintro _ _ ⟨rfl, hw331⟩
          refine j_w w2 hw331 ?_
          refine j_if_eq (tgt := 39) dX11_stop_34 (by decide) (fun c_34_39 => ?_) (fun c_34_39 => ?_)
          · refine j_aload_n dX11_stop_39 rfl rfl ?_
            refine j_getf dX11_stop_40 fX11_40 h2.m rfl ?_
            refine j_iload_n dX11_stop_43 rfl ?_
            obtain ⟨fz332, gz332, hz332⟩ := h2.hs
            refine j_aald (v := .ref (1009 + i329)) dX11_stop_44 gz332 rfl rfl (vp_in_nI (by omega) (by omega)) (by rw [z_cla (by omega)]; exact hz332 _ (by omega)) ?_
            refine j_getf dX11_stop_45 fX11_190 (h2.hd (i := i329) (by omega)) rfl ?_
            refine j_istore_n (lo' := [(3, _), (0, _), (1, _), (2, _)]) dX11_stop_48 (by decide) rfl ?_
            refine j_aload_n dX11_stop_49 rfl rfl ?_
            refine j_getf dX11_stop_50 fX11_40 h2.m rfl ?_
            refine j_iload_n dX11_stop_53 rfl ?_
            obtain ⟨fz333, gz333, hz333⟩ := h2.hs
            refine j_aald (v := .ref (1009 + i329)) dX11_stop_54 gz333 rfl rfl (vp_in_nI (by omega) (by omega)) (by rw [z_cla (by omega)]; exact hz333 _ (by omega)) ?_
            refine j_iload_n dX11_stop_55 rfl ?_
            refine j_put (w' := _) dX11_stop_56 fX11_190 tX10_0 (h2.hd (i := i329) (by omega)) ⟨rfl, rfl⟩ rfl ?_
            refine j_seal (by omega) ?_
            intro w3 u3
            have fw3 := u3.fw (ρ := 49 + i329) (by omega) (by omega)
            have h3 := h2.up49 (i0 := i329) (by omega) fw3 u3.1
            have R3 := R2.ustp (g := i329) (x := n) (by omega)
            refine j_iload_n dX11_stop_59 rfl ?_
            refine j_iret dX11_stop_60 rfl rfl ?_ (Nat.le_of_ble_eq_true rfl) (Nat.le_of_ble_eq_true rfl)
            refine cast (congrFun (congrFun hQ9 _) _) ?_
            try rw [ei329]
            refine ⟨_, _, rfl, ((fm2.le (q' := 59) (by decide)).tr (fw3.fm (q := 59) (by omega))), h3, sp_X0 ?_ rfl R3 (congrArg (fun z => z.1) (R.h (by omega)))⟩
            (first | (refine sp_k22_0 ?_ ?_ <;> (first | assumption | (refine Or.inl ?_; assumption) | (refine Or.inr ?_; assumption) | (refine Or.inr (Or.inl ?_); assumption) | (refine Or.inr (Or.inr ?_); assumption) | (refine Or.inr (Or.inr (Or.inl ?_)); assumption) | (refine Or.inr (Or.inr (Or.inr ?_)); assumption) | (refine fun z => Or.elim z ?_ ?_ <;> assumption) | (refine fun z => Or.elim z ?_ (fun z => Or.elim z ?_ ?_) <;> assumption) | (refine fun z => Or.elim z ?_ (fun z => Or.elim z ?_ (fun z => Or.elim z ?_ ?_)) <;> assumption) | (refine fun z => Or.elim z (fun z9 => z9 ?_) ?_ <;> (first | assumption | (refine Or.inl ?_; assumption) | (refine Or.inr (Or.inl ?_); assumption) | (refine Or.inr (Or.inr ?_); assumption) | (refine Or.inr (Or.inr (Or.inl ?_)); assumption) | (refine Or.inr (Or.inr (Or.inr ?_)); assumption))) | (refine Or.inl (fun z => Or.elim z ?_ (fun z => Or.elim z ?_ ?_)) <;> assumption) | (refine Or.inl (fun z => Or.elim z ?_ (fun z => Or.elim z ?_ (fun z => Or.elim z ?_ ?_))) <;> assumption))))
          · exact absurd c_34_39 (by decide)
        · exact absurd c_22_33 (by decide)
      · refine j_w w2 hw330 ?_
        refine j_if_ne (tgt := 29) dX11_stop_22 (by decide) (fun c_22_68 => ?_) (fun c_22_68 => ?_)
        · exact absurd c_22_68 (by decide)
        · refine j_iconst (v := 1) dX11_stop_25 (by decide) ?_
          refine j_goto (tgt := 30) dX11_stop_26 (by decide) ?_
          refine j_iconst (v := 2) dX11_stop_30 (by decide) ?_
          refine j_callV (q := (RX11, TX11, 8)) dX11_stop_31 kX11_refuse lX11_52 inX11_refuse seX11_refuse h2.m rfl (cm_refuse1 hl w2 _ _ h2 rfl (by decide)) (Nat.le_of_ble_eq_true rfl) ⟨(Nat.le_of_ble_eq_true rfl), (Nat.le_of_ble_eq_true rfl)⟩ rfl (Nat.le_of_ble_eq_true rfl) rfl rfl (fun _ _ h => h.elim) ?_
          rintro _ w4 ⟨rfl, fm4, h4⟩
          have R4 := R2.th (k := 2)
          refine j_if_eq (tgt := 39) dX11_stop_34 (by decide) (fun c_34_76 => ?_) (fun c_34_76 => ?_)
          · exact absurd c_34_76 (by decide)
          · refine j_iconst (v := 0) dX11_stop_37 (by decide) ?_
            refine j_iret dX11_stop_38 rfl rfl ?_ (Nat.le_of_ble_eq_true rfl) (Nat.le_of_ble_eq_true rfl)
            refine cast (congrFun (congrFun hQ9 _) _) ?_
            try rw [ei329]
            refine ⟨_, _, rfl, ((fm2.le (q' := 59) (by decide)).tr (fm4.le (q' := 59) (by decide))), h4, sp_X1 (k := 2) ?_ (by decide) rfl R4⟩
            (first | (refine sp_k22_2 ?_ ?_ <;> (first | assumption | (refine Or.inl ?_; assumption) | (refine Or.inr ?_; assumption) | (refine Or.inr (Or.inl ?_); assumption) | (refine Or.inr (Or.inr ?_); assumption) | (refine Or.inr (Or.inr (Or.inl ?_)); assumption) | (refine Or.inr (Or.inr (Or.inr ?_)); assumption) | (refine fun z => Or.elim z ?_ ?_ <;> assumption) | (refine fun z => Or.elim z ?_ (fun z => Or.elim z ?_ ?_) <;> assumption) | (refine fun z => Or.elim z ?_ (fun z => Or.elim z ?_ (fun z => Or.elim z ?_ ?_)) <;> assumption) | (refine fun z => Or.elim z (fun z9 => z9 ?_) ?_ <;> (first | assumption | (refine Or.inl ?_; assumption) | (refine Or.inr (Or.inl ?_); assumption) | (refine Or.inr (Or.inr ?_); assumption) | (refine Or.inr (Or.inr (Or.inl ?_)); assumption) | (refine Or.inr (Or.inr (Or.inr ?_)); assumption))) | (refine Or.inl (fun z => Or.elim z ?_ (fun z => Or.elim z ?_ ?_)) <;> assumption) | (refine Or.inl (fun z => Or.elim z ?_ (fun z => Or.elim z ?_ (fun z => Or.elim z ?_ ?_))) <;> assumption))))
set_option maxRecDepth 100000 in
set_option maxHeartbeats 8000000 in
theorem cx_forget (hl : l.stackTraces = false) (w : z_W) (S : sp_S) (s : z_Z) (g : Int32) (h : z_mst w s) (R : sp_MR S s)  : z_Con G l mX11_forget 20 0 0 w [.ref 1000, .int g] (fun v w9 => ∃ (r9 : Int32) (s9 : z_Z), v = some (.int r9) ∧ z_fm 59 w w9 ∧ z_mst w9 s9 ∧ s9.1.1 = q_k2 g ∧ sp_MR (if q_k2 g = 0 then sp_uE S (sp_i g) (sp_fgt (sp_E S (sp_i g))) else S) s9 ∧ (q_k2 g = 0 → r9 = (sp_E S (sp_i g)).1.2.1)) (fun _ _ => False) := by
  generalize hQ9 : (fun (v : Option Value) (w9 : z_W) => ∃ (r9 : Int32) (s9 : z_Z), v = some (.int r9) ∧ z_fm 59 w w9 ∧ z_mst w9 s9 ∧ s9.1.1 = q_k2 g ∧ sp_MR (if q_k2 g = 0 then sp_uE S (sp_i g) (sp_fgt (sp_E S (sp_i g))) else S) s9 ∧ (q_k2 g = 0 → r9 = (sp_E S (sp_i g)).1.2.1)) = Q9
  refine z_body hl (by decide) rfl (Nat.le_of_ble_eq_true rfl) ?_
  show z_J G l mX11_forget _ 0 [(0, _), (1, _)] [] _ 0 0
  refine j_aload_n dX11_forget_0 rfl rfl ?_
  refine j_iload_n dX11_forget_1 rfl ?_
  refine j_callS dX11_forget_2 kX11_isNoTwo lX11_72 stX11_isNoTwo (cm_isNoTwo_r hl w _) (Nat.le_of_ble_eq_true rfl) ⟨(Nat.le_of_ble_eq_true rfl), (Nat.le_of_ble_eq_true rfl)⟩ rfl (Nat.le_of_ble_eq_true rfl) rfl rfl (fun _ _ h => h.elim) ?_
  rintro _ _ ⟨⟨rfl, hno334⟩ | ⟨rfl, i334, hi334, ht334, rfl⟩, hw334⟩
  · refine j_w w hw334 ?_
    refine j_iconst (v := 1) dX11_forget_5 (by decide) ?_
    refine j_callV (q := (RX11, TX11, 8)) dX11_forget_6 kX11_start lX11_76 inX11_start seX11_start h.m rfl (cm_start1 hl w _ _ h (by decide)) (Nat.le_of_ble_eq_true rfl) ⟨(Nat.le_of_ble_eq_true rfl), (Nat.le_of_ble_eq_true rfl)⟩ rfl (Nat.le_of_ble_eq_true rfl) rfl rfl (fun _ _ h => h.elim) ?_
    rintro _ w1 ⟨rfl, fm1, h1⟩
    have R1 := R.th (k := 1)
    refine j_if_eq (tgt := 14) dX11_forget_9 (by decide) (fun c_9_11 => ?_) (fun c_9_11 => ?_)
    · exact absurd c_9_11 (by decide)
    · refine j_iconst (v := 0) dX11_forget_12 (by decide) ?_
      refine j_iret dX11_forget_13 rfl rfl ?_ (Nat.le_of_ble_eq_true rfl) (Nat.le_of_ble_eq_true rfl)
      refine cast (congrFun (congrFun hQ9 _) _) ?_
      refine ⟨_, _, rfl, (fm1.le (q' := 59) (by decide)), h1, sp_X1 (k := 1) ?_ (by decide) rfl R1⟩
      (first | (refine sp_k2_1 ?_ <;> (first | assumption | (refine Or.inl ?_; assumption) | (refine Or.inr ?_; assumption) | (refine Or.inr (Or.inl ?_); assumption) | (refine Or.inr (Or.inr ?_); assumption) | (refine Or.inr (Or.inr (Or.inl ?_)); assumption) | (refine Or.inr (Or.inr (Or.inr ?_)); assumption) | (refine fun z => Or.elim z ?_ ?_ <;> assumption) | (refine fun z => Or.elim z ?_ (fun z => Or.elim z ?_ ?_) <;> assumption) | (refine fun z => Or.elim z ?_ (fun z => Or.elim z ?_ (fun z => Or.elim z ?_ ?_)) <;> assumption) | (refine fun z => Or.elim z (fun z9 => z9 ?_) ?_ <;> (first | assumption | (refine Or.inl ?_; assumption) | (refine Or.inr (Or.inl ?_); assumption) | (refine Or.inr (Or.inr ?_); assumption) | (refine Or.inr (Or.inr (Or.inl ?_)); assumption) | (refine Or.inr (Or.inr (Or.inr ?_)); assumption))) | (refine Or.inl (fun z => Or.elim z ?_ (fun z => Or.elim z ?_ ?_)) <;> assumption) | (refine Or.inl (fun z => Or.elim z ?_ (fun z => Or.elim z ?_ (fun z => Or.elim z ?_ ?_))) <;> assumption))))
  · refine j_w w hw334 ?_
    have ei334 : sp_i (nI i334) = i334 := sp_in' (by omega)
    refine j_iconst (v := 1) dX11_forget_5 (by decide) ?_
    refine j_callV (q := (RX11, TX11, 8)) dX11_forget_6 kX11_start lX11_76 inX11_start seX11_start h.m rfl (cm_start0 hl w _ _ h) (Nat.le_of_ble_eq_true rfl) ⟨(Nat.le_of_ble_eq_true rfl), (Nat.le_of_ble_eq_true rfl)⟩ rfl (Nat.le_of_ble_eq_true rfl) rfl rfl (fun _ _ h => h.elim) ?_
    rintro _ w2 ⟨rfl, fm2, h2⟩
    have R2 := R.th (k := 0)
    refine j_if_eq (tgt := 14) dX11_forget_9 (by decide) (fun c_9_24 => ?_) (fun c_9_24 => ?_)
    · refine j_aload_n dX11_forget_14 rfl rfl ?_
      refine j_getf dX11_forget_15 fX11_40 h2.m rfl ?_
      refine j_iload_n dX11_forget_18 rfl ?_
      obtain ⟨fz335, gz335, hz335⟩ := h2.hs
      refine j_aald (v := .ref (1009 + i334)) dX11_forget_19 gz335 rfl rfl (vp_in_nI (by omega) (by omega)) (by rw [z_cla (by omega)]; exact hz335 _ (by omega)) ?_
      refine j_getf dX11_forget_20 fX11_193 (h2.hd (i := i334) (by omega)) rfl ?_
      refine j_istore_n (lo' := [(2, _), (0, _), (1, _)]) dX11_forget_23 (by decide) rfl ?_
      refine j_aload_n dX11_forget_24 rfl rfl ?_
      refine j_getf dX11_forget_25 fX11_40 h2.m rfl ?_
      refine j_iload_n dX11_forget_28 rfl ?_
      obtain ⟨fz336, gz336, hz336⟩ := h2.hs
      refine j_aald (v := .ref (1009 + i334)) dX11_forget_29 gz336 rfl rfl (vp_in_nI (by omega) (by omega)) (by rw [z_cla (by omega)]; exact hz336 _ (by omega)) ?_
      refine j_callVN (q := (RX10, TX10, 5)) dX11_forget_30 kX10_forget lX11_196 inX10_forget seX10_forget (h2.hd (i := i334) (by omega)) rfl (cm_forget_r hl w2 _ _ (i334) h2 R2 (by omega)) (Nat.le_of_ble_eq_true rfl) ⟨(Nat.le_of_ble_eq_true rfl), (Nat.le_of_ble_eq_true rfl)⟩ rfl (Nat.le_of_ble_eq_true rfl) rfl rfl (fun _ _ h => h.elim) ?_
      rintro _ w3 ⟨rfl, s3, fm3, h3, R3, ht3⟩
      have th3 := (congrArg Prod.fst ht3).trans rfl
      refine j_iload_n dX11_forget_33 rfl ?_
      refine j_iret dX11_forget_34 rfl rfl ?_ (Nat.le_of_ble_eq_true rfl) (Nat.le_of_ble_eq_true rfl)
      refine cast (congrFun (congrFun hQ9 _) _) ?_
      try rw [ei334]
      refine ⟨_, _, rfl, ((fm2.le (q' := 59) (by decide)).tr (fm3.le (q' := 59) (by decide))), h3, sp_X0 ?_ th3 R3 (congrArg (fun z => z.2.1) (R.h (by omega)))⟩
      (first | (refine sp_k2_0 ?_ <;> (first | assumption | (refine Or.inl ?_; assumption) | (refine Or.inr ?_; assumption) | (refine Or.inr (Or.inl ?_); assumption) | (refine Or.inr (Or.inr ?_); assumption) | (refine Or.inr (Or.inr (Or.inl ?_)); assumption) | (refine Or.inr (Or.inr (Or.inr ?_)); assumption) | (refine fun z => Or.elim z ?_ ?_ <;> assumption) | (refine fun z => Or.elim z ?_ (fun z => Or.elim z ?_ ?_) <;> assumption) | (refine fun z => Or.elim z ?_ (fun z => Or.elim z ?_ (fun z => Or.elim z ?_ ?_)) <;> assumption) | (refine fun z => Or.elim z (fun z9 => z9 ?_) ?_ <;> (first | assumption | (refine Or.inl ?_; assumption) | (refine Or.inr (Or.inl ?_); assumption) | (refine Or.inr (Or.inr ?_); assumption) | (refine Or.inr (Or.inr (Or.inl ?_)); assumption) | (refine Or.inr (Or.inr (Or.inr ?_)); assumption))) | (refine Or.inl (fun z => Or.elim z ?_ (fun z => Or.elim z ?_ ?_)) <;> assumption) | (refine Or.inl (fun z => Or.elim z ?_ (fun z => Or.elim z ?_ (fun z => Or.elim z ?_ ?_))) <;> assumption))))
    · exact absurd c_9_24 (by decide)
set_option maxRecDepth 100000 in
set_option maxHeartbeats 8000000 in
theorem cx_heardTold (hl : l.stackTraces = false) (w : z_W) (S : sp_S) (s : z_Z) (i : Nat) (y : Int32) (h : z_mst w s) (R : sp_MR S s) (hi : i < 2) : z_Con G l mX11_heardTold 10 0 0 w [.ref 1000, .int (nI i), .int y] (fun v w9 => v = some (.int (sp_tel (sp_E S i) y)) ∧ w9 = w) (fun _ _ => False) := by
  generalize hQ9 : (fun (v : Option Value) (w9 : z_W) => v = some (.int (sp_tel (sp_E S i) y)) ∧ w9 = w) = Q9
  refine z_body hl (by decide) rfl (Nat.le_of_ble_eq_true rfl) ?_
  show z_J G l mX11_heardTold _ 0 [(0, _), (1, _), (2, _)] [] _ 0 0
  refine j_aload_n dX11_heardTold_0 rfl rfl ?_
  refine j_getf dX11_heardTold_1 fX11_40 h.m rfl ?_
  refine j_iload_n dX11_heardTold_4 rfl ?_
  obtain ⟨fz337, gz337, hz337⟩ := h.hs
  refine j_aald (v := .ref (1009 + i)) dX11_heardTold_5 gz337 rfl rfl (vp_in_nI (by omega) (by omega)) (by rw [z_cla (by omega)]; exact hz337 _ (by omega)) ?_
  refine j_astore_n (lo' := [(3, _), (0, _), (1, _), (2, _)]) dX11_heardTold_6 rfl (by decide) rfl ?_
  refine j_iload_n dX11_heardTold_7 rfl ?_
  refine j_if_ne (tgt := 18) dX11_heardTold_8 (by decide) (fun c_8_9 => ?_) (fun c_8_9 => ?_)
  · refine j_iload_n dX11_heardTold_18 rfl ?_
    refine j_iconst (v := 1) dX11_heardTold_19 (by decide) ?_
    refine j_icmp_ne (tgt := 30) dX11_heardTold_20 (by decide) (fun c_20_12 => ?_) (fun c_20_12 => ?_)
    · refine j_iload_n dX11_heardTold_30 rfl ?_
      refine j_iconst (v := 2) dX11_heardTold_31 (by decide) ?_
      refine j_icmp_ne (tgt := 42) dX11_heardTold_32 (by decide) (fun c_32_15 => ?_) (fun c_32_15 => ?_)
      · refine j_aload_n dX11_heardTold_42 rfl rfl ?_
        refine j_getf dX11_heardTold_43 fX11_190 (h.hd (i := i) (by omega)) rfl ?_
        refine j_iret dX11_heardTold_46 rfl rfl ?_ (Nat.le_of_ble_eq_true rfl) (Nat.le_of_ble_eq_true rfl)
        refine cast (congrFun (congrFun hQ9 _) _) ?_
        exact ⟨by unfold sp_tel; rw [if_neg c_8_9, if_neg c_20_12, if_neg c_32_15, ← R.h hi], rfl⟩
      · refine j_aload_n dX11_heardTold_35 rfl rfl ?_
        refine j_getf dX11_heardTold_36 fX11_202 (h.hd (i := i) (by omega)) rfl ?_
        refine j_goto (tgt := 46) dX11_heardTold_39 (by decide) ?_
        refine j_iret dX11_heardTold_46 rfl rfl ?_ (Nat.le_of_ble_eq_true rfl) (Nat.le_of_ble_eq_true rfl)
        refine cast (congrFun (congrFun hQ9 _) _) ?_
        exact ⟨by unfold sp_tel; rw [if_neg c_8_9, if_neg c_20_12, if_pos c_32_15, ← R.h hi], rfl⟩
    · refine j_aload_n dX11_heardTold_23 rfl rfl ?_
      refine j_getf dX11_heardTold_24 fX11_199 (h.hd (i := i) (by omega)) rfl ?_
      refine j_goto (tgt := 46) dX11_heardTold_27 (by decide) ?_
      refine j_iret dX11_heardTold_46 rfl rfl ?_ (Nat.le_of_ble_eq_true rfl) (Nat.le_of_ble_eq_true rfl)
      refine cast (congrFun (congrFun hQ9 _) _) ?_
      exact ⟨by unfold sp_tel; rw [if_neg c_8_9, if_pos c_20_12, ← R.h hi], rfl⟩
  · refine j_aload_n dX11_heardTold_11 rfl rfl ?_
    refine j_getf dX11_heardTold_12 fX11_193 (h.hd (i := i) (by omega)) rfl ?_
    refine j_goto (tgt := 46) dX11_heardTold_15 (by decide) ?_
    refine j_iret dX11_heardTold_46 rfl rfl ?_ (Nat.le_of_ble_eq_true rfl) (Nat.le_of_ble_eq_true rfl)
    refine cast (congrFun (congrFun hQ9 _) _) ?_
    exact ⟨by unfold sp_tel; rw [if_pos c_8_9, ← R.h hi], rfl⟩
set_option maxRecDepth 100000 in
set_option maxHeartbeats 8000000 in
theorem cx_heard (hl : l.stackTraces = false) (w : z_W) (S : sp_S) (s : z_Z) (g : Int32) (w0 : Int32) (h : z_mst w s) (R : sp_MR S s)  : z_Con G l mX11_heard 20 0 0 w [.ref 1000, .int g, .int w0] (fun v w9 => ∃ (r9 : Int32) (s9 : z_Z), v = some (.int r9) ∧ z_fm 59 w w9 ∧ z_mst w9 s9 ∧ s9.1.1 = q_k22 g (w0 < 0 ∨ 3 < w0) ∧ sp_MR (if q_k22 g (w0 < 0 ∨ 3 < w0) = 0 then S else S) s9 ∧ (q_k22 g (w0 < 0 ∨ 3 < w0) = 0 → r9 = sp_tel (sp_E S (sp_i g)) w0)) (fun _ _ => False) := by
  generalize hQ9 : (fun (v : Option Value) (w9 : z_W) => ∃ (r9 : Int32) (s9 : z_Z), v = some (.int r9) ∧ z_fm 59 w w9 ∧ z_mst w9 s9 ∧ s9.1.1 = q_k22 g (w0 < 0 ∨ 3 < w0) ∧ sp_MR (if q_k22 g (w0 < 0 ∨ 3 < w0) = 0 then S else S) s9 ∧ (q_k22 g (w0 < 0 ∨ 3 < w0) = 0 → r9 = sp_tel (sp_E S (sp_i g)) w0)) = Q9
  refine z_body hl (by decide) rfl (Nat.le_of_ble_eq_true rfl) ?_
  show z_J G l mX11_heard _ 0 [(0, _), (1, _), (2, _)] [] _ 0 0
  refine j_aload_n dX11_heard_0 rfl rfl ?_
  refine j_iload_n dX11_heard_1 rfl ?_
  refine j_callS dX11_heard_2 kX11_isNoTwo lX11_72 stX11_isNoTwo (cm_isNoTwo_r hl w _) (Nat.le_of_ble_eq_true rfl) ⟨(Nat.le_of_ble_eq_true rfl), (Nat.le_of_ble_eq_true rfl)⟩ rfl (Nat.le_of_ble_eq_true rfl) rfl rfl (fun _ _ h => h.elim) ?_
  rintro _ _ ⟨⟨rfl, hno338⟩ | ⟨rfl, i338, hi338, ht338, rfl⟩, hw338⟩
  · refine j_w w hw338 ?_
    refine j_iconst (v := 1) dX11_heard_5 (by decide) ?_
    refine j_callV (q := (RX11, TX11, 8)) dX11_heard_6 kX11_start lX11_76 inX11_start seX11_start h.m rfl (cm_start1 hl w _ _ h (by decide)) (Nat.le_of_ble_eq_true rfl) ⟨(Nat.le_of_ble_eq_true rfl), (Nat.le_of_ble_eq_true rfl)⟩ rfl (Nat.le_of_ble_eq_true rfl) rfl rfl (fun _ _ h => h.elim) ?_
    rintro _ w1 ⟨rfl, fm1, h1⟩
    have R1 := R.th (k := 1)
    refine j_if_ne (tgt := 34) dX11_heard_9 (by decide) (fun c_9_11 => ?_) (fun c_9_11 => ?_)
    · refine j_iconst (v := 0) dX11_heard_34 (by decide) ?_
      refine j_goto (tgt := 44) dX11_heard_35 (by decide) ?_
      refine j_iret dX11_heard_44 rfl rfl ?_ (Nat.le_of_ble_eq_true rfl) (Nat.le_of_ble_eq_true rfl)
      refine cast (congrFun (congrFun hQ9 _) _) ?_
      refine ⟨_, _, rfl, (fm1.le (q' := 59) (by decide)), h1, sp_X1 (k := 1) ?_ (by decide) rfl R1⟩
      (first | (refine sp_k22_1 ?_ <;> (first | assumption | (refine Or.inl ?_; assumption) | (refine Or.inr ?_; assumption) | (refine Or.inr (Or.inl ?_); assumption) | (refine Or.inr (Or.inr ?_); assumption) | (refine Or.inr (Or.inr (Or.inl ?_)); assumption) | (refine Or.inr (Or.inr (Or.inr ?_)); assumption) | (refine fun z => Or.elim z ?_ ?_ <;> assumption) | (refine fun z => Or.elim z ?_ (fun z => Or.elim z ?_ ?_) <;> assumption) | (refine fun z => Or.elim z ?_ (fun z => Or.elim z ?_ (fun z => Or.elim z ?_ ?_)) <;> assumption) | (refine fun z => Or.elim z (fun z9 => z9 ?_) ?_ <;> (first | assumption | (refine Or.inl ?_; assumption) | (refine Or.inr (Or.inl ?_); assumption) | (refine Or.inr (Or.inr ?_); assumption) | (refine Or.inr (Or.inr (Or.inl ?_)); assumption) | (refine Or.inr (Or.inr (Or.inr ?_)); assumption))) | (refine Or.inl (fun z => Or.elim z ?_ (fun z => Or.elim z ?_ ?_)) <;> assumption) | (refine Or.inl (fun z => Or.elim z ?_ (fun z => Or.elim z ?_ (fun z => Or.elim z ?_ ?_))) <;> assumption))))
    · exact absurd c_9_11 (by decide)
  · refine j_w w hw338 ?_
    have ei338 : sp_i (nI i338) = i338 := sp_in' (by omega)
    refine j_iconst (v := 1) dX11_heard_5 (by decide) ?_
    refine j_callV (q := (RX11, TX11, 8)) dX11_heard_6 kX11_start lX11_76 inX11_start seX11_start h.m rfl (cm_start0 hl w _ _ h) (Nat.le_of_ble_eq_true rfl) ⟨(Nat.le_of_ble_eq_true rfl), (Nat.le_of_ble_eq_true rfl)⟩ rfl (Nat.le_of_ble_eq_true rfl) rfl rfl (fun _ _ h => h.elim) ?_
    rintro _ w2 ⟨rfl, fm2, h2⟩
    have R2 := R.th (k := 0)
    refine j_if_ne (tgt := 34) dX11_heard_9 (by decide) (fun c_9_25 => ?_) (fun c_9_25 => ?_)
    · exact absurd c_9_25 (by decide)
    · refine j_aload_n dX11_heard_12 rfl rfl ?_
      refine j_iload_n dX11_heard_13 rfl ?_
      refine j_iconst (v := 0) dX11_heard_14 (by decide) ?_
      refine j_iconst (v := 3) dX11_heard_15 (by decide) ?_
      refine j_callS dX11_heard_16 kX11_isIn lX11_59 stX11_isIn (cm_isIn_r hl w2 _ (0) (3)) (Nat.le_of_ble_eq_true rfl) ⟨(Nat.le_of_ble_eq_true rfl), (Nat.le_of_ble_eq_true rfl)⟩ rfl (Nat.le_of_ble_eq_true rfl) rfl rfl (fun _ _ h => h.elim) ?_
      rintro _ _ ⟨⟨rfl, hye339⟩ | ⟨rfl, hno339⟩, hw339⟩
      · refine j_w w2 hw339 ?_
        refine j_if_ne (tgt := 26) dX11_heard_19 (by decide) (fun c_19_34 => ?_) (fun c_19_34 => ?_)
        · refine j_iconst (v := 0) dX11_heard_26 (by decide) ?_
          refine j_iconst (v := 2) dX11_heard_27 (by decide) ?_
          refine j_callV (q := (RX11, TX11, 8)) dX11_heard_28 kX11_refuse lX11_52 inX11_refuse seX11_refuse h2.m rfl (cm_refuse0 hl w2 _ _ h2 rfl) (Nat.le_of_ble_eq_true rfl) ⟨(Nat.le_of_ble_eq_true rfl), (Nat.le_of_ble_eq_true rfl)⟩ rfl (Nat.le_of_ble_eq_true rfl) rfl rfl (fun _ _ h => h.elim) ?_
          rintro _ _ ⟨rfl, hw340⟩
          refine j_w w2 hw340 ?_
          refine j_if_eq (tgt := 38) dX11_heard_31 (by decide) (fun c_31_40 => ?_) (fun c_31_40 => ?_)
          · refine j_aload_n dX11_heard_38 rfl rfl ?_
            refine j_iload_n dX11_heard_39 rfl ?_
            refine j_iload_n dX11_heard_40 rfl ?_
            refine j_callV (q := (RX11, TX11, 8)) dX11_heard_41 kX11_heardTold lX11_205 inX11_heardTold seX11_heardTold h2.m rfl (cx_heardTold hl w2 _ _ (i338) _ h2 R2 (by omega)) (Nat.le_of_ble_eq_true rfl) ⟨(Nat.le_of_ble_eq_true rfl), (Nat.le_of_ble_eq_true rfl)⟩ rfl (Nat.le_of_ble_eq_true rfl) rfl rfl (fun _ _ h => h.elim) ?_
            rintro _ _ ⟨rfl, hw341⟩
            refine j_w w2 hw341 ?_
            refine j_iret dX11_heard_44 rfl rfl ?_ (Nat.le_of_ble_eq_true rfl) (Nat.le_of_ble_eq_true rfl)
            refine cast (congrFun (congrFun hQ9 _) _) ?_
            try rw [ei338]
            refine ⟨_, _, rfl, (fm2.le (q' := 59) (by decide)), h2, sp_X0 ?_ rfl R2 rfl⟩
            (first | (refine sp_k22_0 ?_ ?_ <;> (first | assumption | (refine Or.inl ?_; assumption) | (refine Or.inr ?_; assumption) | (refine Or.inr (Or.inl ?_); assumption) | (refine Or.inr (Or.inr ?_); assumption) | (refine Or.inr (Or.inr (Or.inl ?_)); assumption) | (refine Or.inr (Or.inr (Or.inr ?_)); assumption) | (refine fun z => Or.elim z ?_ ?_ <;> assumption) | (refine fun z => Or.elim z ?_ (fun z => Or.elim z ?_ ?_) <;> assumption) | (refine fun z => Or.elim z ?_ (fun z => Or.elim z ?_ (fun z => Or.elim z ?_ ?_)) <;> assumption) | (refine fun z => Or.elim z (fun z9 => z9 ?_) ?_ <;> (first | assumption | (refine Or.inl ?_; assumption) | (refine Or.inr (Or.inl ?_); assumption) | (refine Or.inr (Or.inr ?_); assumption) | (refine Or.inr (Or.inr (Or.inl ?_)); assumption) | (refine Or.inr (Or.inr (Or.inr ?_)); assumption))) | (refine Or.inl (fun z => Or.elim z ?_ (fun z => Or.elim z ?_ ?_)) <;> assumption) | (refine Or.inl (fun z => Or.elim z ?_ (fun z => Or.elim z ?_ (fun z => Or.elim z ?_ ?_))) <;> assumption))))
          · exact absurd c_31_40 (by decide)
        · exact absurd c_19_34 (by decide)
      · refine j_w w2 hw339 ?_
        refine j_if_ne (tgt := 26) dX11_heard_19 (by decide) (fun c_19_55 => ?_) (fun c_19_55 => ?_)
        · exact absurd c_19_55 (by decide)
        · refine j_iconst (v := 1) dX11_heard_22 (by decide) ?_
          refine j_goto (tgt := 27) dX11_heard_23 (by decide) ?_
          refine j_iconst (v := 2) dX11_heard_27 (by decide) ?_
          refine j_callV (q := (RX11, TX11, 8)) dX11_heard_28 kX11_refuse lX11_52 inX11_refuse seX11_refuse h2.m rfl (cm_refuse1 hl w2 _ _ h2 rfl (by decide)) (Nat.le_of_ble_eq_true rfl) ⟨(Nat.le_of_ble_eq_true rfl), (Nat.le_of_ble_eq_true rfl)⟩ rfl (Nat.le_of_ble_eq_true rfl) rfl rfl (fun _ _ h => h.elim) ?_
          rintro _ w3 ⟨rfl, fm3, h3⟩
          have R3 := R2.th (k := 2)
          refine j_if_eq (tgt := 38) dX11_heard_31 (by decide) (fun c_31_63 => ?_) (fun c_31_63 => ?_)
          · exact absurd c_31_63 (by decide)
          · refine j_iconst (v := 0) dX11_heard_34 (by decide) ?_
            refine j_goto (tgt := 44) dX11_heard_35 (by decide) ?_
            refine j_iret dX11_heard_44 rfl rfl ?_ (Nat.le_of_ble_eq_true rfl) (Nat.le_of_ble_eq_true rfl)
            refine cast (congrFun (congrFun hQ9 _) _) ?_
            try rw [ei338]
            refine ⟨_, _, rfl, ((fm2.le (q' := 59) (by decide)).tr (fm3.le (q' := 59) (by decide))), h3, sp_X1 (k := 2) ?_ (by decide) rfl R3⟩
            (first | (refine sp_k22_2 ?_ ?_ <;> (first | assumption | (refine Or.inl ?_; assumption) | (refine Or.inr ?_; assumption) | (refine Or.inr (Or.inl ?_); assumption) | (refine Or.inr (Or.inr ?_); assumption) | (refine Or.inr (Or.inr (Or.inl ?_)); assumption) | (refine Or.inr (Or.inr (Or.inr ?_)); assumption) | (refine fun z => Or.elim z ?_ ?_ <;> assumption) | (refine fun z => Or.elim z ?_ (fun z => Or.elim z ?_ ?_) <;> assumption) | (refine fun z => Or.elim z ?_ (fun z => Or.elim z ?_ (fun z => Or.elim z ?_ ?_)) <;> assumption) | (refine fun z => Or.elim z (fun z9 => z9 ?_) ?_ <;> (first | assumption | (refine Or.inl ?_; assumption) | (refine Or.inr (Or.inl ?_); assumption) | (refine Or.inr (Or.inr ?_); assumption) | (refine Or.inr (Or.inr (Or.inl ?_)); assumption) | (refine Or.inr (Or.inr (Or.inr ?_)); assumption))) | (refine Or.inl (fun z => Or.elim z ?_ (fun z => Or.elim z ?_ ?_)) <;> assumption) | (refine Or.inl (fun z => Or.elim z ?_ (fun z => Or.elim z ?_ (fun z => Or.elim z ?_ ?_))) <;> assumption))))
set_option maxRecDepth 100000 in
set_option maxHeartbeats 8000000 in
theorem cx_isNoSpan (hl : l.stackTraces = false) (w : z_W) (x y z : Int32)  : z_Con G l mX11_isNoSpan 14 0 0 w [.int x, .int y, .int z] (fun v w9 => ((v = some (.int 1) ∧ sp_bsp x y z) ∨ (v = some (.int 0) ∧ (¬ sp_bsp x y z) ∧ z_vl x ∧ z_vl y ∧ (1 ≤ z ∧ z ≤ 99) ∧ 0 ≤ z_mny x y z ∧ z_mny x y z ≤ 40)) ∧ w9 = w) (fun _ _ => False) := by
  generalize hQ9 : (fun (v : Option Value) (w9 : z_W) => ((v = some (.int 1) ∧ sp_bsp x y z) ∨ (v = some (.int 0) ∧ (¬ sp_bsp x y z) ∧ z_vl x ∧ z_vl y ∧ (1 ≤ z ∧ z ≤ 99) ∧ 0 ≤ z_mny x y z ∧ z_mny x y z ≤ 40)) ∧ w9 = w) = Q9
  refine z_body hl (by decide) rfl (Nat.le_of_ble_eq_true rfl) ?_
  show z_J G l mX11_isNoSpan _ 0 [(0, _), (1, _), (2, _)] [] _ 0 0
  refine j_iload_n dX11_isNoSpan_0 rfl ?_
  refine j_callS dX11_isNoSpan_1 kX11_isNoValue lX11_79 stX11_isNoValue (cm_isNoValue_r hl w _) (Nat.le_of_ble_eq_true rfl) ⟨(Nat.le_of_ble_eq_true rfl), (Nat.le_of_ble_eq_true rfl)⟩ rfl (Nat.le_of_ble_eq_true rfl) rfl rfl (fun _ _ h => h.elim) ?_
  rintro _ _ ⟨⟨rfl, hno342⟩ | ⟨rfl, hye342⟩, hw342⟩
  · refine j_w w hw342 ?_
    refine j_if_ne (tgt := 35) dX11_isNoSpan_4 (by decide) (fun c_4_6 => ?_) (fun c_4_6 => ?_)
    · refine j_iconst (v := 1) dX11_isNoSpan_35 (by decide) ?_
      refine j_goto (tgt := 40) dX11_isNoSpan_36 (by decide) ?_
      refine j_iret dX11_isNoSpan_40 rfl rfl ?_ (Nat.le_of_ble_eq_true rfl) (Nat.le_of_ble_eq_true rfl)
      refine cast (congrFun (congrFun hQ9 _) _) ?_
      exact ⟨Or.inl ⟨rfl, (by first | (refine sp_bsp_a ?_; assumption) | (refine sp_bsp_b ?_; assumption) | (refine sp_bsp_c ?_; assumption) | (refine sp_bsp_d ?_; assumption))⟩, rfl⟩
    · exact absurd c_4_6 (by decide)
  · refine j_w w hw342 ?_
    refine j_if_ne (tgt := 35) dX11_isNoSpan_4 (by decide) (fun c_4_14 => ?_) (fun c_4_14 => ?_)
    · exact absurd c_4_14 (by decide)
    · refine j_iload_n dX11_isNoSpan_7 rfl ?_
      refine j_callS dX11_isNoSpan_8 kX11_isNoValue lX11_79 stX11_isNoValue (cm_isNoValue_r hl w _) (Nat.le_of_ble_eq_true rfl) ⟨(Nat.le_of_ble_eq_true rfl), (Nat.le_of_ble_eq_true rfl)⟩ rfl (Nat.le_of_ble_eq_true rfl) rfl rfl (fun _ _ h => h.elim) ?_
      rintro _ _ ⟨⟨rfl, hno343⟩ | ⟨rfl, hye343⟩, hw343⟩
      · refine j_w w hw343 ?_
        refine j_if_ne (tgt := 35) dX11_isNoSpan_11 (by decide) (fun c_11_20 => ?_) (fun c_11_20 => ?_)
        · refine j_iconst (v := 1) dX11_isNoSpan_35 (by decide) ?_
          refine j_goto (tgt := 40) dX11_isNoSpan_36 (by decide) ?_
          refine j_iret dX11_isNoSpan_40 rfl rfl ?_ (Nat.le_of_ble_eq_true rfl) (Nat.le_of_ble_eq_true rfl)
          refine cast (congrFun (congrFun hQ9 _) _) ?_
          exact ⟨Or.inl ⟨rfl, (by first | (refine sp_bsp_a ?_; assumption) | (refine sp_bsp_b ?_; assumption) | (refine sp_bsp_c ?_; assumption) | (refine sp_bsp_d ?_; assumption))⟩, rfl⟩
        · exact absurd c_11_20 (by decide)
      · refine j_w w hw343 ?_
        refine j_if_ne (tgt := 35) dX11_isNoSpan_11 (by decide) (fun c_11_28 => ?_) (fun c_11_28 => ?_)
        · exact absurd c_11_28 (by decide)
        · refine j_iload_n dX11_isNoSpan_14 rfl ?_
          refine j_iconst (v := 1) dX11_isNoSpan_15 (by decide) ?_
          refine j_bipush (v := 99) dX11_isNoSpan_16 (by decide) ?_
          refine j_callS dX11_isNoSpan_18 kX11_isIn lX11_59 stX11_isIn (cm_isIn_r hl w _ (1) (99)) (Nat.le_of_ble_eq_true rfl) ⟨(Nat.le_of_ble_eq_true rfl), (Nat.le_of_ble_eq_true rfl)⟩ rfl (Nat.le_of_ble_eq_true rfl) rfl rfl (fun _ _ h => h.elim) ?_
          rintro _ _ ⟨⟨rfl, hye344⟩ | ⟨rfl, hno344⟩, hw344⟩
          · refine j_w w hw344 ?_
            refine j_if_eq (tgt := 35) dX11_isNoSpan_21 (by decide) (fun c_21_36 => ?_) (fun c_21_36 => ?_)
            · exact absurd c_21_36 (by decide)
            · refine j_iload_n dX11_isNoSpan_24 rfl ?_
              refine j_iload_n dX11_isNoSpan_25 rfl ?_
              refine j_iload_n dX11_isNoSpan_26 rfl ?_
              refine j_callS dX11_isNoSpan_27 kX11_many lX11_179 stX11_many (cm_many hl w _ _ _ (z_ne0 (q_nor (by assumption)).1)) (Nat.le_of_ble_eq_true rfl) ⟨(Nat.le_of_ble_eq_true rfl), (Nat.le_of_ble_eq_true rfl)⟩ rfl (Nat.le_of_ble_eq_true rfl) rfl rfl (fun _ _ h => h.elim) ?_
              rintro _ _ ⟨rfl, hw345⟩
              refine j_w w hw345 ?_
              refine j_bipush (v := 40) dX11_isNoSpan_30 (by decide) ?_
              refine j_icmp_le (tgt := 39) dX11_isNoSpan_32 (by decide) (fun c_32_45 => ?_) (fun c_32_45 => ?_)
              · refine j_iconst (v := 0) dX11_isNoSpan_39 (by decide) ?_
                refine j_iret dX11_isNoSpan_40 rfl rfl ?_ (Nat.le_of_ble_eq_true rfl) (Nat.le_of_ble_eq_true rfl)
                refine cast (congrFun (congrFun hQ9 _) _) ?_
                exact ⟨Or.inr ⟨rfl, sp_bsp_n (by assumption) (by assumption) (by assumption) c_32_45, sp_vl (by assumption), sp_vl (by assumption), q_nor (by assumption), sp_mny0 (sp_vl (by assumption)) (sp_vl (by assumption)) (q_nor (by assumption)), c_32_45⟩, rfl⟩
              · refine j_iconst (v := 1) dX11_isNoSpan_35 (by decide) ?_
                refine j_goto (tgt := 40) dX11_isNoSpan_36 (by decide) ?_
                refine j_iret dX11_isNoSpan_40 rfl rfl ?_ (Nat.le_of_ble_eq_true rfl) (Nat.le_of_ble_eq_true rfl)
                refine cast (congrFun (congrFun hQ9 _) _) ?_
                exact ⟨Or.inl ⟨rfl, (by first | (refine sp_bsp_a ?_; assumption) | (refine sp_bsp_b ?_; assumption) | (refine sp_bsp_c ?_; assumption) | (refine sp_bsp_d ?_; assumption))⟩, rfl⟩
          · refine j_w w hw344 ?_
            refine j_if_eq (tgt := 35) dX11_isNoSpan_21 (by decide) (fun c_21_56 => ?_) (fun c_21_56 => ?_)
            · refine j_iconst (v := 1) dX11_isNoSpan_35 (by decide) ?_
              refine j_goto (tgt := 40) dX11_isNoSpan_36 (by decide) ?_
              refine j_iret dX11_isNoSpan_40 rfl rfl ?_ (Nat.le_of_ble_eq_true rfl) (Nat.le_of_ble_eq_true rfl)
              refine cast (congrFun (congrFun hQ9 _) _) ?_
              exact ⟨Or.inl ⟨rfl, (by first | (refine sp_bsp_a ?_; assumption) | (refine sp_bsp_b ?_; assumption) | (refine sp_bsp_c ?_; assumption) | (refine sp_bsp_d ?_; assumption))⟩, rfl⟩
            · exact absurd c_21_56 (by decide)
set_option maxRecDepth 100000 in
set_option maxHeartbeats 8000000 in
theorem cx_span (hl : l.stackTraces = false) (w : z_W) (S : sp_S) (s : z_Z) (x y u : Int32) (a0 g : Nat) (h : z_mst w s) (R : sp_MR S s) (hz : 1 ≤ u ∧ u ≤ 99) (h0 : 0 ≤ z_mny x y u) (hm40 : z_mny x y u ≤ 40) (ha : a0 ≤ sp_mn x y u) (hg : g < 2) : z_Con G l mX11_span 20 80 1240 w [.ref 1000, .int x, .int y, .int u, .int (nI a0), .int (nI g)] (fun v w9 => ∃ (s9 : z_Z), v = some (.int (sp_an (sp_hsp S x y u a0 g).1)) ∧ z_fm 59 w w9 ∧ z_mst w9 s9 ∧ sp_MR (sp_hspS S x y u a0 g) s9 ∧ s9.1.1 = s.1.1) (fun _ _ => False) := by
  have hmn : sp_mn x y u ≤ 40 := sp_le40 hm40
  generalize hQ9 : (fun (v : Option Value) (w9 : z_W) => ∃ (s9 : z_Z), v = some (.int (sp_an (sp_hsp S x y u a0 g).1)) ∧ z_fm 59 w w9 ∧ z_mst w9 s9 ∧ sp_MR (sp_hspS S x y u a0 g) s9 ∧ s9.1.1 = s.1.1) = Q9
  refine z_body hl (by decide) rfl (Nat.le_of_ble_eq_true rfl) ?_
  show z_J G l mX11_span _ 0 [(0, _), (1, _), (2, _), (3, _), (4, _), (5, _)] [] _ 0 0
  refine j_iconst (v := 0) dX11_span_0 (by decide) ?_
  refine j_istore (lo' := [(6, _), (0, _), (1, _), (2, _), (3, _), (4, _), (5, _)]) dX11_span_1 (by decide) rfl ?_
  refine j_iload dX11_span_3 rfl ?_
  refine j_istore (lo' := [(7, _), (6, _), (0, _), (1, _), (2, _), (3, _), (4, _), (5, _)]) dX11_span_5 (by decide) rfl ?_
  have loop7 : ∀ (n9 : Nat) (w1 : z_W) (s1 : z_Z) (j mm : Nat) (c : Nat → Int32) (hh : sp_H), (a0 + j ≤ (sp_mn x y u)) → (41 < a0 + j + n9) → (sp_ho c hh mm (sp_spn x u (a0 + j) ((sp_mn x y u) - (a0 + j))) = sp_hsp S x y u a0 g) → (sp_MR (sp_uE S g hh) s1) → (s1.1.1 = s.1.1) → (z_mst w1 s1) → (z_fm 59 w w1) → z_J G l mX11_span (20, 80, 1240, w, Q9, (fun _ _ => False)) 7 [(0, .ref 1000), (1, .int x), (2, .int y), (3, .int u), (4, .int (nI a0)), (5, .int (nI g)), (6, .int (nI mm)), (7, .int (nI (a0 + j)))] [] w1 (2 * j) (31 * j) := by
    intro n9
    induction n9 with
    | zero => intro w1 s1 j mm c hh hj hf9 he hR hth hm hfm; exact absurd hf9 (by omega)
    | succ n9 ih =>
      intro w1 s1 j mm c hh hj hf9 he hR hth hm hfm
      refine j_iload dX11_span_7 rfl ?_
      refine j_iload_n dX11_span_9 rfl ?_
      refine j_iload_n dX11_span_10 rfl ?_
      refine j_iload_n dX11_span_11 rfl ?_
      refine j_callS dX11_span_12 kX11_many lX11_179 stX11_many (cx_many hl w1 _ _ _ hz h0) (Nat.le_of_ble_eq_true rfl) ⟨(by show _ ≤ 80; omega), (by show _ ≤ 1240; omega)⟩ rfl (Nat.le_of_ble_eq_true rfl) rfl rfl (fun _ _ h => h.elim) ?_
      rintro _ _ ⟨rfl, hw346⟩
      refine j_w w1 hw346 ?_
      refine j_icmp_ge (tgt := 51) dX11_span_15 (by decide) (fun c_15_19 => ?_) (fun c_15_19 => ?_)
      · have hb15 : (sp_mn x y u) ≤ (a0 + j) := (nI_leI (a := (sp_mn x y u)) (b := (a0 + j)) (by omega) (by omega)).mp c_15_19
        refine j_iload dX11_span_51 rfl ?_
        refine j_iret dX11_span_53 rfl rfl ?_ (by show _ ≤ 80; omega) (by show _ ≤ 1240; omega)
        refine cast (congrFun (congrFun hQ9 _) _) ?_
        rw [show (sp_mn x y u) - (a0 + j) = 0 from by omega] at he
        exact ⟨_, by rw [← he]; rfl, hfm, hm, by unfold sp_hspS; rw [← he]; exact hR, hth⟩
      · have hb15 : (a0 + j) < (sp_mn x y u) := Nat.not_le.mp (fun z => c_15_19 ((nI_leI (a := (sp_mn x y u)) (b := (a0 + j)) (by omega) (by omega)).mpr z))
        refine j_aload_n dX11_span_18 rfl rfl ?_
        refine j_getf dX11_span_19 fX11_40 hm.m rfl ?_
        refine j_iload dX11_span_22 rfl ?_
        obtain ⟨fz347, gz347, hz347⟩ := hm.hs
        refine j_aald (v := .ref (1009 + g)) dX11_span_24 gz347 rfl rfl (vp_in_nI (by omega) (by omega)) (by rw [z_cla (by omega)]; exact hz347 _ (by omega)) ?_
        refine j_iload_n dX11_span_25 rfl ?_
        refine j_iload dX11_span_26 rfl ?_
        refine j_iload_n dX11_span_28 rfl ?_
        refine j_imul dX11_span_29 ?_
        refine j_iadd dX11_span_30 ?_
        refine j_callVN (q := (RX10, TX10, 5)) dX11_span_31 kX10_refuses lX11_102 inX10_refuses seX10_refuses (hm.hd (i := g) (by omega)) rfl (cm_refuses_r hl w1 (S) hh _ (g) _ hm hR (by omega)) (Nat.le_of_ble_eq_true rfl) ⟨(by show _ ≤ 80; omega), (by show _ ≤ 1240; omega)⟩ rfl (Nat.le_of_ble_eq_true rfl) rfl rfl (fun _ _ h => h.elim) ?_
        rintro _ w2 (⟨rfl, hin2, hw2⟩ | ⟨rfl, h22, s2, hin2, fm2, h2, R2, ht2, hqp2⟩)
        · refine j_w w1 hw2 ?_
          refine j_if_eq (tgt := 42) dX11_span_34 (by decide) (fun c_34_40 => ?_) (fun c_34_40 => ?_)
          · exact absurd c_34_40 (by decide)
          · refine j_aload_n dX11_span_37 rfl rfl ?_
            refine j_callV (q := (RX11, TX11, 8)) dX11_span_38 kX11_nine lX11_105 inX11_nine seX11_nine hm.m rfl (cm_nine hl w1 _ hm) (Nat.le_of_ble_eq_true rfl) ⟨(by show _ ≤ 80; omega), (by show _ ≤ 1240; omega)⟩ rfl (Nat.le_of_ble_eq_true rfl) rfl rfl (fun _ _ h => h.elim) ?_
            rintro _ w3 ⟨rfl, fm3, h3⟩
            have R3 := hR.ni
            refine j_iret dX11_span_41 rfl rfl ?_ (by show _ ≤ 80; omega) (by show _ ≤ 1240; omega)
            refine cast (congrFun (congrFun hQ9 _) _) ?_
            rw [show (sp_mn x y u) - (a0 + j) = ((sp_mn x y u) - (a0 + (j + 1))) + 1 from by omega, sp_spnS, sp_hoN hin2] at he
            exact ⟨_, by rw [← he]; rfl, (hfm.tr (fm3.le (q' := 59) (by decide))), h3, by unfold sp_hspS; rw [← he]; exact R3, hth⟩
        · have th2 := (congrArg Prod.fst ht2).trans hth
          refine j_if_eq (tgt := 42) dX11_span_34 (by decide) (fun c_34_51 => ?_) (fun c_34_51 => ?_)
          · refine j_iinc (lo' := [(6, _), (0, _), (1, _), (2, _), (3, _), (4, _), (5, _), (7, _)]) dX11_span_42 rfl (z_inc _) (by decide) rfl ?_
            refine j_iinc (lo' := [(7, _), (6, _), (0, _), (1, _), (2, _), (3, _), (4, _), (5, _)]) dX11_span_45 rfl (z_inc _) (by decide) rfl ?_
            refine j_goto (tgt := 7) dX11_span_48 (by decide) ?_
            refine j_widen (kc' := (2 * (j + 1))) (ks' := (31 * (j + 1))) (by omega) (by omega) ?_
            exact j_lo2 (ih w2 _ (j + 1) (mm + 1) _ _ (by omega) (by omega) (by rw [show (sp_mn x y u) - (a0 + j) = ((sp_mn x y u) - (a0 + (j + 1))) + 1 from by omega, sp_spnS, sp_hoS hin2] at he; exact he) R2 (by exact th2) h2 (hfm.tr (fm2.le (q' := 59) (by decide)))) (z_q1 rfl (z_q1 rfl (z_q1 rfl (z_q1 rfl (z_q1 rfl (z_q1 rfl (z_q1 rfl (z_q1 rfl z_q0))))))))
          · exact absurd c_34_51 (by decide)
  refine j_widen (kc' := (2 * 0)) (ks' := (31 * 0)) (by omega) (by omega) ?_
  exact j_lo2 (loop7 42 w _ 0 0 _ _ (by omega) (by omega) rfl (by rw [sp_uE_id]; exact R) (by exact rfl) h z_fm.rf) (z_q1 rfl (z_q1 rfl (z_q1 rfl (z_q1 rfl (z_q1 rfl (z_q1 rfl (z_q1 rfl (z_q1 rfl z_q0))))))))
set_option maxRecDepth 100000 in
set_option maxHeartbeats 8000000 in
theorem cx_hearSpan (hl : l.stackTraces = false) (w : z_W) (S : sp_S) (s : z_Z) (a : Int32) (b : Int32) (c : Int32) (g : Int32) (h : z_mst w s) (R : sp_MR S s)  : z_Con G l mX11_hearSpan 24 80 1240 w [.ref 1000, .int a, .int b, .int c, .int g] (fun v w9 => ∃ (r9 : Int32) (s9 : z_Z), v = some (.int r9) ∧ z_fm 59 w w9 ∧ z_mst w9 s9 ∧ s9.1.1 = q_k22 g (sp_bsp a b c) ∧ sp_MR (if q_k22 g (sp_bsp a b c) = 0 then sp_hspS S a b c 0 (sp_i g) else S) s9 ∧ (q_k22 g (sp_bsp a b c) = 0 → r9 = sp_an (sp_hsp S a b c 0 (sp_i g)).1)) (fun _ _ => False) := by
  generalize hQ9 : (fun (v : Option Value) (w9 : z_W) => ∃ (r9 : Int32) (s9 : z_Z), v = some (.int r9) ∧ z_fm 59 w w9 ∧ z_mst w9 s9 ∧ s9.1.1 = q_k22 g (sp_bsp a b c) ∧ sp_MR (if q_k22 g (sp_bsp a b c) = 0 then sp_hspS S a b c 0 (sp_i g) else S) s9 ∧ (q_k22 g (sp_bsp a b c) = 0 → r9 = sp_an (sp_hsp S a b c 0 (sp_i g)).1)) = Q9
  refine z_body hl (by decide) rfl (Nat.le_of_ble_eq_true rfl) ?_
  show z_J G l mX11_hearSpan _ 0 [(0, _), (1, _), (2, _), (3, _), (4, _)] [] _ 0 0
  refine j_aload_n dX11_hearSpan_0 rfl rfl ?_
  refine j_iload dX11_hearSpan_1 rfl ?_
  refine j_callS dX11_hearSpan_3 kX11_isNoTwo lX11_72 stX11_isNoTwo (cm_isNoTwo_r hl w _) (Nat.le_of_ble_eq_true rfl) ⟨(Nat.le_of_ble_eq_true rfl), (Nat.le_of_ble_eq_true rfl)⟩ rfl (Nat.le_of_ble_eq_true rfl) rfl rfl (fun _ _ h => h.elim) ?_
  rintro _ _ ⟨⟨rfl, hno348⟩ | ⟨rfl, i348, hi348, ht348, rfl⟩, hw348⟩
  · refine j_w w hw348 ?_
    refine j_iconst (v := 1) dX11_hearSpan_6 (by decide) ?_
    refine j_callV (q := (RX11, TX11, 8)) dX11_hearSpan_7 kX11_start lX11_76 inX11_start seX11_start h.m rfl (cm_start1 hl w _ _ h (by decide)) (Nat.le_of_ble_eq_true rfl) ⟨(Nat.le_of_ble_eq_true rfl), (Nat.le_of_ble_eq_true rfl)⟩ rfl (Nat.le_of_ble_eq_true rfl) rfl rfl (fun _ _ h => h.elim) ?_
    rintro _ w1 ⟨rfl, fm1, h1⟩
    have R1 := R.th (k := 1)
    refine j_if_ne (tgt := 27) dX11_hearSpan_10 (by decide) (fun c_10_11 => ?_) (fun c_10_11 => ?_)
    · refine j_iconst (v := 0) dX11_hearSpan_27 (by decide) ?_
      refine j_goto (tgt := 41) dX11_hearSpan_28 (by decide) ?_
      refine j_iret dX11_hearSpan_41 rfl rfl ?_ (Nat.le_of_ble_eq_true rfl) (Nat.le_of_ble_eq_true rfl)
      refine cast (congrFun (congrFun hQ9 _) _) ?_
      refine ⟨_, _, rfl, (fm1.le (q' := 59) (by decide)), h1, sp_X1 (k := 1) ?_ (by decide) rfl R1⟩
      (first | (refine sp_k22_1 ?_ <;> (first | assumption | (refine Or.inl ?_; assumption) | (refine Or.inr ?_; assumption) | (refine Or.inr (Or.inl ?_); assumption) | (refine Or.inr (Or.inr ?_); assumption) | (refine Or.inr (Or.inr (Or.inl ?_)); assumption) | (refine Or.inr (Or.inr (Or.inr ?_)); assumption) | (refine fun z => Or.elim z ?_ ?_ <;> assumption) | (refine fun z => Or.elim z ?_ (fun z => Or.elim z ?_ ?_) <;> assumption) | (refine fun z => Or.elim z ?_ (fun z => Or.elim z ?_ (fun z => Or.elim z ?_ ?_)) <;> assumption) | (refine fun z => Or.elim z (fun z9 => z9 ?_) ?_ <;> (first | assumption | (refine Or.inl ?_; assumption) | (refine Or.inr (Or.inl ?_); assumption) | (refine Or.inr (Or.inr ?_); assumption) | (refine Or.inr (Or.inr (Or.inl ?_)); assumption) | (refine Or.inr (Or.inr (Or.inr ?_)); assumption))) | (refine Or.inl (fun z => Or.elim z ?_ (fun z => Or.elim z ?_ ?_)) <;> assumption) | (refine Or.inl (fun z => Or.elim z ?_ (fun z => Or.elim z ?_ (fun z => Or.elim z ?_ ?_))) <;> assumption))))
    · exact absurd c_10_11 (by decide)
  · refine j_w w hw348 ?_
    have ei348 : sp_i (nI i348) = i348 := sp_in' (by omega)
    refine j_iconst (v := 1) dX11_hearSpan_6 (by decide) ?_
    refine j_callV (q := (RX11, TX11, 8)) dX11_hearSpan_7 kX11_start lX11_76 inX11_start seX11_start h.m rfl (cm_start0 hl w _ _ h) (Nat.le_of_ble_eq_true rfl) ⟨(Nat.le_of_ble_eq_true rfl), (Nat.le_of_ble_eq_true rfl)⟩ rfl (Nat.le_of_ble_eq_true rfl) rfl rfl (fun _ _ h => h.elim) ?_
    rintro _ w2 ⟨rfl, fm2, h2⟩
    have R2 := R.th (k := 0)
    refine j_if_ne (tgt := 27) dX11_hearSpan_10 (by decide) (fun c_10_25 => ?_) (fun c_10_25 => ?_)
    · exact absurd c_10_25 (by decide)
    · refine j_aload_n dX11_hearSpan_13 rfl rfl ?_
      refine j_iload_n dX11_hearSpan_14 rfl ?_
      refine j_iload_n dX11_hearSpan_15 rfl ?_
      refine j_iload_n dX11_hearSpan_16 rfl ?_
      refine j_callS dX11_hearSpan_17 kX11_isNoSpan lX11_182 stX11_isNoSpan (cx_isNoSpan hl w2 _ _ _) (Nat.le_of_ble_eq_true rfl) ⟨(Nat.le_of_ble_eq_true rfl), (Nat.le_of_ble_eq_true rfl)⟩ rfl (Nat.le_of_ble_eq_true rfl) rfl rfl (fun _ _ h => h.elim) ?_
      rintro _ _ ⟨⟨rfl, hsp349⟩ | ⟨rfl, hsp349, hx349, hy349, hz349, hm3490, hm3494⟩, hw349⟩
      · refine j_w w2 hw349 ?_
        refine j_iconst (v := 2) dX11_hearSpan_20 (by decide) ?_
        refine j_callV (q := (RX11, TX11, 8)) dX11_hearSpan_21 kX11_refuse lX11_52 inX11_refuse seX11_refuse h2.m rfl (cm_refuse1 hl w2 _ _ h2 rfl (by decide)) (Nat.le_of_ble_eq_true rfl) ⟨(Nat.le_of_ble_eq_true rfl), (Nat.le_of_ble_eq_true rfl)⟩ rfl (Nat.le_of_ble_eq_true rfl) rfl rfl (fun _ _ h => h.elim) ?_
        rintro _ w3 ⟨rfl, fm3, h3⟩
        have R3 := R2.th (k := 2)
        refine j_if_eq (tgt := 31) dX11_hearSpan_24 (by decide) (fun c_24_38 => ?_) (fun c_24_38 => ?_)
        · exact absurd c_24_38 (by decide)
        · refine j_iconst (v := 0) dX11_hearSpan_27 (by decide) ?_
          refine j_goto (tgt := 41) dX11_hearSpan_28 (by decide) ?_
          refine j_iret dX11_hearSpan_41 rfl rfl ?_ (Nat.le_of_ble_eq_true rfl) (Nat.le_of_ble_eq_true rfl)
          refine cast (congrFun (congrFun hQ9 _) _) ?_
          try rw [ei348]
          refine ⟨_, _, rfl, ((fm2.le (q' := 59) (by decide)).tr (fm3.le (q' := 59) (by decide))), h3, sp_X1 (k := 2) ?_ (by decide) rfl R3⟩
          (first | (refine sp_k22_2 ?_ ?_ <;> (first | assumption | (refine Or.inl ?_; assumption) | (refine Or.inr ?_; assumption) | (refine Or.inr (Or.inl ?_); assumption) | (refine Or.inr (Or.inr ?_); assumption) | (refine Or.inr (Or.inr (Or.inl ?_)); assumption) | (refine Or.inr (Or.inr (Or.inr ?_)); assumption) | (refine fun z => Or.elim z ?_ ?_ <;> assumption) | (refine fun z => Or.elim z ?_ (fun z => Or.elim z ?_ ?_) <;> assumption) | (refine fun z => Or.elim z ?_ (fun z => Or.elim z ?_ (fun z => Or.elim z ?_ ?_)) <;> assumption) | (refine fun z => Or.elim z (fun z9 => z9 ?_) ?_ <;> (first | assumption | (refine Or.inl ?_; assumption) | (refine Or.inr (Or.inl ?_); assumption) | (refine Or.inr (Or.inr ?_); assumption) | (refine Or.inr (Or.inr (Or.inl ?_)); assumption) | (refine Or.inr (Or.inr (Or.inr ?_)); assumption))) | (refine Or.inl (fun z => Or.elim z ?_ (fun z => Or.elim z ?_ ?_)) <;> assumption) | (refine Or.inl (fun z => Or.elim z ?_ (fun z => Or.elim z ?_ (fun z => Or.elim z ?_ ?_))) <;> assumption))))
      · refine j_w w2 hw349 ?_
        refine j_iconst (v := 2) dX11_hearSpan_20 (by decide) ?_
        refine j_callV (q := (RX11, TX11, 8)) dX11_hearSpan_21 kX11_refuse lX11_52 inX11_refuse seX11_refuse h2.m rfl (cm_refuse0 hl w2 _ _ h2 rfl) (Nat.le_of_ble_eq_true rfl) ⟨(Nat.le_of_ble_eq_true rfl), (Nat.le_of_ble_eq_true rfl)⟩ rfl (Nat.le_of_ble_eq_true rfl) rfl rfl (fun _ _ h => h.elim) ?_
        rintro _ _ ⟨rfl, hw350⟩
        refine j_w w2 hw350 ?_
        refine j_if_eq (tgt := 31) dX11_hearSpan_24 (by decide) (fun c_24_52 => ?_) (fun c_24_52 => ?_)
        · refine j_aload_n dX11_hearSpan_31 rfl rfl ?_
          refine j_iload_n dX11_hearSpan_32 rfl ?_
          refine j_iload_n dX11_hearSpan_33 rfl ?_
          refine j_iload_n dX11_hearSpan_34 rfl ?_
          refine j_iconst (v := 0) dX11_hearSpan_35 (by decide) ?_
          refine j_iload dX11_hearSpan_36 rfl ?_
          refine j_callV (q := (RX11, TX11, 8)) dX11_hearSpan_38 kX11_span lX11_185 inX11_span seX11_span h2.m rfl (cx_span hl w2 S _ _ _ _ (0) (i348) h2 R2 hz349 hm3490 hm3494 (Nat.zero_le _) (by omega)) (Nat.le_of_ble_eq_true rfl) ⟨(Nat.le_of_ble_eq_true rfl), (Nat.le_of_ble_eq_true rfl)⟩ rfl (Nat.le_of_ble_eq_true rfl) rfl rfl (fun _ _ h => h.elim) ?_
          rintro _ w4 ⟨s4, rfl, fm4, h4, R4, th4⟩
          have tx4 := th4.trans rfl
          refine j_iret dX11_hearSpan_41 rfl rfl ?_ (Nat.le_of_ble_eq_true rfl) (Nat.le_of_ble_eq_true rfl)
          refine cast (congrFun (congrFun hQ9 _) _) ?_
          try rw [ei348]
          refine ⟨_, _, rfl, ((fm2.le (q' := 59) (by decide)).tr (fm4.le (q' := 59) (by decide))), h4, sp_X0 ?_ tx4 R4 rfl⟩
          (first | (refine sp_k22_0 ?_ ?_ <;> (first | assumption | (refine Or.inl ?_; assumption) | (refine Or.inr ?_; assumption) | (refine Or.inr (Or.inl ?_); assumption) | (refine Or.inr (Or.inr ?_); assumption) | (refine Or.inr (Or.inr (Or.inl ?_)); assumption) | (refine Or.inr (Or.inr (Or.inr ?_)); assumption) | (refine fun z => Or.elim z ?_ ?_ <;> assumption) | (refine fun z => Or.elim z ?_ (fun z => Or.elim z ?_ ?_) <;> assumption) | (refine fun z => Or.elim z ?_ (fun z => Or.elim z ?_ (fun z => Or.elim z ?_ ?_)) <;> assumption) | (refine fun z => Or.elim z (fun z9 => z9 ?_) ?_ <;> (first | assumption | (refine Or.inl ?_; assumption) | (refine Or.inr (Or.inl ?_); assumption) | (refine Or.inr (Or.inr ?_); assumption) | (refine Or.inr (Or.inr (Or.inl ?_)); assumption) | (refine Or.inr (Or.inr (Or.inr ?_)); assumption))) | (refine Or.inl (fun z => Or.elim z ?_ (fun z => Or.elim z ?_ ?_)) <;> assumption) | (refine Or.inl (fun z => Or.elim z ?_ (fun z => Or.elim z ?_ (fun z => Or.elim z ?_ ?_))) <;> assumption))))
        · exact absurd c_24_52 (by decide)
set_option maxRecDepth 100000 in
set_option maxHeartbeats 8000000 in
theorem cx_hearSteps (hl : l.stackTraces = false) (w : z_W) (S : sp_S) (s : z_Z) (a : Int32) (b : Int32) (c : Int32) (d : Int32) (g : Int32) (h : z_mst w s) (R : sp_MR S s)  : z_Con G l mX11_hearSteps 24 80 1240 w [.ref 1000, .int a, .int b, .int c, .int d, .int g] (fun v w9 => ∃ (r9 : Int32) (s9 : z_Z), v = some (.int r9) ∧ z_fm 59 w w9 ∧ z_mst w9 s9 ∧ s9.1.1 = q_k22 g (sp_bsp a b c ∨ (d < 0 ∨ z_mny a b c < d)) ∧ sp_MR (if q_k22 g (sp_bsp a b c ∨ (d < 0 ∨ z_mny a b c < d)) = 0 then sp_hspS S a b c (sp_i d) (sp_i g) else S) s9 ∧ (q_k22 g (sp_bsp a b c ∨ (d < 0 ∨ z_mny a b c < d)) = 0 → r9 = sp_an (sp_hsp S a b c (sp_i d) (sp_i g)).1)) (fun _ _ => False) := by
  generalize hQ9 : (fun (v : Option Value) (w9 : z_W) => ∃ (r9 : Int32) (s9 : z_Z), v = some (.int r9) ∧ z_fm 59 w w9 ∧ z_mst w9 s9 ∧ s9.1.1 = q_k22 g (sp_bsp a b c ∨ (d < 0 ∨ z_mny a b c < d)) ∧ sp_MR (if q_k22 g (sp_bsp a b c ∨ (d < 0 ∨ z_mny a b c < d)) = 0 then sp_hspS S a b c (sp_i d) (sp_i g) else S) s9 ∧ (q_k22 g (sp_bsp a b c ∨ (d < 0 ∨ z_mny a b c < d)) = 0 → r9 = sp_an (sp_hsp S a b c (sp_i d) (sp_i g)).1)) = Q9
  refine z_body hl (by decide) rfl (Nat.le_of_ble_eq_true rfl) ?_
  show z_J G l mX11_hearSteps _ 0 [(0, _), (1, _), (2, _), (3, _), (4, _), (5, _)] [] _ 0 0
  refine j_aload_n dX11_hearSteps_0 rfl rfl ?_
  refine j_iload dX11_hearSteps_1 rfl ?_
  refine j_callS dX11_hearSteps_3 kX11_isNoTwo lX11_72 stX11_isNoTwo (cm_isNoTwo_r hl w _) (Nat.le_of_ble_eq_true rfl) ⟨(Nat.le_of_ble_eq_true rfl), (Nat.le_of_ble_eq_true rfl)⟩ rfl (Nat.le_of_ble_eq_true rfl) rfl rfl (fun _ _ h => h.elim) ?_
  rintro _ _ ⟨⟨rfl, hno351⟩ | ⟨rfl, i351, hi351, ht351, rfl⟩, hw351⟩
  · refine j_w w hw351 ?_
    refine j_iconst (v := 1) dX11_hearSteps_6 (by decide) ?_
    refine j_callV (q := (RX11, TX11, 8)) dX11_hearSteps_7 kX11_start lX11_76 inX11_start seX11_start h.m rfl (cm_start1 hl w _ _ h (by decide)) (Nat.le_of_ble_eq_true rfl) ⟨(Nat.le_of_ble_eq_true rfl), (Nat.le_of_ble_eq_true rfl)⟩ rfl (Nat.le_of_ble_eq_true rfl) rfl rfl (fun _ _ h => h.elim) ?_
    rintro _ w1 ⟨rfl, fm1, h1⟩
    have R1 := R.th (k := 1)
    refine j_if_ne (tgt := 50) dX11_hearSteps_10 (by decide) (fun c_10_11 => ?_) (fun c_10_11 => ?_)
    · refine j_iconst (v := 0) dX11_hearSteps_50 (by decide) ?_
      refine j_goto (tgt := 65) dX11_hearSteps_51 (by decide) ?_
      refine j_iret dX11_hearSteps_65 rfl rfl ?_ (Nat.le_of_ble_eq_true rfl) (Nat.le_of_ble_eq_true rfl)
      refine cast (congrFun (congrFun hQ9 _) _) ?_
      refine ⟨_, _, rfl, (fm1.le (q' := 59) (by decide)), h1, sp_X1 (k := 1) ?_ (by decide) rfl R1⟩
      (first | (refine sp_k22_1 ?_ <;> (first | assumption | (refine Or.inl ?_; assumption) | (refine Or.inr ?_; assumption) | (refine Or.inr (Or.inl ?_); assumption) | (refine Or.inr (Or.inr ?_); assumption) | (refine Or.inr (Or.inr (Or.inl ?_)); assumption) | (refine Or.inr (Or.inr (Or.inr ?_)); assumption) | (refine fun z => Or.elim z ?_ ?_ <;> assumption) | (refine fun z => Or.elim z ?_ (fun z => Or.elim z ?_ ?_) <;> assumption) | (refine fun z => Or.elim z ?_ (fun z => Or.elim z ?_ (fun z => Or.elim z ?_ ?_)) <;> assumption) | (refine fun z => Or.elim z (fun z9 => z9 ?_) ?_ <;> (first | assumption | (refine Or.inl ?_; assumption) | (refine Or.inr (Or.inl ?_); assumption) | (refine Or.inr (Or.inr ?_); assumption) | (refine Or.inr (Or.inr (Or.inl ?_)); assumption) | (refine Or.inr (Or.inr (Or.inr ?_)); assumption))) | (refine Or.inl (fun z => Or.elim z ?_ (fun z => Or.elim z ?_ ?_)) <;> assumption) | (refine Or.inl (fun z => Or.elim z ?_ (fun z => Or.elim z ?_ (fun z => Or.elim z ?_ ?_))) <;> assumption))))
    · exact absurd c_10_11 (by decide)
  · refine j_w w hw351 ?_
    have ei351 : sp_i (nI i351) = i351 := sp_in' (by omega)
    refine j_iconst (v := 1) dX11_hearSteps_6 (by decide) ?_
    refine j_callV (q := (RX11, TX11, 8)) dX11_hearSteps_7 kX11_start lX11_76 inX11_start seX11_start h.m rfl (cm_start0 hl w _ _ h) (Nat.le_of_ble_eq_true rfl) ⟨(Nat.le_of_ble_eq_true rfl), (Nat.le_of_ble_eq_true rfl)⟩ rfl (Nat.le_of_ble_eq_true rfl) rfl rfl (fun _ _ h => h.elim) ?_
    rintro _ w2 ⟨rfl, fm2, h2⟩
    have R2 := R.th (k := 0)
    refine j_if_ne (tgt := 50) dX11_hearSteps_10 (by decide) (fun c_10_25 => ?_) (fun c_10_25 => ?_)
    · exact absurd c_10_25 (by decide)
    · refine j_aload_n dX11_hearSteps_13 rfl rfl ?_
      refine j_iload_n dX11_hearSteps_14 rfl ?_
      refine j_iload_n dX11_hearSteps_15 rfl ?_
      refine j_iload_n dX11_hearSteps_16 rfl ?_
      refine j_callS dX11_hearSteps_17 kX11_isNoSpan lX11_182 stX11_isNoSpan (cx_isNoSpan hl w2 _ _ _) (Nat.le_of_ble_eq_true rfl) ⟨(Nat.le_of_ble_eq_true rfl), (Nat.le_of_ble_eq_true rfl)⟩ rfl (Nat.le_of_ble_eq_true rfl) rfl rfl (fun _ _ h => h.elim) ?_
      rintro _ _ ⟨⟨rfl, hsp352⟩ | ⟨rfl, hsp352, hx352, hy352, hz352, hm3520, hm3524⟩, hw352⟩
      · refine j_w w2 hw352 ?_
        refine j_if_ne (tgt := 38) dX11_hearSteps_20 (by decide) (fun c_20_34 => ?_) (fun c_20_34 => ?_)
        · refine j_iconst (v := 1) dX11_hearSteps_38 (by decide) ?_
          refine j_goto (tgt := 43) dX11_hearSteps_39 (by decide) ?_
          refine j_iconst (v := 2) dX11_hearSteps_43 (by decide) ?_
          refine j_callV (q := (RX11, TX11, 8)) dX11_hearSteps_44 kX11_refuse lX11_52 inX11_refuse seX11_refuse h2.m rfl (cm_refuse1 hl w2 _ _ h2 rfl (by decide)) (Nat.le_of_ble_eq_true rfl) ⟨(Nat.le_of_ble_eq_true rfl), (Nat.le_of_ble_eq_true rfl)⟩ rfl (Nat.le_of_ble_eq_true rfl) rfl rfl (fun _ _ h => h.elim) ?_
          rintro _ w3 ⟨rfl, fm3, h3⟩
          have R3 := R2.th (k := 2)
          refine j_if_eq (tgt := 54) dX11_hearSteps_47 (by decide) (fun c_47_41 => ?_) (fun c_47_41 => ?_)
          · exact absurd c_47_41 (by decide)
          · refine j_iconst (v := 0) dX11_hearSteps_50 (by decide) ?_
            refine j_goto (tgt := 65) dX11_hearSteps_51 (by decide) ?_
            refine j_iret dX11_hearSteps_65 rfl rfl ?_ (Nat.le_of_ble_eq_true rfl) (Nat.le_of_ble_eq_true rfl)
            refine cast (congrFun (congrFun hQ9 _) _) ?_
            try rw [ei351]
            refine ⟨_, _, rfl, ((fm2.le (q' := 59) (by decide)).tr (fm3.le (q' := 59) (by decide))), h3, sp_X1 (k := 2) ?_ (by decide) rfl R3⟩
            (first | (refine sp_k22_2 ?_ ?_ <;> (first | assumption | (refine Or.inl ?_; assumption) | (refine Or.inr ?_; assumption) | (refine Or.inr (Or.inl ?_); assumption) | (refine Or.inr (Or.inr ?_); assumption) | (refine Or.inr (Or.inr (Or.inl ?_)); assumption) | (refine Or.inr (Or.inr (Or.inr ?_)); assumption) | (refine fun z => Or.elim z ?_ ?_ <;> assumption) | (refine fun z => Or.elim z ?_ (fun z => Or.elim z ?_ ?_) <;> assumption) | (refine fun z => Or.elim z ?_ (fun z => Or.elim z ?_ (fun z => Or.elim z ?_ ?_)) <;> assumption) | (refine fun z => Or.elim z (fun z9 => z9 ?_) ?_ <;> (first | assumption | (refine Or.inl ?_; assumption) | (refine Or.inr (Or.inl ?_); assumption) | (refine Or.inr (Or.inr ?_); assumption) | (refine Or.inr (Or.inr (Or.inl ?_)); assumption) | (refine Or.inr (Or.inr (Or.inr ?_)); assumption))) | (refine Or.inl (fun z => Or.elim z ?_ (fun z => Or.elim z ?_ ?_)) <;> assumption) | (refine Or.inl (fun z => Or.elim z ?_ (fun z => Or.elim z ?_ (fun z => Or.elim z ?_ ?_))) <;> assumption))))
        · exact absurd c_20_34 (by decide)
      · refine j_w w2 hw352 ?_
        refine j_if_ne (tgt := 38) dX11_hearSteps_20 (by decide) (fun c_20_52 => ?_) (fun c_20_52 => ?_)
        · exact absurd c_20_52 (by decide)
        · refine j_iload dX11_hearSteps_23 rfl ?_
          refine j_iconst (v := 0) dX11_hearSteps_25 (by decide) ?_
          refine j_iload_n dX11_hearSteps_26 rfl ?_
          refine j_iload_n dX11_hearSteps_27 rfl ?_
          refine j_iload_n dX11_hearSteps_28 rfl ?_
          refine j_callS dX11_hearSteps_29 kX11_many lX11_179 stX11_many (cm_many hl w2 _ _ _ (z_ne0 hz352.1)) (Nat.le_of_ble_eq_true rfl) ⟨(Nat.le_of_ble_eq_true rfl), (Nat.le_of_ble_eq_true rfl)⟩ rfl (Nat.le_of_ble_eq_true rfl) rfl rfl (fun _ _ h => h.elim) ?_
          rintro _ _ ⟨rfl, hw353⟩
          refine j_w w2 hw353 ?_
          refine j_callS dX11_hearSteps_32 kX11_isIn lX11_59 stX11_isIn (cm_isIn_r hl w2 _ 0 _) (Nat.le_of_ble_eq_true rfl) ⟨(Nat.le_of_ble_eq_true rfl), (Nat.le_of_ble_eq_true rfl)⟩ rfl (Nat.le_of_ble_eq_true rfl) rfl rfl (fun _ _ h => h.elim) ?_
          rintro _ _ ⟨⟨rfl, hi354⟩ | ⟨rfl, hno354⟩, hw354⟩
          · refine j_w w2 hw354 ?_
            obtain ⟨i354, hq354, rfl⟩ := sp_nt (m := sp_mn a b c) (sp_mn_e hm3520) (by have := sp_le40 hm3524; show (z_mny a b c).toNatClampNeg < _; omega) hi354
            have hmn354 : sp_mn a b c ≤ 40 := sp_le40 hm3524
            have ei354 : sp_i (nI i354) = i354 := sp_in' (by omega)
            refine j_if_ne (tgt := 42) dX11_hearSteps_35 (by decide) (fun c_35_68 => ?_) (fun c_35_68 => ?_)
            · refine j_iconst (v := 0) dX11_hearSteps_42 (by decide) ?_
              refine j_iconst (v := 2) dX11_hearSteps_43 (by decide) ?_
              refine j_callV (q := (RX11, TX11, 8)) dX11_hearSteps_44 kX11_refuse lX11_52 inX11_refuse seX11_refuse h2.m rfl (cm_refuse0 hl w2 _ _ h2 rfl) (Nat.le_of_ble_eq_true rfl) ⟨(Nat.le_of_ble_eq_true rfl), (Nat.le_of_ble_eq_true rfl)⟩ rfl (Nat.le_of_ble_eq_true rfl) rfl rfl (fun _ _ h => h.elim) ?_
              rintro _ _ ⟨rfl, hw355⟩
              refine j_w w2 hw355 ?_
              refine j_if_eq (tgt := 54) dX11_hearSteps_47 (by decide) (fun c_47_74 => ?_) (fun c_47_74 => ?_)
              · refine j_aload_n dX11_hearSteps_54 rfl rfl ?_
                refine j_iload_n dX11_hearSteps_55 rfl ?_
                refine j_iload_n dX11_hearSteps_56 rfl ?_
                refine j_iload_n dX11_hearSteps_57 rfl ?_
                refine j_iload dX11_hearSteps_58 rfl ?_
                refine j_iload dX11_hearSteps_60 rfl ?_
                refine j_callV (q := (RX11, TX11, 8)) dX11_hearSteps_62 kX11_span lX11_185 inX11_span seX11_span h2.m rfl (cx_span hl w2 S _ _ _ _ (i354) (i351) h2 R2 hz352 hm3520 hm3524 (by omega) (by omega)) (Nat.le_of_ble_eq_true rfl) ⟨(Nat.le_of_ble_eq_true rfl), (Nat.le_of_ble_eq_true rfl)⟩ rfl (Nat.le_of_ble_eq_true rfl) rfl rfl (fun _ _ h => h.elim) ?_
                rintro _ w4 ⟨s4, rfl, fm4, h4, R4, th4⟩
                have tx4 := th4.trans rfl
                refine j_iret dX11_hearSteps_65 rfl rfl ?_ (Nat.le_of_ble_eq_true rfl) (Nat.le_of_ble_eq_true rfl)
                refine cast (congrFun (congrFun hQ9 _) _) ?_
                try rw [ei351]
                try rw [ei354]
                refine ⟨_, _, rfl, ((fm2.le (q' := 59) (by decide)).tr (fm4.le (q' := 59) (by decide))), h4, sp_X0 ?_ tx4 R4 rfl⟩
                (first | (refine sp_k22_0 ?_ ?_ <;> (first | assumption | (refine Or.inl ?_; assumption) | (refine Or.inr ?_; assumption) | (refine Or.inr (Or.inl ?_); assumption) | (refine Or.inr (Or.inr ?_); assumption) | (refine Or.inr (Or.inr (Or.inl ?_)); assumption) | (refine Or.inr (Or.inr (Or.inr ?_)); assumption) | (refine fun z => Or.elim z ?_ ?_ <;> assumption) | (refine fun z => Or.elim z ?_ (fun z => Or.elim z ?_ ?_) <;> assumption) | (refine fun z => Or.elim z ?_ (fun z => Or.elim z ?_ (fun z => Or.elim z ?_ ?_)) <;> assumption) | (refine fun z => Or.elim z (fun z9 => z9 ?_) ?_ <;> (first | assumption | (refine Or.inl ?_; assumption) | (refine Or.inr (Or.inl ?_); assumption) | (refine Or.inr (Or.inr ?_); assumption) | (refine Or.inr (Or.inr (Or.inl ?_)); assumption) | (refine Or.inr (Or.inr (Or.inr ?_)); assumption))) | (refine Or.inl (fun z => Or.elim z ?_ (fun z => Or.elim z ?_ ?_)) <;> assumption) | (refine Or.inl (fun z => Or.elim z ?_ (fun z => Or.elim z ?_ (fun z => Or.elim z ?_ ?_))) <;> assumption))))
              · exact absurd c_47_74 (by decide)
            · exact absurd c_35_68 (by decide)
          · refine j_w w2 hw354 ?_
            refine j_if_ne (tgt := 42) dX11_hearSteps_35 (by decide) (fun c_35_93 => ?_) (fun c_35_93 => ?_)
            · exact absurd c_35_93 (by decide)
            · refine j_iconst (v := 1) dX11_hearSteps_38 (by decide) ?_
              refine j_goto (tgt := 43) dX11_hearSteps_39 (by decide) ?_
              refine j_iconst (v := 2) dX11_hearSteps_43 (by decide) ?_
              refine j_callV (q := (RX11, TX11, 8)) dX11_hearSteps_44 kX11_refuse lX11_52 inX11_refuse seX11_refuse h2.m rfl (cm_refuse1 hl w2 _ _ h2 rfl (by decide)) (Nat.le_of_ble_eq_true rfl) ⟨(Nat.le_of_ble_eq_true rfl), (Nat.le_of_ble_eq_true rfl)⟩ rfl (Nat.le_of_ble_eq_true rfl) rfl rfl (fun _ _ h => h.elim) ?_
              rintro _ w5 ⟨rfl, fm5, h5⟩
              have R5 := R2.th (k := 2)
              refine j_if_eq (tgt := 54) dX11_hearSteps_47 (by decide) (fun c_47_101 => ?_) (fun c_47_101 => ?_)
              · exact absurd c_47_101 (by decide)
              · refine j_iconst (v := 0) dX11_hearSteps_50 (by decide) ?_
                refine j_goto (tgt := 65) dX11_hearSteps_51 (by decide) ?_
                refine j_iret dX11_hearSteps_65 rfl rfl ?_ (Nat.le_of_ble_eq_true rfl) (Nat.le_of_ble_eq_true rfl)
                refine cast (congrFun (congrFun hQ9 _) _) ?_
                try rw [ei351]
                refine ⟨_, _, rfl, ((fm2.le (q' := 59) (by decide)).tr (fm5.le (q' := 59) (by decide))), h5, sp_X1 (k := 2) ?_ (by decide) rfl R5⟩
                (first | (refine sp_k22_2 ?_ ?_ <;> (first | assumption | (refine Or.inl ?_; assumption) | (refine Or.inr ?_; assumption) | (refine Or.inr (Or.inl ?_); assumption) | (refine Or.inr (Or.inr ?_); assumption) | (refine Or.inr (Or.inr (Or.inl ?_)); assumption) | (refine Or.inr (Or.inr (Or.inr ?_)); assumption) | (refine fun z => Or.elim z ?_ ?_ <;> assumption) | (refine fun z => Or.elim z ?_ (fun z => Or.elim z ?_ ?_) <;> assumption) | (refine fun z => Or.elim z ?_ (fun z => Or.elim z ?_ (fun z => Or.elim z ?_ ?_)) <;> assumption) | (refine fun z => Or.elim z (fun z9 => z9 ?_) ?_ <;> (first | assumption | (refine Or.inl ?_; assumption) | (refine Or.inr (Or.inl ?_); assumption) | (refine Or.inr (Or.inr ?_); assumption) | (refine Or.inr (Or.inr (Or.inl ?_)); assumption) | (refine Or.inr (Or.inr (Or.inr ?_)); assumption))) | (refine Or.inl (fun z => Or.elim z ?_ (fun z => Or.elim z ?_ ?_)) <;> assumption) | (refine Or.inl (fun z => Or.elim z ?_ (fun z => Or.elim z ?_ (fun z => Or.elim z ?_ ?_))) <;> assumption))))
end ZMe4
