section ZMe7
variable {G : z_G} {l : Launch}
set_option maxRecDepth 100000 in
set_option maxHeartbeats 8000000 in
theorem cx_hearTable (hl : l.stackTraces = false) (w : z_W) (S : sp_S) (s : z_Z) (t : Int32) (g : Int32) (h : z_mst w s) (R : sp_MR S s)  : z_Con G l mX11_hearTable 22 42 631 w [.ref 1000, .int t, .int g] (fun v w9 => ∃ (r9 : Int32) (s9 : z_Z), v = some (.int r9) ∧ z_fm 59 w w9 ∧ z_mst w9 s9 ∧ s9.1.1 = sp_k3b t g ∧ sp_MR (if sp_k3b t g = 0 then sp_htbS S (sp_i t) (sp_i g) else S) s9 ∧ (sp_k3b t g = 0 → r9 = sp_an (sp_htb S (sp_i t) (sp_i g)).1)) (fun _ _ => False) := by
  generalize hQ9 : (fun (v : Option Value) (w9 : z_W) => ∃ (r9 : Int32) (s9 : z_Z), v = some (.int r9) ∧ z_fm 59 w w9 ∧ z_mst w9 s9 ∧ s9.1.1 = sp_k3b t g ∧ sp_MR (if sp_k3b t g = 0 then sp_htbS S (sp_i t) (sp_i g) else S) s9 ∧ (sp_k3b t g = 0 → r9 = sp_an (sp_htb S (sp_i t) (sp_i g)).1)) = Q9
  refine z_body hl (by decide) rfl (Nat.le_of_ble_eq_true rfl) ?_
  show z_J G l mX11_hearTable _ 0 [(0, _), (1, _), (2, _)] [] _ 0 0
  refine j_aload_n dX11_hearTable_0 rfl rfl ?_
  refine j_iload_n dX11_hearTable_1 rfl ?_
  refine j_callS dX11_hearTable_2 kX11_isNoTable lX11_136 stX11_isNoTable (cm_isNoTable_r hl w _) (Nat.le_of_ble_eq_true rfl) ⟨(by show _ ≤ 42; omega), (by show _ ≤ 631; omega)⟩ rfl (Nat.le_of_ble_eq_true rfl) rfl rfl (fun _ _ h => h.elim) ?_
  rintro _ _ ⟨⟨rfl, hno555⟩ | ⟨rfl, i555, hi555, ht555, rfl⟩, hw555⟩
  · refine j_w w hw555 ?_
    refine j_if_ne (tgt := 15) dX11_hearTable_5 (by decide) (fun c_5_7 => ?_) (fun c_5_7 => ?_)
    · refine j_iconst (v := 1) dX11_hearTable_15 (by decide) ?_
      refine j_goto (tgt := 20) dX11_hearTable_16 (by decide) ?_
      refine j_iconst (v := 1) dX11_hearTable_20 (by decide) ?_
      refine j_callV (q := (RX11, TX11, 8)) dX11_hearTable_21 kX11_start lX11_76 inX11_start seX11_start h.m rfl (cm_start1 hl w _ _ h (by decide)) (Nat.le_of_ble_eq_true rfl) ⟨(by show _ ≤ 42; omega), (by show _ ≤ 631; omega)⟩ rfl (Nat.le_of_ble_eq_true rfl) rfl rfl (fun _ _ h => h.elim) ?_
      rintro _ w1 ⟨rfl, fm1, h1⟩
      have R1 := R.th (k := 1)
      refine j_if_eq (tgt := 29) dX11_hearTable_24 (by decide) (fun c_24_14 => ?_) (fun c_24_14 => ?_)
      · exact absurd c_24_14 (by decide)
      · refine j_iconst (v := 0) dX11_hearTable_27 (by decide) ?_
        refine j_iret dX11_hearTable_28 rfl rfl ?_ (by show _ ≤ 42; omega) (by show _ ≤ 631; omega)
        refine cast (congrFun (congrFun hQ9 _) _) ?_
        refine ⟨_, _, rfl, (fm1.le (q' := 59) (by decide)), h1, sp_X1 (k := 1) ?_ (by decide) rfl R1⟩
        first | (first | (refine sp_k3b_1 ?_ <;> (first | (with_reducible assumption) | (refine Or.inl ?_; (with_reducible assumption)) | (refine Or.inr ?_; (with_reducible assumption)) | (refine Or.inr (Or.inl ?_); (with_reducible assumption)) | (refine Or.inr (Or.inr ?_); (with_reducible assumption)) | (refine Or.inr (Or.inr (Or.inl ?_)); (with_reducible assumption)) | (refine Or.inr (Or.inr (Or.inr ?_)); (with_reducible assumption)) | (refine fun z => Or.elim z ?_ ?_ <;> (with_reducible assumption)) | (refine fun z => Or.elim z ?_ (fun z => Or.elim z ?_ ?_) <;> (with_reducible assumption)) | (refine fun z => Or.elim z ?_ (fun z => Or.elim z ?_ (fun z => Or.elim z ?_ ?_)) <;> (with_reducible assumption)) | (refine fun z => Or.elim z (fun z9 => z9 ?_) ?_ <;> (first | (with_reducible assumption) | (refine Or.inl ?_; (with_reducible assumption)) | (refine Or.inr (Or.inl ?_); (with_reducible assumption)) | (refine Or.inr (Or.inr ?_); (with_reducible assumption)) | (refine Or.inr (Or.inr (Or.inl ?_)); (with_reducible assumption)) | (refine Or.inr (Or.inr (Or.inr ?_)); (with_reducible assumption)))) | (refine Or.inl (fun z => Or.elim z ?_ (fun z => Or.elim z ?_ ?_)) <;> (with_reducible assumption)) | (refine Or.inl (fun z => Or.elim z ?_ (fun z => Or.elim z ?_ (fun z => Or.elim z ?_ ?_))) <;> (with_reducible assumption)))) | (refine sp_k3b_1' ?_ <;> (first | (with_reducible assumption) | (refine Or.inl ?_; (with_reducible assumption)) | (refine Or.inr ?_; (with_reducible assumption)) | (refine Or.inr (Or.inl ?_); (with_reducible assumption)) | (refine Or.inr (Or.inr ?_); (with_reducible assumption)) | (refine Or.inr (Or.inr (Or.inl ?_)); (with_reducible assumption)) | (refine Or.inr (Or.inr (Or.inr ?_)); (with_reducible assumption)) | (refine fun z => Or.elim z ?_ ?_ <;> (with_reducible assumption)) | (refine fun z => Or.elim z ?_ (fun z => Or.elim z ?_ ?_) <;> (with_reducible assumption)) | (refine fun z => Or.elim z ?_ (fun z => Or.elim z ?_ (fun z => Or.elim z ?_ ?_)) <;> (with_reducible assumption)) | (refine fun z => Or.elim z (fun z9 => z9 ?_) ?_ <;> (first | (with_reducible assumption) | (refine Or.inl ?_; (with_reducible assumption)) | (refine Or.inr (Or.inl ?_); (with_reducible assumption)) | (refine Or.inr (Or.inr ?_); (with_reducible assumption)) | (refine Or.inr (Or.inr (Or.inl ?_)); (with_reducible assumption)) | (refine Or.inr (Or.inr (Or.inr ?_)); (with_reducible assumption)))) | (refine Or.inl (fun z => Or.elim z ?_ (fun z => Or.elim z ?_ ?_)) <;> (with_reducible assumption)) | (refine Or.inl (fun z => Or.elim z ?_ (fun z => Or.elim z ?_ (fun z => Or.elim z ?_ ?_))) <;> (with_reducible assumption))))) | (first | (refine sp_k3b_1 ?_ <;> (first | assumption | (refine Or.inl ?_; assumption) | (refine Or.inr ?_; assumption) | (refine Or.inr (Or.inl ?_); assumption) | (refine Or.inr (Or.inr ?_); assumption) | (refine Or.inr (Or.inr (Or.inl ?_)); assumption) | (refine Or.inr (Or.inr (Or.inr ?_)); assumption) | (refine fun z => Or.elim z ?_ ?_ <;> assumption) | (refine fun z => Or.elim z ?_ (fun z => Or.elim z ?_ ?_) <;> assumption) | (refine fun z => Or.elim z ?_ (fun z => Or.elim z ?_ (fun z => Or.elim z ?_ ?_)) <;> assumption) | (refine fun z => Or.elim z (fun z9 => z9 ?_) ?_ <;> (first | assumption | (refine Or.inl ?_; assumption) | (refine Or.inr (Or.inl ?_); assumption) | (refine Or.inr (Or.inr ?_); assumption) | (refine Or.inr (Or.inr (Or.inl ?_)); assumption) | (refine Or.inr (Or.inr (Or.inr ?_)); assumption))) | (refine Or.inl (fun z => Or.elim z ?_ (fun z => Or.elim z ?_ ?_)) <;> assumption) | (refine Or.inl (fun z => Or.elim z ?_ (fun z => Or.elim z ?_ (fun z => Or.elim z ?_ ?_))) <;> assumption))) | (refine sp_k3b_1' ?_ <;> (first | assumption | (refine Or.inl ?_; assumption) | (refine Or.inr ?_; assumption) | (refine Or.inr (Or.inl ?_); assumption) | (refine Or.inr (Or.inr ?_); assumption) | (refine Or.inr (Or.inr (Or.inl ?_)); assumption) | (refine Or.inr (Or.inr (Or.inr ?_)); assumption) | (refine fun z => Or.elim z ?_ ?_ <;> assumption) | (refine fun z => Or.elim z ?_ (fun z => Or.elim z ?_ ?_) <;> assumption) | (refine fun z => Or.elim z ?_ (fun z => Or.elim z ?_ (fun z => Or.elim z ?_ ?_)) <;> assumption) | (refine fun z => Or.elim z (fun z9 => z9 ?_) ?_ <;> (first | assumption | (refine Or.inl ?_; assumption) | (refine Or.inr (Or.inl ?_); assumption) | (refine Or.inr (Or.inr ?_); assumption) | (refine Or.inr (Or.inr (Or.inl ?_)); assumption) | (refine Or.inr (Or.inr (Or.inr ?_)); assumption))) | (refine Or.inl (fun z => Or.elim z ?_ (fun z => Or.elim z ?_ ?_)) <;> assumption) | (refine Or.inl (fun z => Or.elim z ?_ (fun z => Or.elim z ?_ (fun z => Or.elim z ?_ ?_))) <;> assumption))))
    · exact absurd c_5_7 (by decide)
  · refine j_w w hw555 ?_
    have ei555 : sp_i (nI i555) = i555 := sp_in' (by omega)
    refine j_if_ne (tgt := 15) dX11_hearTable_5 (by decide) (fun c_5_24 => ?_) (fun c_5_24 => ?_)
    · exact absurd c_5_24 (by decide)
    · refine j_iload_n dX11_hearTable_8 rfl ?_
      refine j_callS dX11_hearTable_9 kX11_isNoTwo lX11_72 stX11_isNoTwo (cm_isNoTwo_r hl w _) (Nat.le_of_ble_eq_true rfl) ⟨(by show _ ≤ 42; omega), (by show _ ≤ 631; omega)⟩ rfl (Nat.le_of_ble_eq_true rfl) rfl rfl (fun _ _ h => h.elim) ?_
      rintro _ _ ⟨⟨rfl, hno556⟩ | ⟨rfl, i556, hi556, ht556, rfl⟩, hw556⟩
      · refine j_w w hw556 ?_
        refine j_if_eq (tgt := 19) dX11_hearTable_12 (by decide) (fun c_12_30 => ?_) (fun c_12_30 => ?_)
        · exact absurd c_12_30 (by decide)
        · refine j_iconst (v := 1) dX11_hearTable_15 (by decide) ?_
          refine j_goto (tgt := 20) dX11_hearTable_16 (by decide) ?_
          refine j_iconst (v := 1) dX11_hearTable_20 (by decide) ?_
          refine j_callV (q := (RX11, TX11, 8)) dX11_hearTable_21 kX11_start lX11_76 inX11_start seX11_start h.m rfl (cm_start1 hl w _ _ h (by decide)) (Nat.le_of_ble_eq_true rfl) ⟨(by show _ ≤ 42; omega), (by show _ ≤ 631; omega)⟩ rfl (Nat.le_of_ble_eq_true rfl) rfl rfl (fun _ _ h => h.elim) ?_
          rintro _ w2 ⟨rfl, fm2, h2⟩
          have R2 := R.th (k := 1)
          refine j_if_eq (tgt := 29) dX11_hearTable_24 (by decide) (fun c_24_38 => ?_) (fun c_24_38 => ?_)
          · exact absurd c_24_38 (by decide)
          · refine j_iconst (v := 0) dX11_hearTable_27 (by decide) ?_
            refine j_iret dX11_hearTable_28 rfl rfl ?_ (by show _ ≤ 42; omega) (by show _ ≤ 631; omega)
            refine cast (congrFun (congrFun hQ9 _) _) ?_
            try rw [ei555]
            refine ⟨_, _, rfl, (fm2.le (q' := 59) (by decide)), h2, sp_X1 (k := 1) ?_ (by decide) rfl R2⟩
            first | (first | (refine sp_k3b_1 ?_ <;> (first | (with_reducible assumption) | (refine Or.inl ?_; (with_reducible assumption)) | (refine Or.inr ?_; (with_reducible assumption)) | (refine Or.inr (Or.inl ?_); (with_reducible assumption)) | (refine Or.inr (Or.inr ?_); (with_reducible assumption)) | (refine Or.inr (Or.inr (Or.inl ?_)); (with_reducible assumption)) | (refine Or.inr (Or.inr (Or.inr ?_)); (with_reducible assumption)) | (refine fun z => Or.elim z ?_ ?_ <;> (with_reducible assumption)) | (refine fun z => Or.elim z ?_ (fun z => Or.elim z ?_ ?_) <;> (with_reducible assumption)) | (refine fun z => Or.elim z ?_ (fun z => Or.elim z ?_ (fun z => Or.elim z ?_ ?_)) <;> (with_reducible assumption)) | (refine fun z => Or.elim z (fun z9 => z9 ?_) ?_ <;> (first | (with_reducible assumption) | (refine Or.inl ?_; (with_reducible assumption)) | (refine Or.inr (Or.inl ?_); (with_reducible assumption)) | (refine Or.inr (Or.inr ?_); (with_reducible assumption)) | (refine Or.inr (Or.inr (Or.inl ?_)); (with_reducible assumption)) | (refine Or.inr (Or.inr (Or.inr ?_)); (with_reducible assumption)))) | (refine Or.inl (fun z => Or.elim z ?_ (fun z => Or.elim z ?_ ?_)) <;> (with_reducible assumption)) | (refine Or.inl (fun z => Or.elim z ?_ (fun z => Or.elim z ?_ (fun z => Or.elim z ?_ ?_))) <;> (with_reducible assumption)))) | (refine sp_k3b_1' ?_ <;> (first | (with_reducible assumption) | (refine Or.inl ?_; (with_reducible assumption)) | (refine Or.inr ?_; (with_reducible assumption)) | (refine Or.inr (Or.inl ?_); (with_reducible assumption)) | (refine Or.inr (Or.inr ?_); (with_reducible assumption)) | (refine Or.inr (Or.inr (Or.inl ?_)); (with_reducible assumption)) | (refine Or.inr (Or.inr (Or.inr ?_)); (with_reducible assumption)) | (refine fun z => Or.elim z ?_ ?_ <;> (with_reducible assumption)) | (refine fun z => Or.elim z ?_ (fun z => Or.elim z ?_ ?_) <;> (with_reducible assumption)) | (refine fun z => Or.elim z ?_ (fun z => Or.elim z ?_ (fun z => Or.elim z ?_ ?_)) <;> (with_reducible assumption)) | (refine fun z => Or.elim z (fun z9 => z9 ?_) ?_ <;> (first | (with_reducible assumption) | (refine Or.inl ?_; (with_reducible assumption)) | (refine Or.inr (Or.inl ?_); (with_reducible assumption)) | (refine Or.inr (Or.inr ?_); (with_reducible assumption)) | (refine Or.inr (Or.inr (Or.inl ?_)); (with_reducible assumption)) | (refine Or.inr (Or.inr (Or.inr ?_)); (with_reducible assumption)))) | (refine Or.inl (fun z => Or.elim z ?_ (fun z => Or.elim z ?_ ?_)) <;> (with_reducible assumption)) | (refine Or.inl (fun z => Or.elim z ?_ (fun z => Or.elim z ?_ (fun z => Or.elim z ?_ ?_))) <;> (with_reducible assumption))))) | (first | (refine sp_k3b_1 ?_ <;> (first | assumption | (refine Or.inl ?_; assumption) | (refine Or.inr ?_; assumption) | (refine Or.inr (Or.inl ?_); assumption) | (refine Or.inr (Or.inr ?_); assumption) | (refine Or.inr (Or.inr (Or.inl ?_)); assumption) | (refine Or.inr (Or.inr (Or.inr ?_)); assumption) | (refine fun z => Or.elim z ?_ ?_ <;> assumption) | (refine fun z => Or.elim z ?_ (fun z => Or.elim z ?_ ?_) <;> assumption) | (refine fun z => Or.elim z ?_ (fun z => Or.elim z ?_ (fun z => Or.elim z ?_ ?_)) <;> assumption) | (refine fun z => Or.elim z (fun z9 => z9 ?_) ?_ <;> (first | assumption | (refine Or.inl ?_; assumption) | (refine Or.inr (Or.inl ?_); assumption) | (refine Or.inr (Or.inr ?_); assumption) | (refine Or.inr (Or.inr (Or.inl ?_)); assumption) | (refine Or.inr (Or.inr (Or.inr ?_)); assumption))) | (refine Or.inl (fun z => Or.elim z ?_ (fun z => Or.elim z ?_ ?_)) <;> assumption) | (refine Or.inl (fun z => Or.elim z ?_ (fun z => Or.elim z ?_ (fun z => Or.elim z ?_ ?_))) <;> assumption))) | (refine sp_k3b_1' ?_ <;> (first | assumption | (refine Or.inl ?_; assumption) | (refine Or.inr ?_; assumption) | (refine Or.inr (Or.inl ?_); assumption) | (refine Or.inr (Or.inr ?_); assumption) | (refine Or.inr (Or.inr (Or.inl ?_)); assumption) | (refine Or.inr (Or.inr (Or.inr ?_)); assumption) | (refine fun z => Or.elim z ?_ ?_ <;> assumption) | (refine fun z => Or.elim z ?_ (fun z => Or.elim z ?_ ?_) <;> assumption) | (refine fun z => Or.elim z ?_ (fun z => Or.elim z ?_ (fun z => Or.elim z ?_ ?_)) <;> assumption) | (refine fun z => Or.elim z (fun z9 => z9 ?_) ?_ <;> (first | assumption | (refine Or.inl ?_; assumption) | (refine Or.inr (Or.inl ?_); assumption) | (refine Or.inr (Or.inr ?_); assumption) | (refine Or.inr (Or.inr (Or.inl ?_)); assumption) | (refine Or.inr (Or.inr (Or.inr ?_)); assumption))) | (refine Or.inl (fun z => Or.elim z ?_ (fun z => Or.elim z ?_ ?_)) <;> assumption) | (refine Or.inl (fun z => Or.elim z ?_ (fun z => Or.elim z ?_ (fun z => Or.elim z ?_ ?_))) <;> assumption))))
      · refine j_w w hw556 ?_
        have ei556 : sp_i (nI i556) = i556 := sp_in' (by omega)
        refine j_if_eq (tgt := 19) dX11_hearTable_12 (by decide) (fun c_12_48 => ?_) (fun c_12_48 => ?_)
        · refine j_iconst (v := 0) dX11_hearTable_19 (by decide) ?_
          refine j_iconst (v := 1) dX11_hearTable_20 (by decide) ?_
          refine j_callV (q := (RX11, TX11, 8)) dX11_hearTable_21 kX11_start lX11_76 inX11_start seX11_start h.m rfl (cm_start0 hl w _ _ h) (Nat.le_of_ble_eq_true rfl) ⟨(by show _ ≤ 42; omega), (by show _ ≤ 631; omega)⟩ rfl (Nat.le_of_ble_eq_true rfl) rfl rfl (fun _ _ h => h.elim) ?_
          rintro _ w3 ⟨rfl, fm3, h3⟩
          have R3 := R.th (k := 0)
          refine j_if_eq (tgt := 29) dX11_hearTable_24 (by decide) (fun c_24_54 => ?_) (fun c_24_54 => ?_)
          · refine j_iload_n dX11_hearTable_29 rfl ?_
            refine j_if_ne (tgt := 42) dX11_hearTable_30 (by decide) (fun c_30_56 => ?_) (fun c_30_56 => ?_)
            · have hb30 : ¬ i555 = 0 := fun z => c_30_56 (show nI i555 = nI 0 by rw [z])
              refine j_bipush (v := 7) dX11_hearTable_42 (by decide) ?_
              obtain ⟨x1, hx1a, hx1b, hx1c⟩ := z_fresh (57) (by decide) h3.fn
              refine j_newa (kd := 0) (N := 7) (w' := _) (n := x1) dX11_hearTable_44 rfl rfl arc_int ⟨rfl, fun _ _ h => h⟩ (by decide) rfl (by decide) rfl (z_alW hx1c hx1a) (Nat.le_of_ble_eq_true rfl) (Nat.le_of_ble_eq_true rfl) ?_
              refine j_seal hx1a ?_
              intro w4 u4
              have fw4 := u4.fw hx1a hx1b
              have g4_x1 := u4.1
              have h4 := h3.gar fw4 (by omega)
              refine j_astore_n (lo' := [(3, _), (0, _), (1, _), (2, _)]) dX11_hearTable_46 rfl (by decide) rfl ?_
              refine j_aload_n dX11_hearTable_47 rfl rfl ?_
              refine j_iconst (v := 0) dX11_hearTable_48 (by decide) ?_
              refine j_dup2 dX11_hearTable_49 rfl rfl ?_
              refine j_ld dX11_hearTable_50 g4_x1 (vp_in_nI (n := 0) (by decide) (by decide)) ?_
              refine j_iconst (v := 1) dX11_hearTable_51 (by decide) ?_
              refine j_iadd dX11_hearTable_52 ?_
              refine j_sto (w' := _) dX11_hearTable_53 g4_x1 (vp_in_nI (n := 0) (by decide) (by decide)) rfl ?_
              refine j_seal hx1a ?_
              intro w5 u5
              have fw5 := u5.fw hx1a hx1b
              have g5_x1 := u5.1
              have h5 := h4.gar fw5 (by omega)
              refine j_iconst (v := 0) dX11_hearTable_54 (by decide) ?_
              refine j_istore (lo' := [(4, _), (3, _), (0, _), (1, _), (2, _)]) dX11_hearTable_55 (by decide) rfl ?_
              refine j_aload_n dX11_hearTable_57 rfl rfl ?_
              refine j_getf dX11_hearTable_58 fX11_34 h5.m rfl ?_
              refine j_iload_n dX11_hearTable_61 rfl ?_
              obtain ⟨lv561, -, lg561⟩ := z_li.cell h5.tabs
              refine j_callV (q := (RJx4a65c, TJx4a65c, 3)) dX11_hearTable_62 kJx4a65c_get_915e3 lX11_82 inJx4a65c_get_915e3 seJx4a65c_get_915e3 lg561 rfl (cl_get hl w5 47 1007 _ _ (i555) _ h5.tabs (z_thr3 (t := i555) (by omega))) (Nat.le_of_ble_eq_true rfl) ⟨(by show _ ≤ 42; omega), (by show _ ≤ 631; omega)⟩ rfl (Nat.le_of_ble_eq_true rfl) rfl rfl (fun _ _ h => h.elim) ?_
              rintro _ _ ⟨rfl, hw562⟩
              refine j_w w5 hw562 ?_
              refine j_castS dX11_hearTable_65 (z_w 1341 ((lwt_6_3 6).trans rfl) (by decide +kernel)) (z_li.is (h5.tb (t := i555) (by omega))) ?_
              obtain ⟨lv565, -, lg565⟩ := z_li.cell (h5.tb (t := i555) (by omega))
              refine j_callV (q := (RJx4a65c, TJx4a65c, 3)) dX11_hearTable_68 kJx4a65c_iterator_32c93 lX11_162 inJx4a65c_iterator_32c93 seJx4a65c_iterator_32c93 lg565 rfl (cl_iter hl w5 58 (51 + i555) _ _ _ (h5.tb (t := i555) (by omega)) (by decide) (by omega) h5.fn) (Nat.le_of_ble_eq_true rfl) ⟨(by show _ ≤ 42; omega), (by show _ ≤ 631; omega)⟩ rfl (Nat.le_of_ble_eq_true rfl) rfl rfl (fun _ _ h => h.elim) ?_
              rintro _ w6 ⟨it564, rfl, fw6, hita564, hitb564, hitc564, la564, git564⟩
              have hita564 : 1000 ≤ it564 := hita564
              have hitb564 : it564 % 64 = 58 := hitb564
              have n_x1_it564 := z_neF hitc564 g5_x1
              have g6_x1 := fw6.g (Or.inr (by omega)) g5_x1
              have fm6 := fw6.fm (q := 59) (by omega)
              have h6 := h5.gar fw6 (by omega)
              refine j_astore (lo' := [(5, _), (4, _), (3, _), (0, _), (1, _), (2, _)]) dX11_hearTable_71 rfl (by decide) rfl ?_
              have hT20 : (sp_T S i555).length ≤ 20 := R.l20 h (t := i555) (by omega) rfl
              have loop73 : ∀ (n9 : Nat) (w7 : z_W) (s1 : z_Z) (k mm : Nat) (la : Int32) (c : Nat → Int32) (hh : sp_H) (F : Nat → Int32), (k ≤ (sp_T S i555).length) → ((sp_T S i555).length < k + n9) → (sp_ho c hh mm ((sp_prs (sp_T S i555)).drop k) = sp_htb S i555 i556) → (sp_MR (sp_uE (sp_tc S i555 c) i556 hh) s1) → (s1.1.1 = 0) → (z_mst w7 s1) → (z_fm 59 w w7) → (z_g w7 it564 = some (.inr (3, [.int (nI k), .int la, .int (z_qp s1 i555).1, .ref (1011 + i555)]))) → (z_g w7 x1 = some (.inl (0, 7, fun j => .int (F j)))) → z_J G l mX11_hearTable (22, 42, 631, w, Q9, (fun _ _ => False)) 73 [(0, .ref 1000), (1, .int (nI i555)), (2, .int (nI i556)), (3, .ref x1), (4, .int (nI mm)), (5, .ref it564)] [] w7 (2 + 2 * k) (11 + 31 * k) := by
                intro n9
                induction n9 with
                | zero => intro w7 s1 k mm la c hh F hkl hf9 he hR hth hm hfm git gx; exact absurd hf9 (by omega)
                | succ n9 ih =>
                  intro w7 s1 k mm la c hh F hkl hf9 he hR hth hm hfm git gx
                  refine j_aload dX11_hearTable_73 rfl rfl ?_
                  refine j_callF (x := ⟨"java/util/Iterator", "hasNext", "()Z"⟩) (q := (RJx35411, TJx35411, 4)) dX11_hearTable_75 kJx35411_hasNext_aae02 ⟨(z_w 1765 ((lwt_8_1 10).trans rfl) (by decide +kernel)), (z_w 1769 ((lwt_8_1 14).trans rfl) (by decide +kernel)), inJx35411_hasNext_aae02, ⟨by decide, by decide⟩, rfl, fun U h => h.2.1⟩ git rfl (cl_hasN hl w7 _ (51 + i555) _ (k) _ _ (hm.tb (t := i555) (by omega)) ⟨_, git⟩ (by rw [z_rs_len, hR.tlB (by omega) (congrFun sp_tcT _)]; omega)) (Nat.le_of_ble_eq_true rfl) ⟨(by show _ ≤ 42; omega), (by show _ ≤ 631; omega)⟩ rfl (Nat.le_of_ble_eq_true rfl) rfl ?_
                  rintro _ _ ⟨⟨x566, rfl, hz566, hp566⟩, hw566⟩
                  refine j_w w7 hw566 ?_
                  rw [z_rs_len, hR.tlB (by omega) (congrFun sp_tcT _)] at hz566 hp566
                  refine j_if_eq (tgt := 145) dX11_hearTable_80 (by decide) (fun c_80_111 => ?_) (fun c_80_111 => ?_)
                  · have hk80 : k = ((sp_T S i555)).length := hz566 c_80_111
                    refine j_aload_n dX11_hearTable_145 rfl rfl ?_
                    refine j_iconst (v := 1) dX11_hearTable_146 (by decide) ?_
                    refine j_dup2 dX11_hearTable_147 rfl rfl ?_
                    refine j_ld dX11_hearTable_148 gx (vp_in_nI (n := 1) (by decide) (by decide)) ?_
                    refine j_iconst (v := 1) dX11_hearTable_149 (by decide) ?_
                    refine j_iadd dX11_hearTable_150 ?_
                    refine j_sto (w' := _) dX11_hearTable_151 gx (vp_in_nI (n := 1) (by decide) (by decide)) rfl ?_
                    refine j_seal hx1a ?_
                    intro w8 u8
                    have fw8 := u8.fw hx1a hx1b
                    have g8_it564 := (u8.2.1 it564 (Ne.symm n_x1_it564)).trans git
                    have g8_x1 := u8.1
                    have h8 := hm.gar fw8 (by omega)
                    refine j_iload dX11_hearTable_152 rfl ?_
                    refine j_iret dX11_hearTable_154 rfl rfl ?_ (by show _ ≤ 42; omega) (by show _ ≤ 631; omega)
                    refine cast (congrFun (congrFun hQ9 _) _) ?_
                    rw [List.drop_eq_nil_of_le (by rw [sp_prl]; omega)] at he
                    try rw [ei555]
                    try rw [ei556]
                    refine ⟨_, _, rfl, (hfm.tr (fw8.fm (q := 59) (by omega))), h8, sp_X0 ?_ hth (by unfold sp_htbS; rw [← he]; have e := hR; rw [sp_tcn hb30] at e; show sp_MR (sp_uE (sp_tc S _ _) _ _) _; rw [sp_tcn hb30]; exact e) (by rw [← he]; rfl)⟩
                    first | (first | (refine sp_k3b_0 ?_ ?_ <;> (first | (with_reducible assumption) | (refine Or.inl ?_; (with_reducible assumption)) | (refine Or.inr ?_; (with_reducible assumption)) | (refine Or.inr (Or.inl ?_); (with_reducible assumption)) | (refine Or.inr (Or.inr ?_); (with_reducible assumption)) | (refine Or.inr (Or.inr (Or.inl ?_)); (with_reducible assumption)) | (refine Or.inr (Or.inr (Or.inr ?_)); (with_reducible assumption)) | (refine fun z => Or.elim z ?_ ?_ <;> (with_reducible assumption)) | (refine fun z => Or.elim z ?_ (fun z => Or.elim z ?_ ?_) <;> (with_reducible assumption)) | (refine fun z => Or.elim z ?_ (fun z => Or.elim z ?_ (fun z => Or.elim z ?_ ?_)) <;> (with_reducible assumption)) | (refine fun z => Or.elim z (fun z9 => z9 ?_) ?_ <;> (first | (with_reducible assumption) | (refine Or.inl ?_; (with_reducible assumption)) | (refine Or.inr (Or.inl ?_); (with_reducible assumption)) | (refine Or.inr (Or.inr ?_); (with_reducible assumption)) | (refine Or.inr (Or.inr (Or.inl ?_)); (with_reducible assumption)) | (refine Or.inr (Or.inr (Or.inr ?_)); (with_reducible assumption)))) | (refine Or.inl (fun z => Or.elim z ?_ (fun z => Or.elim z ?_ ?_)) <;> (with_reducible assumption)) | (refine Or.inl (fun z => Or.elim z ?_ (fun z => Or.elim z ?_ (fun z => Or.elim z ?_ ?_))) <;> (with_reducible assumption))))) | (first | (refine sp_k3b_0 ?_ ?_ <;> (first | assumption | (refine Or.inl ?_; assumption) | (refine Or.inr ?_; assumption) | (refine Or.inr (Or.inl ?_); assumption) | (refine Or.inr (Or.inr ?_); assumption) | (refine Or.inr (Or.inr (Or.inl ?_)); assumption) | (refine Or.inr (Or.inr (Or.inr ?_)); assumption) | (refine fun z => Or.elim z ?_ ?_ <;> assumption) | (refine fun z => Or.elim z ?_ (fun z => Or.elim z ?_ ?_) <;> assumption) | (refine fun z => Or.elim z ?_ (fun z => Or.elim z ?_ (fun z => Or.elim z ?_ ?_)) <;> assumption) | (refine fun z => Or.elim z (fun z9 => z9 ?_) ?_ <;> (first | assumption | (refine Or.inl ?_; assumption) | (refine Or.inr (Or.inl ?_); assumption) | (refine Or.inr (Or.inr ?_); assumption) | (refine Or.inr (Or.inr (Or.inl ?_)); assumption) | (refine Or.inr (Or.inr (Or.inr ?_)); assumption))) | (refine Or.inl (fun z => Or.elim z ?_ (fun z => Or.elim z ?_ ?_)) <;> assumption) | (refine Or.inl (fun z => Or.elim z ?_ (fun z => Or.elim z ?_ (fun z => Or.elim z ?_ ?_))) <;> assumption))))
                  · have hk80 : k < ((sp_T S i555)).length := hp566 c_80_111
                    refine j_aload dX11_hearTable_83 rfl rfl ?_
                    obtain ⟨e569, he569⟩ : ∃ e, ((sp_T S i555))[k]? = some e := ⟨_, List.getElem?_eq_getElem (show k < ((sp_T S i555)).length by omega)⟩
                    obtain ⟨p569, hp569, hq569, hk569, hv0569, hv1569, hv2569⟩ := hR.prB hm (t := i555) (k := k) (by omega) (congrFun sp_tcT _) he569
                    refine j_callF (x := ⟨"java/util/Iterator", "next", "()Ljava/lang/Object;"⟩) (q := (RJx35411, TJx35411, 4)) dX11_hearTable_85 kJx35411_next_0502b ⟨(z_w 1775 ((lwt_8_1 20).trans rfl) (by decide +kernel)), (z_w 1778 ((lwt_8_1 23).trans rfl) (by decide +kernel)), inJx35411_next_0502b, ⟨by decide, by decide⟩, rfl, fun U h => h.2.2.1⟩ git rfl (cl_next hl w7 58 it564 (51 + i555) _ (k) _ _ _ (hm.tb (t := i555) (by omega)) ⟨_, git⟩ hq569 hita564 hitb564 (by omega)) (Nat.le_of_ble_eq_true rfl) ⟨(by show _ ≤ 42; omega), (by show _ ≤ 631; omega)⟩ rfl (Nat.le_of_ble_eq_true rfl) rfl ?_
                    rintro _ w9 ⟨rfl, fw9, la9, git9⟩
                    have g9_x1 := fw9.g (Or.inr (by omega)) gx
                    have fm9 := fw9.fm (q := 59) (by omega)
                    have h9 := hm.gar fw9 (by omega)
                    refine j_castS dX11_hearTable_90 (z_w 1663 ((lwt_7_5 28).trans rfl) (by decide +kernel)) (z_isA ((h9.pr (t := i555) (by omega)).1 p569 hp569).2) ?_
                    refine j_astore (lo' := [(6, _), (0, _), (1, _), (2, _), (3, _), (4, _), (5, _)]) dX11_hearTable_93 rfl (by decide) rfl ?_
                    refine j_aload_n dX11_hearTable_95 rfl rfl ?_
                    refine j_iconst (v := 1) dX11_hearTable_96 (by decide) ?_
                    refine j_dup2 dX11_hearTable_97 rfl rfl ?_
                    refine j_ld dX11_hearTable_98 g9_x1 (vp_in_nI (n := 1) (by decide) (by decide)) ?_
                    refine j_iconst (v := 1) dX11_hearTable_99 (by decide) ?_
                    refine j_iadd dX11_hearTable_100 ?_
                    refine j_sto (w' := _) dX11_hearTable_101 g9_x1 (vp_in_nI (n := 1) (by decide) (by decide)) rfl ?_
                    refine j_seal hx1a ?_
                    intro w10 u10
                    have fw10 := u10.fw hx1a hx1b
                    have g10_it564 := (u10.2.1 it564 (Ne.symm n_x1_it564)).trans git9
                    have g10_x1 := u10.1
                    have h10 := h9.gar fw10 (by omega)
                    refine j_aload_n dX11_hearTable_102 rfl rfl ?_
                    refine j_iconst (v := 2) dX11_hearTable_103 (by decide) ?_
                    refine j_dup2 dX11_hearTable_104 rfl rfl ?_
                    refine j_ld dX11_hearTable_105 g10_x1 (vp_in_nI (n := 2) (by decide) (by decide)) ?_
                    refine j_iconst (v := 1) dX11_hearTable_106 (by decide) ?_
                    refine j_iadd dX11_hearTable_107 ?_
                    refine j_sto (w' := _) dX11_hearTable_108 g10_x1 (vp_in_nI (n := 2) (by decide) (by decide)) rfl ?_
                    refine j_seal hx1a ?_
                    intro w11 u11
                    have fw11 := u11.fw hx1a hx1b
                    have g11_it564 := (u11.2.1 it564 (Ne.symm n_x1_it564)).trans g10_it564
                    have g11_x1 := u11.1
                    have h11 := h10.gar fw11 (by omega)
                    refine j_aload_n dX11_hearTable_109 rfl rfl ?_
                    refine j_getf dX11_hearTable_110 fX11_40 h11.m rfl ?_
                    refine j_iload_n dX11_hearTable_113 rfl ?_
                    obtain ⟨fz575, gz575, hz575⟩ := h11.hs
                    refine j_aald (v := .ref (1009 + i556)) dX11_hearTable_114 gz575 rfl rfl (vp_in_nI (by omega) (by omega)) (by rw [z_cla (by omega)]; exact hz575 _ (by omega)) ?_
                    refine j_sipush (v := 1000) dX11_hearTable_115 (by decide) ?_
                    refine j_aload dX11_hearTable_118 rfl rfl ?_
                    refine j_iconst (v := 0) dX11_hearTable_120 (by decide) ?_
                    refine j_ld dX11_hearTable_121 ((h11.pr (t := i555) (by omega)).1 p569 hp569).2 (vp_in_nI (n := 0) (by decide) (by decide)) ?_
                    refine j_top (congrArg Value.int (show _ = nI e569.1 from by rw [show (0 : Int32).toNatClampNeg = 0 from by decide]; exact hv0569)) ?_
                    refine j_imul dX11_hearTable_122 ?_
                    refine j_aload dX11_hearTable_123 rfl rfl ?_
                    refine j_iconst (v := 1) dX11_hearTable_125 (by decide) ?_
                    refine j_ld dX11_hearTable_126 ((h11.pr (t := i555) (by omega)).1 p569 hp569).2 (vp_in_nI (n := 1) (by decide) (by decide)) ?_
                    refine j_top (congrArg Value.int (show _ = e569.2 from by rw [show (1 : Int32).toNatClampNeg = 1 from by decide]; exact hv1569)) ?_
                    refine j_iadd dX11_hearTable_127 ?_
                    refine j_callVN (q := (RX10, TX10, 5)) dX11_hearTable_128 kX10_refuses lX11_102 inX10_refuses seX10_refuses (h11.hd (i := i556) (by omega)) rfl (cm_refuses_r hl w11 (sp_tc S i555 c) hh _ (i556) _ h11 hR (by omega)) (Nat.le_of_ble_eq_true rfl) ⟨(by show _ ≤ 42; omega), (by show _ ≤ 631; omega)⟩ rfl (Nat.le_of_ble_eq_true rfl) rfl rfl (fun _ _ h => h.elim) ?_
                    rintro _ w12 (⟨rfl, hin12, hw12⟩ | ⟨rfl, h212, s12, hin12, fm12, h12, R12, ht12, hqp12⟩)
                    · refine j_w w11 hw12 ?_
                      refine j_if_eq (tgt := 139) dX11_hearTable_131 (by decide) (fun c_131_190 => ?_) (fun c_131_190 => ?_)
                      · exact absurd c_131_190 (by decide)
                      · refine j_aload_n dX11_hearTable_134 rfl rfl ?_
                        refine j_callV (q := (RX11, TX11, 8)) dX11_hearTable_135 kX11_nine lX11_105 inX11_nine seX11_nine h11.m rfl (cm_nine hl w11 _ h11) (Nat.le_of_ble_eq_true rfl) ⟨(by show _ ≤ 42; omega), (by show _ ≤ 631; omega)⟩ rfl (Nat.le_of_ble_eq_true rfl) rfl rfl (fun _ _ h => h.elim) ?_
                        rintro _ w13 ⟨rfl, fm13, h13⟩
                        have g13_it564 := fm13.g hita564 (by rw [hitb564]; decide) g11_it564
                        have g13_x1 := fm13.g hx1a (by rw [hx1b]; decide) g11_x1
                        have R13 := hR.ni
                        refine j_iret dX11_hearTable_138 rfl rfl ?_ (by show _ ≤ 42; omega) (by show _ ≤ 631; omega)
                        refine cast (congrFun (congrFun hQ9 _) _) ?_
                        rw [sp_prd he569, sp_hoN hin12] at he
                        try rw [ei555]
                        try rw [ei556]
                        refine ⟨_, _, rfl, ((((hfm.tr fm9).tr (fw10.fm (q := 59) (by omega))).tr (fw11.fm (q := 59) (by omega))).tr (fm13.le (q' := 59) (by decide))), h13, sp_X0 ?_ hth (by unfold sp_htbS; rw [← he]; have e := R13; rw [sp_tcn hb30] at e; show sp_MR (sp_nine (sp_uE (sp_tc S _ _) _ _)) _; rw [sp_tcn hb30]; exact e) (by rw [← he]; rfl)⟩
                        first | (first | (refine sp_k3b_0 ?_ ?_ <;> (first | (with_reducible assumption) | (refine Or.inl ?_; (with_reducible assumption)) | (refine Or.inr ?_; (with_reducible assumption)) | (refine Or.inr (Or.inl ?_); (with_reducible assumption)) | (refine Or.inr (Or.inr ?_); (with_reducible assumption)) | (refine Or.inr (Or.inr (Or.inl ?_)); (with_reducible assumption)) | (refine Or.inr (Or.inr (Or.inr ?_)); (with_reducible assumption)) | (refine fun z => Or.elim z ?_ ?_ <;> (with_reducible assumption)) | (refine fun z => Or.elim z ?_ (fun z => Or.elim z ?_ ?_) <;> (with_reducible assumption)) | (refine fun z => Or.elim z ?_ (fun z => Or.elim z ?_ (fun z => Or.elim z ?_ ?_)) <;> (with_reducible assumption)) | (refine fun z => Or.elim z (fun z9 => z9 ?_) ?_ <;> (first | (with_reducible assumption) | (refine Or.inl ?_; (with_reducible assumption)) | (refine Or.inr (Or.inl ?_); (with_reducible assumption)) | (refine Or.inr (Or.inr ?_); (with_reducible assumption)) | (refine Or.inr (Or.inr (Or.inl ?_)); (with_reducible assumption)) | (refine Or.inr (Or.inr (Or.inr ?_)); (with_reducible assumption)))) | (refine Or.inl (fun z => Or.elim z ?_ (fun z => Or.elim z ?_ ?_)) <;> (with_reducible assumption)) | (refine Or.inl (fun z => Or.elim z ?_ (fun z => Or.elim z ?_ (fun z => Or.elim z ?_ ?_))) <;> (with_reducible assumption))))) | (first | (refine sp_k3b_0 ?_ ?_ <;> (first | assumption | (refine Or.inl ?_; assumption) | (refine Or.inr ?_; assumption) | (refine Or.inr (Or.inl ?_); assumption) | (refine Or.inr (Or.inr ?_); assumption) | (refine Or.inr (Or.inr (Or.inl ?_)); assumption) | (refine Or.inr (Or.inr (Or.inr ?_)); assumption) | (refine fun z => Or.elim z ?_ ?_ <;> assumption) | (refine fun z => Or.elim z ?_ (fun z => Or.elim z ?_ ?_) <;> assumption) | (refine fun z => Or.elim z ?_ (fun z => Or.elim z ?_ (fun z => Or.elim z ?_ ?_)) <;> assumption) | (refine fun z => Or.elim z (fun z9 => z9 ?_) ?_ <;> (first | assumption | (refine Or.inl ?_; assumption) | (refine Or.inr (Or.inl ?_); assumption) | (refine Or.inr (Or.inr ?_); assumption) | (refine Or.inr (Or.inr (Or.inl ?_)); assumption) | (refine Or.inr (Or.inr (Or.inr ?_)); assumption))) | (refine Or.inl (fun z => Or.elim z ?_ (fun z => Or.elim z ?_ ?_)) <;> assumption) | (refine Or.inl (fun z => Or.elim z ?_ (fun z => Or.elim z ?_ (fun z => Or.elim z ?_ ?_))) <;> assumption))))
                    · have g12_it564 := fm12.g hita564 (by rw [hitb564]; decide) g11_it564
                      have g12_x1 := fm12.g hx1a (by rw [hx1b]; decide) g11_x1
                      have th12 := (congrArg Prod.fst ht12).trans hth
                      refine j_if_eq (tgt := 139) dX11_hearTable_131 (by decide) (fun c_131_208 => ?_) (fun c_131_208 => ?_)
                      · refine j_iinc (lo' := [(4, _), (6, _), (0, _), (1, _), (2, _), (3, _), (5, _)]) dX11_hearTable_139 rfl (z_inc _) (by decide) rfl ?_
                        refine j_goto (tgt := 73) dX11_hearTable_142 (by decide) ?_
                        refine j_widen (kc' := (2 + 2 * (k + 1))) (ks' := (11 + 31 * (k + 1))) (by omega) (by omega) ?_
                        exact j_lo2 (ih w12 _ (k + 1) (mm + 1) _ (z_bp (z_bp c 1) 2) _ _ (by omega) (by omega) (by rw [sp_prd he569, sp_hoS hin12] at he; exact he) (sp_MR.bpX hb30 R12) (by exact th12) h12 ((((hfm.tr fm9).tr (fw10.fm (q := 59) (by omega))).tr (fw11.fm (q := 59) (by omega))).tr (fm12.le (q' := 59) (by decide))) (by rw [hqp12]; exact g12_it564) g12_x1) (z_q1 rfl (z_q1 rfl (z_q1 rfl (z_q1 rfl (z_q1 rfl (z_q1 rfl z_q0))))))
                      · exact absurd c_131_208 (by decide)
              refine j_widen (kc' := (2 + 2 * 0)) (ks' := (11 + 31 * 0)) (by omega) (by omega) ?_
              exact j_lo2 (loop73 ((sp_T S i555).length + 1) w6 _ 0 0 _ (z_bp (sp_C S 2) 0) _ _ (Nat.zero_le _) (by omega) (by exact rfl) (by rw [sp_tcn hb30, sp_uE_id]; exact R3) (by exact rfl) h6 ((((fm3.le (q' := 59) (by decide)).tr (fw4.fm (q := 59) (by omega))).tr (fw5.fm (q := 59) (by omega))).tr fm6) git564 g6_x1) (z_q1 rfl (z_q1 rfl (z_q1 rfl (z_q1 rfl (z_q1 rfl (z_q1 rfl z_q0))))))
            · have hb30 : i555 = 0 := nI_inj (a := i555) (b := 0) c_30_56 (by omega) (by omega)
              refine j_aload_n dX11_hearTable_33 rfl rfl ?_
              refine j_getf dX11_hearTable_34 fX11_31 h3.m rfl ?_
              refine j_iconst (v := 2) dX11_hearTable_37 (by decide) ?_
              obtain ⟨fz578, gz578, hz578⟩ := h3.co
              refine j_aald (v := .ref (1004 + 2)) dX11_hearTable_38 gz578 rfl rfl (vp_in_nI (n := 2) (by decide) (by decide)) (by rw [show (2 : Int32).toNatClampNeg = 2 by decide]; exact hz578 _ (by decide)) ?_
              refine j_goto (tgt := 46) dX11_hearTable_39 (by decide) ?_
              refine j_astore_n (lo' := [(3, _), (0, _), (1, _), (2, _)]) dX11_hearTable_46 rfl (by decide) rfl ?_
              refine j_aload_n dX11_hearTable_47 rfl rfl ?_
              refine j_iconst (v := 0) dX11_hearTable_48 (by decide) ?_
              refine j_dup2 dX11_hearTable_49 rfl rfl ?_
              refine j_ld dX11_hearTable_50 (h3.cn (i := 2) (by decide)) (vp_in_nI (n := 0) (by decide) (by decide)) ?_
              refine j_iconst (v := 1) dX11_hearTable_51 (by decide) ?_
              refine j_iadd dX11_hearTable_52 ?_
              refine j_sto (w' := _) dX11_hearTable_53 (h3.cn (i := 2) (by decide)) (vp_in_nI (n := 0) (by decide) (by decide)) rfl ?_
              refine j_seal (by omega) ?_
              intro w14 u14
              have fw14 := u14.fw (ρ := 44 + 2) (by omega) (by omega)
              have h14 := h3.up44 (i0 := 2) (by decide) fw14 u14.1
              rw [show (0 : Int32).toNatClampNeg = 0 by decide] at h14
              have R14 := R3.bp (i := 2) (k := 0) (by omega) (by decide)
              refine j_iconst (v := 0) dX11_hearTable_54 (by decide) ?_
              refine j_istore (lo' := [(4, _), (3, _), (0, _), (1, _), (2, _)]) dX11_hearTable_55 (by decide) rfl ?_
              refine j_aload_n dX11_hearTable_57 rfl rfl ?_
              refine j_getf dX11_hearTable_58 fX11_34 h14.m rfl ?_
              refine j_iload_n dX11_hearTable_61 rfl ?_
              obtain ⟨lv582, -, lg582⟩ := z_li.cell h14.tabs
              refine j_callV (q := (RJx4a65c, TJx4a65c, 3)) dX11_hearTable_62 kJx4a65c_get_915e3 lX11_82 inJx4a65c_get_915e3 seJx4a65c_get_915e3 lg582 rfl (cl_get hl w14 47 1007 _ _ (i555) _ h14.tabs (z_thr3 (t := i555) (by omega))) (Nat.le_of_ble_eq_true rfl) ⟨(by show _ ≤ 42; omega), (by show _ ≤ 631; omega)⟩ rfl (Nat.le_of_ble_eq_true rfl) rfl rfl (fun _ _ h => h.elim) ?_
              rintro _ _ ⟨rfl, hw583⟩
              refine j_w w14 hw583 ?_
              refine j_castS dX11_hearTable_65 (z_w 1341 ((lwt_6_3 6).trans rfl) (by decide +kernel)) (z_li.is (h14.tb (t := i555) (by omega))) ?_
              obtain ⟨lv586, -, lg586⟩ := z_li.cell (h14.tb (t := i555) (by omega))
              refine j_callV (q := (RJx4a65c, TJx4a65c, 3)) dX11_hearTable_68 kJx4a65c_iterator_32c93 lX11_162 inJx4a65c_iterator_32c93 seJx4a65c_iterator_32c93 lg586 rfl (cl_iter hl w14 58 (51 + i555) _ _ _ (h14.tb (t := i555) (by omega)) (by decide) (by omega) h14.fn) (Nat.le_of_ble_eq_true rfl) ⟨(by show _ ≤ 42; omega), (by show _ ≤ 631; omega)⟩ rfl (Nat.le_of_ble_eq_true rfl) rfl rfl (fun _ _ h => h.elim) ?_
              rintro _ w15 ⟨it585, rfl, fw15, hita585, hitb585, hitc585, la585, git585⟩
              have hita585 : 1000 ≤ it585 := hita585
              have hitb585 : it585 % 64 = 58 := hitb585
              have fm15 := fw15.fm (q := 59) (by omega)
              have h15 := h14.gar fw15 (by omega)
              refine j_astore (lo' := [(5, _), (4, _), (3, _), (0, _), (1, _), (2, _)]) dX11_hearTable_71 rfl (by decide) rfl ?_
              have hT20 : (sp_T S i555).length ≤ 20 := R.l20 h (t := i555) (by omega) rfl
              have loop73 : ∀ (n9 : Nat) (w16 : z_W) (s1 : z_Z) (k mm : Nat) (la : Int32) (c : Nat → Int32) (hh : sp_H), (k ≤ (sp_T S i555).length) → ((sp_T S i555).length < k + n9) → (sp_ho c hh mm ((sp_prs (sp_T S i555)).drop k) = sp_htb S i555 i556) → (sp_MR (sp_uE (sp_tc S i555 c) i556 hh) s1) → (s1.1.1 = 0) → (z_mst w16 s1) → (z_fm 59 w w16) → (z_g w16 it585 = some (.inr (3, [.int (nI k), .int la, .int (z_qp s1 i555).1, .ref (1011 + i555)]))) → z_J G l mX11_hearTable (22, 42, 631, w, Q9, (fun _ _ => False)) 73 [(0, .ref 1000), (1, .int (nI i555)), (2, .int (nI i556)), (3, .ref (1004 + 2)), (4, .int (nI mm)), (5, .ref it585)] [] w16 (2 + 2 * k) (11 + 31 * k) := by
                intro n9
                induction n9 with
                | zero => intro w16 s1 k mm la c hh hkl hf9 he hR hth hm hfm git; exact absurd hf9 (by omega)
                | succ n9 ih =>
                  intro w16 s1 k mm la c hh hkl hf9 he hR hth hm hfm git
                  refine j_aload dX11_hearTable_73 rfl rfl ?_
                  refine j_callF (x := ⟨"java/util/Iterator", "hasNext", "()Z"⟩) (q := (RJx35411, TJx35411, 4)) dX11_hearTable_75 kJx35411_hasNext_aae02 ⟨(z_w 1765 ((lwt_8_1 10).trans rfl) (by decide +kernel)), (z_w 1769 ((lwt_8_1 14).trans rfl) (by decide +kernel)), inJx35411_hasNext_aae02, ⟨by decide, by decide⟩, rfl, fun U h => h.2.1⟩ git rfl (cl_hasN hl w16 _ (51 + i555) _ (k) _ _ (hm.tb (t := i555) (by omega)) ⟨_, git⟩ (by rw [z_rs_len, hR.tlB (by omega) (congrFun sp_tcT _)]; omega)) (Nat.le_of_ble_eq_true rfl) ⟨(by show _ ≤ 42; omega), (by show _ ≤ 631; omega)⟩ rfl (Nat.le_of_ble_eq_true rfl) rfl ?_
                  rintro _ _ ⟨⟨x587, rfl, hz587, hp587⟩, hw587⟩
                  refine j_w w16 hw587 ?_
                  rw [z_rs_len, hR.tlB (by omega) (congrFun sp_tcT _)] at hz587 hp587
                  refine j_if_eq (tgt := 145) dX11_hearTable_80 (by decide) (fun c_80_267 => ?_) (fun c_80_267 => ?_)
                  · have hk80 : k = ((sp_T S i555)).length := hz587 c_80_267
                    refine j_aload_n dX11_hearTable_145 rfl rfl ?_
                    refine j_iconst (v := 1) dX11_hearTable_146 (by decide) ?_
                    refine j_dup2 dX11_hearTable_147 rfl rfl ?_
                    refine j_ld dX11_hearTable_148 (hm.cn (i := 2) (by decide)) (vp_in_nI (n := 1) (by decide) (by decide)) ?_
                    refine j_iconst (v := 1) dX11_hearTable_149 (by decide) ?_
                    refine j_iadd dX11_hearTable_150 ?_
                    refine j_sto (w' := _) dX11_hearTable_151 (hm.cn (i := 2) (by decide)) (vp_in_nI (n := 1) (by decide) (by decide)) rfl ?_
                    refine j_seal (by omega) ?_
                    intro w17 u17
                    have fw17 := u17.fw (ρ := 44 + 2) (by omega) (by omega)
                    have g17_it585 := (fun z => (u17.2.1 it585 (fun z9 => by have h9 := hitb585; rw [z9] at h9; omega)).trans z) git
                    have h17 := hm.up44 (i0 := 2) (by decide) fw17 u17.1
                    rw [show (1 : Int32).toNatClampNeg = 1 by decide] at h17
                    have R17 := sp_MR.bpT (k := 1) hb30 hR (by decide)
                    refine j_iload dX11_hearTable_152 rfl ?_
                    refine j_iret dX11_hearTable_154 rfl rfl ?_ (by show _ ≤ 42; omega) (by show _ ≤ 631; omega)
                    refine cast (congrFun (congrFun hQ9 _) _) ?_
                    rw [List.drop_eq_nil_of_le (by rw [sp_prl]; omega)] at he
                    try rw [ei555]
                    try rw [ei556]
                    refine ⟨_, _, rfl, (hfm.tr (fw17.fm (q := 59) (by omega))), h17, sp_X0 ?_ hth (by unfold sp_htbS; rw [← he]; exact R17) (by rw [← he]; rfl)⟩
                    first | (first | (refine sp_k3b_0 ?_ ?_ <;> (first | (with_reducible assumption) | (refine Or.inl ?_; (with_reducible assumption)) | (refine Or.inr ?_; (with_reducible assumption)) | (refine Or.inr (Or.inl ?_); (with_reducible assumption)) | (refine Or.inr (Or.inr ?_); (with_reducible assumption)) | (refine Or.inr (Or.inr (Or.inl ?_)); (with_reducible assumption)) | (refine Or.inr (Or.inr (Or.inr ?_)); (with_reducible assumption)) | (refine fun z => Or.elim z ?_ ?_ <;> (with_reducible assumption)) | (refine fun z => Or.elim z ?_ (fun z => Or.elim z ?_ ?_) <;> (with_reducible assumption)) | (refine fun z => Or.elim z ?_ (fun z => Or.elim z ?_ (fun z => Or.elim z ?_ ?_)) <;> (with_reducible assumption)) | (refine fun z => Or.elim z (fun z9 => z9 ?_) ?_ <;> (first | (with_reducible assumption) | (refine Or.inl ?_; (with_reducible assumption)) | (refine Or.inr (Or.inl ?_); (with_reducible assumption)) | (refine Or.inr (Or.inr ?_); (with_reducible assumption)) | (refine Or.inr (Or.inr (Or.inl ?_)); (with_reducible assumption)) | (refine Or.inr (Or.inr (Or.inr ?_)); (with_reducible assumption)))) | (refine Or.inl (fun z => Or.elim z ?_ (fun z => Or.elim z ?_ ?_)) <;> (with_reducible assumption)) | (refine Or.inl (fun z => Or.elim z ?_ (fun z => Or.elim z ?_ (fun z => Or.elim z ?_ ?_))) <;> (with_reducible assumption))))) | (first | (refine sp_k3b_0 ?_ ?_ <;> (first | assumption | (refine Or.inl ?_; assumption) | (refine Or.inr ?_; assumption) | (refine Or.inr (Or.inl ?_); assumption) | (refine Or.inr (Or.inr ?_); assumption) | (refine Or.inr (Or.inr (Or.inl ?_)); assumption) | (refine Or.inr (Or.inr (Or.inr ?_)); assumption) | (refine fun z => Or.elim z ?_ ?_ <;> assumption) | (refine fun z => Or.elim z ?_ (fun z => Or.elim z ?_ ?_) <;> assumption) | (refine fun z => Or.elim z ?_ (fun z => Or.elim z ?_ (fun z => Or.elim z ?_ ?_)) <;> assumption) | (refine fun z => Or.elim z (fun z9 => z9 ?_) ?_ <;> (first | assumption | (refine Or.inl ?_; assumption) | (refine Or.inr (Or.inl ?_); assumption) | (refine Or.inr (Or.inr ?_); assumption) | (refine Or.inr (Or.inr (Or.inl ?_)); assumption) | (refine Or.inr (Or.inr (Or.inr ?_)); assumption))) | (refine Or.inl (fun z => Or.elim z ?_ (fun z => Or.elim z ?_ ?_)) <;> assumption) | (refine Or.inl (fun z => Or.elim z ?_ (fun z => Or.elim z ?_ (fun z => Or.elim z ?_ ?_))) <;> assumption))))
                  · have hk80 : k < ((sp_T S i555)).length := hp587 c_80_267
                    refine j_aload dX11_hearTable_83 rfl rfl ?_
                    obtain ⟨e590, he590⟩ : ∃ e, ((sp_T S i555))[k]? = some e := ⟨_, List.getElem?_eq_getElem (show k < ((sp_T S i555)).length by omega)⟩
                    obtain ⟨p590, hp590, hq590, hk590, hv0590, hv1590, hv2590⟩ := hR.prB hm (t := i555) (k := k) (by omega) (congrFun sp_tcT _) he590
                    refine j_callF (x := ⟨"java/util/Iterator", "next", "()Ljava/lang/Object;"⟩) (q := (RJx35411, TJx35411, 4)) dX11_hearTable_85 kJx35411_next_0502b ⟨(z_w 1775 ((lwt_8_1 20).trans rfl) (by decide +kernel)), (z_w 1778 ((lwt_8_1 23).trans rfl) (by decide +kernel)), inJx35411_next_0502b, ⟨by decide, by decide⟩, rfl, fun U h => h.2.2.1⟩ git rfl (cl_next hl w16 58 it585 (51 + i555) _ (k) _ _ _ (hm.tb (t := i555) (by omega)) ⟨_, git⟩ hq590 hita585 hitb585 (by omega)) (Nat.le_of_ble_eq_true rfl) ⟨(by show _ ≤ 42; omega), (by show _ ≤ 631; omega)⟩ rfl (Nat.le_of_ble_eq_true rfl) rfl ?_
                    rintro _ w18 ⟨rfl, fw18, la18, git18⟩
                    have fm18 := fw18.fm (q := 59) (by omega)
                    have h18 := hm.gar fw18 (by omega)
                    refine j_castS dX11_hearTable_90 (z_w 1663 ((lwt_7_5 28).trans rfl) (by decide +kernel)) (z_isA ((h18.pr (t := i555) (by omega)).1 p590 hp590).2) ?_
                    refine j_astore (lo' := [(6, _), (0, _), (1, _), (2, _), (3, _), (4, _), (5, _)]) dX11_hearTable_93 rfl (by decide) rfl ?_
                    refine j_aload_n dX11_hearTable_95 rfl rfl ?_
                    refine j_iconst (v := 1) dX11_hearTable_96 (by decide) ?_
                    refine j_dup2 dX11_hearTable_97 rfl rfl ?_
                    refine j_ld dX11_hearTable_98 (h18.cn (i := 2) (by decide)) (vp_in_nI (n := 1) (by decide) (by decide)) ?_
                    refine j_iconst (v := 1) dX11_hearTable_99 (by decide) ?_
                    refine j_iadd dX11_hearTable_100 ?_
                    refine j_sto (w' := _) dX11_hearTable_101 (h18.cn (i := 2) (by decide)) (vp_in_nI (n := 1) (by decide) (by decide)) rfl ?_
                    refine j_seal (by omega) ?_
                    intro w19 u19
                    have fw19 := u19.fw (ρ := 44 + 2) (by omega) (by omega)
                    have g19_it585 := (fun z => (u19.2.1 it585 (fun z9 => by have h9 := hitb585; rw [z9] at h9; omega)).trans z) git18
                    have h19 := h18.up44 (i0 := 2) (by decide) fw19 u19.1
                    rw [show (1 : Int32).toNatClampNeg = 1 by decide] at h19
                    have R19 := sp_MR.bpT (k := 1) hb30 hR (by decide)
                    refine j_aload_n dX11_hearTable_102 rfl rfl ?_
                    refine j_iconst (v := 2) dX11_hearTable_103 (by decide) ?_
                    refine j_dup2 dX11_hearTable_104 rfl rfl ?_
                    refine j_ld dX11_hearTable_105 (h19.cn (i := 2) (by decide)) (vp_in_nI (n := 2) (by decide) (by decide)) ?_
                    refine j_iconst (v := 1) dX11_hearTable_106 (by decide) ?_
                    refine j_iadd dX11_hearTable_107 ?_
                    refine j_sto (w' := _) dX11_hearTable_108 (h19.cn (i := 2) (by decide)) (vp_in_nI (n := 2) (by decide) (by decide)) rfl ?_
                    refine j_seal (by omega) ?_
                    intro w20 u20
                    have fw20 := u20.fw (ρ := 44 + 2) (by omega) (by omega)
                    have g20_it585 := (fun z => (u20.2.1 it585 (fun z9 => by have h9 := hitb585; rw [z9] at h9; omega)).trans z) g19_it585
                    have h20 := h19.up44 (i0 := 2) (by decide) fw20 u20.1
                    rw [show (2 : Int32).toNatClampNeg = 2 by decide] at h20
                    have R20 := sp_MR.bpT (k := 2) hb30 R19 (by decide)
                    refine j_aload_n dX11_hearTable_109 rfl rfl ?_
                    refine j_getf dX11_hearTable_110 fX11_40 h20.m rfl ?_
                    refine j_iload_n dX11_hearTable_113 rfl ?_
                    obtain ⟨fz596, gz596, hz596⟩ := h20.hs
                    refine j_aald (v := .ref (1009 + i556)) dX11_hearTable_114 gz596 rfl rfl (vp_in_nI (by omega) (by omega)) (by rw [z_cla (by omega)]; exact hz596 _ (by omega)) ?_
                    refine j_sipush (v := 1000) dX11_hearTable_115 (by decide) ?_
                    refine j_aload dX11_hearTable_118 rfl rfl ?_
                    refine j_iconst (v := 0) dX11_hearTable_120 (by decide) ?_
                    refine j_ld dX11_hearTable_121 ((h20.pr (t := i555) (by omega)).1 p590 hp590).2 (vp_in_nI (n := 0) (by decide) (by decide)) ?_
                    refine j_top (congrArg Value.int (show _ = nI e590.1 from by rw [show (0 : Int32).toNatClampNeg = 0 from by decide]; exact hv0590)) ?_
                    refine j_imul dX11_hearTable_122 ?_
                    refine j_aload dX11_hearTable_123 rfl rfl ?_
                    refine j_iconst (v := 1) dX11_hearTable_125 (by decide) ?_
                    refine j_ld dX11_hearTable_126 ((h20.pr (t := i555) (by omega)).1 p590 hp590).2 (vp_in_nI (n := 1) (by decide) (by decide)) ?_
                    refine j_top (congrArg Value.int (show _ = e590.2 from by rw [show (1 : Int32).toNatClampNeg = 1 from by decide]; exact hv1590)) ?_
                    refine j_iadd dX11_hearTable_127 ?_
                    refine j_callVN (q := (RX10, TX10, 5)) dX11_hearTable_128 kX10_refuses lX11_102 inX10_refuses seX10_refuses (h20.hd (i := i556) (by omega)) rfl (cm_refuses_r hl w20 (sp_tc S i555 (z_bp (z_bp c 1) 2)) hh _ (i556) _ h20 R20 (by omega)) (Nat.le_of_ble_eq_true rfl) ⟨(by show _ ≤ 42; omega), (by show _ ≤ 631; omega)⟩ rfl (Nat.le_of_ble_eq_true rfl) rfl rfl (fun _ _ h => h.elim) ?_
                    rintro _ w21 (⟨rfl, hin21, hw21⟩ | ⟨rfl, h221, s21, hin21, fm21, h21, R21, ht21, hqp21⟩)
                    · refine j_w w20 hw21 ?_
                      refine j_if_eq (tgt := 139) dX11_hearTable_131 (by decide) (fun c_131_348 => ?_) (fun c_131_348 => ?_)
                      · exact absurd c_131_348 (by decide)
                      · refine j_aload_n dX11_hearTable_134 rfl rfl ?_
                        refine j_callV (q := (RX11, TX11, 8)) dX11_hearTable_135 kX11_nine lX11_105 inX11_nine seX11_nine h20.m rfl (cm_nine hl w20 _ h20) (Nat.le_of_ble_eq_true rfl) ⟨(by show _ ≤ 42; omega), (by show _ ≤ 631; omega)⟩ rfl (Nat.le_of_ble_eq_true rfl) rfl rfl (fun _ _ h => h.elim) ?_
                        rintro _ w22 ⟨rfl, fm22, h22⟩
                        have g22_it585 := fm22.g hita585 (by rw [hitb585]; decide) g20_it585
                        have R22 := R20.ni
                        refine j_iret dX11_hearTable_138 rfl rfl ?_ (by show _ ≤ 42; omega) (by show _ ≤ 631; omega)
                        refine cast (congrFun (congrFun hQ9 _) _) ?_
                        rw [sp_prd he590, sp_hoN hin21] at he
                        try rw [ei555]
                        try rw [ei556]
                        refine ⟨_, _, rfl, ((((hfm.tr fm18).tr (fw19.fm (q := 59) (by omega))).tr (fw20.fm (q := 59) (by omega))).tr (fm22.le (q' := 59) (by decide))), h22, sp_X0 ?_ hth (by unfold sp_htbS; rw [← he]; exact R22) (by rw [← he]; rfl)⟩
                        first | (first | (refine sp_k3b_0 ?_ ?_ <;> (first | (with_reducible assumption) | (refine Or.inl ?_; (with_reducible assumption)) | (refine Or.inr ?_; (with_reducible assumption)) | (refine Or.inr (Or.inl ?_); (with_reducible assumption)) | (refine Or.inr (Or.inr ?_); (with_reducible assumption)) | (refine Or.inr (Or.inr (Or.inl ?_)); (with_reducible assumption)) | (refine Or.inr (Or.inr (Or.inr ?_)); (with_reducible assumption)) | (refine fun z => Or.elim z ?_ ?_ <;> (with_reducible assumption)) | (refine fun z => Or.elim z ?_ (fun z => Or.elim z ?_ ?_) <;> (with_reducible assumption)) | (refine fun z => Or.elim z ?_ (fun z => Or.elim z ?_ (fun z => Or.elim z ?_ ?_)) <;> (with_reducible assumption)) | (refine fun z => Or.elim z (fun z9 => z9 ?_) ?_ <;> (first | (with_reducible assumption) | (refine Or.inl ?_; (with_reducible assumption)) | (refine Or.inr (Or.inl ?_); (with_reducible assumption)) | (refine Or.inr (Or.inr ?_); (with_reducible assumption)) | (refine Or.inr (Or.inr (Or.inl ?_)); (with_reducible assumption)) | (refine Or.inr (Or.inr (Or.inr ?_)); (with_reducible assumption)))) | (refine Or.inl (fun z => Or.elim z ?_ (fun z => Or.elim z ?_ ?_)) <;> (with_reducible assumption)) | (refine Or.inl (fun z => Or.elim z ?_ (fun z => Or.elim z ?_ (fun z => Or.elim z ?_ ?_))) <;> (with_reducible assumption))))) | (first | (refine sp_k3b_0 ?_ ?_ <;> (first | assumption | (refine Or.inl ?_; assumption) | (refine Or.inr ?_; assumption) | (refine Or.inr (Or.inl ?_); assumption) | (refine Or.inr (Or.inr ?_); assumption) | (refine Or.inr (Or.inr (Or.inl ?_)); assumption) | (refine Or.inr (Or.inr (Or.inr ?_)); assumption) | (refine fun z => Or.elim z ?_ ?_ <;> assumption) | (refine fun z => Or.elim z ?_ (fun z => Or.elim z ?_ ?_) <;> assumption) | (refine fun z => Or.elim z ?_ (fun z => Or.elim z ?_ (fun z => Or.elim z ?_ ?_)) <;> assumption) | (refine fun z => Or.elim z (fun z9 => z9 ?_) ?_ <;> (first | assumption | (refine Or.inl ?_; assumption) | (refine Or.inr (Or.inl ?_); assumption) | (refine Or.inr (Or.inr ?_); assumption) | (refine Or.inr (Or.inr (Or.inl ?_)); assumption) | (refine Or.inr (Or.inr (Or.inr ?_)); assumption))) | (refine Or.inl (fun z => Or.elim z ?_ (fun z => Or.elim z ?_ ?_)) <;> assumption) | (refine Or.inl (fun z => Or.elim z ?_ (fun z => Or.elim z ?_ (fun z => Or.elim z ?_ ?_))) <;> assumption))))
                    · have g21_it585 := fm21.g hita585 (by rw [hitb585]; decide) g20_it585
                      have th21 := (congrArg Prod.fst ht21).trans hth
                      refine j_if_eq (tgt := 139) dX11_hearTable_131 (by decide) (fun c_131_364 => ?_) (fun c_131_364 => ?_)
                      · refine j_iinc (lo' := [(4, _), (6, _), (0, _), (1, _), (2, _), (3, _), (5, _)]) dX11_hearTable_139 rfl (z_inc _) (by decide) rfl ?_
                        refine j_goto (tgt := 73) dX11_hearTable_142 (by decide) ?_
                        refine j_widen (kc' := (2 + 2 * (k + 1))) (ks' := (11 + 31 * (k + 1))) (by omega) (by omega) ?_
                        exact j_lo2 (ih w21 _ (k + 1) (mm + 1) _ (z_bp (z_bp c 1) 2) _ (by omega) (by omega) (by rw [sp_prd he590, sp_hoS hin21] at he; exact he) R21 (by exact th21) h21 ((((hfm.tr fm18).tr (fw19.fm (q := 59) (by omega))).tr (fw20.fm (q := 59) (by omega))).tr (fm21.le (q' := 59) (by decide))) (by rw [hqp21]; exact g21_it585)) (z_q1 rfl (z_q1 rfl (z_q1 rfl (z_q1 rfl (z_q1 rfl (z_q1 rfl z_q0))))))
                      · exact absurd c_131_364 (by decide)
              refine j_widen (kc' := (2 + 2 * 0)) (ks' := (11 + 31 * 0)) (by omega) (by omega) ?_
              exact j_lo2 (loop73 ((sp_T S i555).length + 1) w15 _ 0 0 _ (z_bp (sp_C S 2) 0) _ (Nat.zero_le _) (by omega) (by exact rfl) (by rw [sp_tc0 hb30, show sp_uE (sp_uC S 2 (z_bp (sp_C S 2) 0)) i556 (sp_E S i556) = sp_uC S 2 (z_bp (sp_C S 2) 0) from sp_uE_id]; exact R14) (by exact rfl) h15 (((fm3.le (q' := 59) (by decide)).tr (fw14.fm (q := 59) (by omega))).tr fm15) git585) (z_q1 rfl (z_q1 rfl (z_q1 rfl (z_q1 rfl (z_q1 rfl (z_q1 rfl z_q0))))))
          · exact absurd c_24_54 (by decide)
        · exact absurd c_12_48 (by decide)
set_option maxRecDepth 100000 in
set_option maxHeartbeats 8000000 in
theorem cx_replaceTable (hl : l.stackTraces = false) (w : z_W) (S : sp_S) (s : z_Z) (t : Int32) (r : Int32) (n : Int32) (h : z_mst w s) (R : sp_MR S s) (ok : sp_ok S) : z_Con G l mX11_replaceTable 22 2 11 w [.ref 1000, .int t, .int r, .int n] (fun v w9 => ∃ (r9 : Int32) (s9 : z_Z), v = some (.int r9) ∧ z_fm 59 w w9 ∧ z_mst w9 s9 ∧ s9.1.1 = sp_k32 t (¬ (r = 0 ∨ r = 1 ∨ r = 4 ∨ r = 5) ∨ sp_bv n) ∧ sp_MR (if sp_k32 t (¬ (r = 0 ∨ r = 1 ∨ r = 4 ∨ r = 5) ∨ sp_bv n) = 0 then sp_ctbS S (sp_i t) r n else S) s9 ∧ (sp_k32 t (¬ (r = 0 ∨ r = 1 ∨ r = 4 ∨ r = 5) ∨ sp_bv n) = 0 → r9 = cond (sp_ctb S (sp_i t) r n).1 (nI (sp_ctb S (sp_i t) r n).2.2.length) (-9))) (fun _ _ => False) := by
  generalize hQ9 : (fun (v : Option Value) (w9 : z_W) => ∃ (r9 : Int32) (s9 : z_Z), v = some (.int r9) ∧ z_fm 59 w w9 ∧ z_mst w9 s9 ∧ s9.1.1 = sp_k32 t (¬ (r = 0 ∨ r = 1 ∨ r = 4 ∨ r = 5) ∨ sp_bv n) ∧ sp_MR (if sp_k32 t (¬ (r = 0 ∨ r = 1 ∨ r = 4 ∨ r = 5) ∨ sp_bv n) = 0 then sp_ctbS S (sp_i t) r n else S) s9 ∧ (sp_k32 t (¬ (r = 0 ∨ r = 1 ∨ r = 4 ∨ r = 5) ∨ sp_bv n) = 0 → r9 = cond (sp_ctb S (sp_i t) r n).1 (nI (sp_ctb S (sp_i t) r n).2.2.length) (-9))) = Q9
  refine z_body hl (by decide) rfl (Nat.le_of_ble_eq_true rfl) ?_
  show z_J G l mX11_replaceTable _ 0 [(0, _), (1, _), (2, _), (3, _)] [] _ 0 0
  refine j_aload_n dX11_replaceTable_0 rfl rfl ?_
  refine j_iload_n dX11_replaceTable_1 rfl ?_
  refine j_callS dX11_replaceTable_2 kX11_isNoTable lX11_136 stX11_isNoTable (cm_isNoTable_r hl w _) (Nat.le_of_ble_eq_true rfl) ⟨(by show _ ≤ 2; omega), (by show _ ≤ 11; omega)⟩ rfl (Nat.le_of_ble_eq_true rfl) rfl rfl (fun _ _ h => h.elim) ?_
  rintro _ _ ⟨⟨rfl, hno599⟩ | ⟨rfl, i599, hi599, ht599, rfl⟩, hw599⟩
  · refine j_w w hw599 ?_
    refine j_iconst (v := 1) dX11_replaceTable_5 (by decide) ?_
    refine j_callV (q := (RX11, TX11, 8)) dX11_replaceTable_6 kX11_start lX11_76 inX11_start seX11_start h.m rfl (cm_start1 hl w _ _ h (by decide)) (Nat.le_of_ble_eq_true rfl) ⟨(by show _ ≤ 2; omega), (by show _ ≤ 11; omega)⟩ rfl (Nat.le_of_ble_eq_true rfl) rfl rfl (fun _ _ h => h.elim) ?_
    rintro _ w1 ⟨rfl, fm1, h1⟩
    have R1 := R.th (k := 1)
    refine j_if_ne (tgt := 51) dX11_replaceTable_9 (by decide) (fun c_9_11 => ?_) (fun c_9_11 => ?_)
    · refine j_iconst (v := 0) dX11_replaceTable_51 (by decide) ?_
      refine j_iret dX11_replaceTable_52 rfl rfl ?_ (by show _ ≤ 2; omega) (by show _ ≤ 11; omega)
      refine cast (congrFun (congrFun hQ9 _) _) ?_
      refine ⟨_, _, rfl, (fm1.le (q' := 59) (by decide)), h1, sp_X1 (k := 1) ?_ (by decide) rfl R1⟩
      first | (first | (refine sp_k32_1 ?_ <;> (first | (with_reducible assumption) | (refine Or.inl ?_; (with_reducible assumption)) | (refine Or.inr ?_; (with_reducible assumption)) | (refine Or.inr (Or.inl ?_); (with_reducible assumption)) | (refine Or.inr (Or.inr ?_); (with_reducible assumption)) | (refine Or.inr (Or.inr (Or.inl ?_)); (with_reducible assumption)) | (refine Or.inr (Or.inr (Or.inr ?_)); (with_reducible assumption)) | (refine fun z => Or.elim z ?_ ?_ <;> (with_reducible assumption)) | (refine fun z => Or.elim z ?_ (fun z => Or.elim z ?_ ?_) <;> (with_reducible assumption)) | (refine fun z => Or.elim z ?_ (fun z => Or.elim z ?_ (fun z => Or.elim z ?_ ?_)) <;> (with_reducible assumption)) | (refine fun z => Or.elim z (fun z9 => z9 ?_) ?_ <;> (first | (with_reducible assumption) | (refine Or.inl ?_; (with_reducible assumption)) | (refine Or.inr (Or.inl ?_); (with_reducible assumption)) | (refine Or.inr (Or.inr ?_); (with_reducible assumption)) | (refine Or.inr (Or.inr (Or.inl ?_)); (with_reducible assumption)) | (refine Or.inr (Or.inr (Or.inr ?_)); (with_reducible assumption)))) | (refine Or.inl (fun z => Or.elim z ?_ (fun z => Or.elim z ?_ ?_)) <;> (with_reducible assumption)) | (refine Or.inl (fun z => Or.elim z ?_ (fun z => Or.elim z ?_ (fun z => Or.elim z ?_ ?_))) <;> (with_reducible assumption))))) | (first | (refine sp_k32_1 ?_ <;> (first | assumption | (refine Or.inl ?_; assumption) | (refine Or.inr ?_; assumption) | (refine Or.inr (Or.inl ?_); assumption) | (refine Or.inr (Or.inr ?_); assumption) | (refine Or.inr (Or.inr (Or.inl ?_)); assumption) | (refine Or.inr (Or.inr (Or.inr ?_)); assumption) | (refine fun z => Or.elim z ?_ ?_ <;> assumption) | (refine fun z => Or.elim z ?_ (fun z => Or.elim z ?_ ?_) <;> assumption) | (refine fun z => Or.elim z ?_ (fun z => Or.elim z ?_ (fun z => Or.elim z ?_ ?_)) <;> assumption) | (refine fun z => Or.elim z (fun z9 => z9 ?_) ?_ <;> (first | assumption | (refine Or.inl ?_; assumption) | (refine Or.inr (Or.inl ?_); assumption) | (refine Or.inr (Or.inr ?_); assumption) | (refine Or.inr (Or.inr (Or.inl ?_)); assumption) | (refine Or.inr (Or.inr (Or.inr ?_)); assumption))) | (refine Or.inl (fun z => Or.elim z ?_ (fun z => Or.elim z ?_ ?_)) <;> assumption) | (refine Or.inl (fun z => Or.elim z ?_ (fun z => Or.elim z ?_ (fun z => Or.elim z ?_ ?_))) <;> assumption))))
    · exact absurd c_9_11 (by decide)
  · refine j_w w hw599 ?_
    have ei599 : sp_i (nI i599) = i599 := sp_in' (by omega)
    refine j_iconst (v := 1) dX11_replaceTable_5 (by decide) ?_
    refine j_callV (q := (RX11, TX11, 8)) dX11_replaceTable_6 kX11_start lX11_76 inX11_start seX11_start h.m rfl (cm_start0 hl w _ _ h) (Nat.le_of_ble_eq_true rfl) ⟨(by show _ ≤ 2; omega), (by show _ ≤ 11; omega)⟩ rfl (Nat.le_of_ble_eq_true rfl) rfl rfl (fun _ _ h => h.elim) ?_
    rintro _ w2 ⟨rfl, fm2, h2⟩
    have R2 := R.th (k := 0)
    refine j_if_ne (tgt := 51) dX11_replaceTable_9 (by decide) (fun c_9_24 => ?_) (fun c_9_24 => ?_)
    · exact absurd c_9_24 (by decide)
    · refine j_aload_n dX11_replaceTable_12 rfl rfl ?_
      refine j_iload_n dX11_replaceTable_13 rfl ?_
      refine j_if_eq (tgt := 32) dX11_replaceTable_14 (by decide) (fun c_14_28 => ?_) (fun c_14_28 => ?_)
      · refine j_iload_n dX11_replaceTable_32 rfl ?_
        refine j_callS dX11_replaceTable_33 kX11_isNoValue lX11_79 stX11_isNoValue (cm_isNoValue_r hl w2 _) (Nat.le_of_ble_eq_true rfl) ⟨(by show _ ≤ 2; omega), (by show _ ≤ 11; omega)⟩ rfl (Nat.le_of_ble_eq_true rfl) rfl rfl (fun _ _ h => h.elim) ?_
        rintro _ _ ⟨⟨rfl, hno600⟩ | ⟨rfl, hye600⟩, hw600⟩
        · refine j_w w2 hw600 ?_
          refine j_if_eq (tgt := 43) dX11_replaceTable_36 (by decide) (fun c_36_33 => ?_) (fun c_36_33 => ?_)
          · exact absurd c_36_33 (by decide)
          · refine j_iconst (v := 1) dX11_replaceTable_39 (by decide) ?_
            refine j_goto (tgt := 44) dX11_replaceTable_40 (by decide) ?_
            refine j_iconst (v := 2) dX11_replaceTable_44 (by decide) ?_
            refine j_callV (q := (RX11, TX11, 8)) dX11_replaceTable_45 kX11_refuse lX11_52 inX11_refuse seX11_refuse h2.m rfl (cm_refuse1 hl w2 _ _ h2 rfl (by decide)) (Nat.le_of_ble_eq_true rfl) ⟨(by show _ ≤ 2; omega), (by show _ ≤ 11; omega)⟩ rfl (Nat.le_of_ble_eq_true rfl) rfl rfl (fun _ _ h => h.elim) ?_
            rintro _ w3 ⟨rfl, fm3, h3⟩
            have R3 := R2.th (k := 2)
            refine j_if_eq (tgt := 53) dX11_replaceTable_48 (by decide) (fun c_48_41 => ?_) (fun c_48_41 => ?_)
            · exact absurd c_48_41 (by decide)
            · refine j_iconst (v := 0) dX11_replaceTable_51 (by decide) ?_
              refine j_iret dX11_replaceTable_52 rfl rfl ?_ (by show _ ≤ 2; omega) (by show _ ≤ 11; omega)
              refine cast (congrFun (congrFun hQ9 _) _) ?_
              try rw [ei599]
              refine ⟨_, _, rfl, ((fm2.le (q' := 59) (by decide)).tr (fm3.le (q' := 59) (by decide))), h3, sp_X1 (k := 2) ?_ (by decide) rfl R3⟩
              first | (first | (refine sp_k32_2 ?_ ?_ <;> (first | (with_reducible assumption) | (refine Or.inl ?_; (with_reducible assumption)) | (refine Or.inr ?_; (with_reducible assumption)) | (refine Or.inr (Or.inl ?_); (with_reducible assumption)) | (refine Or.inr (Or.inr ?_); (with_reducible assumption)) | (refine Or.inr (Or.inr (Or.inl ?_)); (with_reducible assumption)) | (refine Or.inr (Or.inr (Or.inr ?_)); (with_reducible assumption)) | (refine fun z => Or.elim z ?_ ?_ <;> (with_reducible assumption)) | (refine fun z => Or.elim z ?_ (fun z => Or.elim z ?_ ?_) <;> (with_reducible assumption)) | (refine fun z => Or.elim z ?_ (fun z => Or.elim z ?_ (fun z => Or.elim z ?_ ?_)) <;> (with_reducible assumption)) | (refine fun z => Or.elim z (fun z9 => z9 ?_) ?_ <;> (first | (with_reducible assumption) | (refine Or.inl ?_; (with_reducible assumption)) | (refine Or.inr (Or.inl ?_); (with_reducible assumption)) | (refine Or.inr (Or.inr ?_); (with_reducible assumption)) | (refine Or.inr (Or.inr (Or.inl ?_)); (with_reducible assumption)) | (refine Or.inr (Or.inr (Or.inr ?_)); (with_reducible assumption)))) | (refine Or.inl (fun z => Or.elim z ?_ (fun z => Or.elim z ?_ ?_)) <;> (with_reducible assumption)) | (refine Or.inl (fun z => Or.elim z ?_ (fun z => Or.elim z ?_ (fun z => Or.elim z ?_ ?_))) <;> (with_reducible assumption))))) | (first | (refine sp_k32_2 ?_ ?_ <;> (first | assumption | (refine Or.inl ?_; assumption) | (refine Or.inr ?_; assumption) | (refine Or.inr (Or.inl ?_); assumption) | (refine Or.inr (Or.inr ?_); assumption) | (refine Or.inr (Or.inr (Or.inl ?_)); assumption) | (refine Or.inr (Or.inr (Or.inr ?_)); assumption) | (refine fun z => Or.elim z ?_ ?_ <;> assumption) | (refine fun z => Or.elim z ?_ (fun z => Or.elim z ?_ ?_) <;> assumption) | (refine fun z => Or.elim z ?_ (fun z => Or.elim z ?_ (fun z => Or.elim z ?_ ?_)) <;> assumption) | (refine fun z => Or.elim z (fun z9 => z9 ?_) ?_ <;> (first | assumption | (refine Or.inl ?_; assumption) | (refine Or.inr (Or.inl ?_); assumption) | (refine Or.inr (Or.inr ?_); assumption) | (refine Or.inr (Or.inr (Or.inl ?_)); assumption) | (refine Or.inr (Or.inr (Or.inr ?_)); assumption))) | (refine Or.inl (fun z => Or.elim z ?_ (fun z => Or.elim z ?_ ?_)) <;> assumption) | (refine Or.inl (fun z => Or.elim z ?_ (fun z => Or.elim z ?_ (fun z => Or.elim z ?_ ?_))) <;> assumption))))
        · refine j_w w2 hw600 ?_
          refine j_if_eq (tgt := 43) dX11_replaceTable_36 (by decide) (fun c_36_50 => ?_) (fun c_36_50 => ?_)
          · refine j_iconst (v := 0) dX11_replaceTable_43 (by decide) ?_
            refine j_iconst (v := 2) dX11_replaceTable_44 (by decide) ?_
            refine j_callV (q := (RX11, TX11, 8)) dX11_replaceTable_45 kX11_refuse lX11_52 inX11_refuse seX11_refuse h2.m rfl (cm_refuse0 hl w2 _ _ h2 rfl) (Nat.le_of_ble_eq_true rfl) ⟨(by show _ ≤ 2; omega), (by show _ ≤ 11; omega)⟩ rfl (Nat.le_of_ble_eq_true rfl) rfl rfl (fun _ _ h => h.elim) ?_
            rintro _ _ ⟨rfl, hw601⟩
            refine j_w w2 hw601 ?_
            refine j_if_eq (tgt := 53) dX11_replaceTable_48 (by decide) (fun c_48_56 => ?_) (fun c_48_56 => ?_)
            · refine j_iload_n dX11_replaceTable_53 rfl ?_
              refine j_if_ne (tgt := 66) dX11_replaceTable_54 (by decide) (fun c_54_58 => ?_) (fun c_54_58 => ?_)
              · have hb54 : ¬ i599 = 0 := fun z => c_54_58 (show nI i599 = nI 0 by rw [z])
                refine j_bipush (v := 7) dX11_replaceTable_66 (by decide) ?_
                obtain ⟨x1, hx1a, hx1b, hx1c⟩ := z_fresh (57) (by decide) h2.fn
                refine j_newa (kd := 0) (N := 7) (w' := _) (n := x1) dX11_replaceTable_68 rfl rfl arc_int ⟨rfl, fun _ _ h => h⟩ (by decide) rfl (by decide) rfl (z_alW hx1c hx1a) (Nat.le_of_ble_eq_true rfl) (Nat.le_of_ble_eq_true rfl) ?_
                refine j_seal hx1a ?_
                intro w4 u4
                have fw4 := u4.fw hx1a hx1b
                have g4_x1 := u4.1
                have h4 := h2.gar fw4 (by omega)
                refine j_astore (lo' := [(4, _), (0, _), (1, _), (2, _), (3, _)]) dX11_replaceTable_70 rfl (by decide) rfl ?_
                refine j_aload dX11_replaceTable_72 rfl rfl ?_
                refine j_iconst (v := 0) dX11_replaceTable_74 (by decide) ?_
                refine j_dup2 dX11_replaceTable_75 rfl rfl ?_
                refine j_ld dX11_replaceTable_76 g4_x1 (vp_in_nI (n := 0) (by decide) (by decide)) ?_
                refine j_iconst (v := 1) dX11_replaceTable_77 (by decide) ?_
                refine j_iadd dX11_replaceTable_78 ?_
                refine j_sto (w' := _) dX11_replaceTable_79 g4_x1 (vp_in_nI (n := 0) (by decide) (by decide)) rfl ?_
                refine j_seal hx1a ?_
                intro w5 u5
                have fw5 := u5.fw hx1a hx1b
                have g5_x1 := u5.1
                have h5 := h4.gar fw5 (by omega)
                refine j_aload_n dX11_replaceTable_80 rfl rfl ?_
                refine j_getf dX11_replaceTable_81 fX11_34 h5.m rfl ?_
                refine j_iload_n dX11_replaceTable_84 rfl ?_
                obtain ⟨lv606, -, lg606⟩ := z_li.cell h5.tabs
                refine j_callV (q := (RJx4a65c, TJx4a65c, 3)) dX11_replaceTable_85 kJx4a65c_get_915e3 lX11_82 inJx4a65c_get_915e3 seJx4a65c_get_915e3 lg606 rfl (cl_get hl w5 47 1007 _ _ (i599) _ h5.tabs (z_thr3 (t := i599) (by omega))) (Nat.le_of_ble_eq_true rfl) ⟨(by show _ ≤ 2; omega), (by show _ ≤ 11; omega)⟩ rfl (Nat.le_of_ble_eq_true rfl) rfl rfl (fun _ _ h => h.elim) ?_
                rintro _ _ ⟨rfl, hw607⟩
                refine j_w w5 hw607 ?_
                refine j_castS dX11_replaceTable_88 (z_w 1341 ((lwt_6_3 6).trans rfl) (by decide +kernel)) (z_li.is (h5.tb (t := i599) (by omega))) ?_
                obtain ⟨lv610, -, lg610⟩ := z_li.cell (h5.tb (t := i599) (by omega))
                refine j_callV (q := (RJx4a65c, TJx4a65c, 3)) dX11_replaceTable_91 kJx4a65c_iterator_32c93 lX11_162 inJx4a65c_iterator_32c93 seJx4a65c_iterator_32c93 lg610 rfl (cl_iter hl w5 58 (51 + i599) _ _ _ (h5.tb (t := i599) (by omega)) (by decide) (by omega) h5.fn) (Nat.le_of_ble_eq_true rfl) ⟨(by show _ ≤ 2; omega), (by show _ ≤ 11; omega)⟩ rfl (Nat.le_of_ble_eq_true rfl) rfl rfl (fun _ _ h => h.elim) ?_
                rintro _ w6 ⟨it609, rfl, fw6, hita609, hitb609, hitc609, la609, git609⟩
                have hita609 : 1000 ≤ it609 := hita609
                have hitb609 : it609 % 64 = 58 := hitb609
                have n_x1_it609 := z_neF hitc609 g5_x1
                have g6_x1 := fw6.g (Or.inr (by omega)) g5_x1
                have fm6 := fw6.fm (q := 59) (by omega)
                have h6 := h5.gar fw6 (by omega)
                refine j_astore (lo' := [(5, _), (4, _), (0, _), (1, _), (2, _), (3, _)]) dX11_replaceTable_94 rfl (by decide) rfl ?_
                have loop96 : ∀ (n9 : Nat) (w7 : z_W) (s1 : z_Z) (A L : List (Nat × Int32)) (la : Int32) (c : Nat → Int32) (F : Nat → Int32), (L.length < n9) → (A.length ≤ (A ++ L).length) → (sp_rt r n c A L = sp_ctb S i599 r n) → (∀ p ∈ L, z_vl p.2) → (sp_MR (sp_tc (sp_uT S i599 (A ++ L)) i599 c) s1) → (s1.1.1 = 0) → (z_mst w7 s1) → (z_fm 59 w w7) → (z_g w7 it609 = some (.inr (3, [.int (nI A.length), .int la, .int (z_qp s1 i599).1, .ref (1011 + i599)]))) → (z_g w7 x1 = some (.inl (0, 7, fun j => .int (F j)))) → z_J G l mX11_replaceTable (22, 2, 11, w, Q9, (fun _ _ => False)) 96 [(0, .ref 1000), (1, .int (nI i599)), (2, .int r), (3, .int n), (4, .ref x1), (5, .ref it609)] [] w7 2 11 := by
                  intro n9
                  induction n9 with
                  | zero => intro w7 s1 A L la c F hf9 hAl he hv hR hth hm hfm git gx; exact absurd hf9 (Nat.not_lt_zero _)
                  | succ n9 ih =>
                    intro w7 s1 A L la c F hf9 hAl he hv hR hth hm hfm git gx
                    refine j_aload dX11_replaceTable_96 rfl rfl ?_
                    refine j_callF (x := ⟨"java/util/Iterator", "hasNext", "()Z"⟩) (q := (RJx35411, TJx35411, 4)) dX11_replaceTable_98 kJx35411_hasNext_aae02 ⟨(z_w 1765 ((lwt_8_1 10).trans rfl) (by decide +kernel)), (z_w 1769 ((lwt_8_1 14).trans rfl) (by decide +kernel)), inJx35411_hasNext_aae02, ⟨by decide, by decide⟩, rfl, fun U h => h.2.1⟩ git rfl (cl_hasN hl w7 _ (51 + i599) _ (A.length) _ _ (hm.tb (t := i599) (by omega)) ⟨_, git⟩ (by rw [z_rs_len, hR.tlB (by omega) ((congrFun sp_tcT _).trans z_fu_self)]; omega)) (Nat.le_of_ble_eq_true rfl) ⟨(by show _ ≤ 2; omega), (by show _ ≤ 11; omega)⟩ rfl (Nat.le_of_ble_eq_true rfl) rfl ?_
                    rintro _ _ ⟨⟨x611, rfl, hz611, hp611⟩, hw611⟩
                    refine j_w w7 hw611 ?_
                    rw [z_rs_len, hR.tlB (by omega) ((congrFun sp_tcT _).trans z_fu_self)] at hz611 hp611
                    refine j_if_eq (tgt := 178) dX11_replaceTable_103 (by decide) (fun c_103_110 => ?_) (fun c_103_110 => ?_)
                    · have hk103 : A.length = (A ++ L).length := hz611 c_103_110
                      obtain rfl : L = [] := List.eq_nil_of_length_eq_zero (by rw [List.length_append] at hk103; omega)
                      refine j_aload dX11_replaceTable_178 rfl rfl ?_
                      refine j_iconst (v := 1) dX11_replaceTable_180 (by decide) ?_
                      refine j_dup2 dX11_replaceTable_181 rfl rfl ?_
                      refine j_ld dX11_replaceTable_182 gx (vp_in_nI (n := 1) (by decide) (by decide)) ?_
                      refine j_iconst (v := 1) dX11_replaceTable_183 (by decide) ?_
                      refine j_iadd dX11_replaceTable_184 ?_
                      refine j_sto (w' := _) dX11_replaceTable_185 gx (vp_in_nI (n := 1) (by decide) (by decide)) rfl ?_
                      refine j_seal hx1a ?_
                      intro w8 u8
                      have fw8 := u8.fw hx1a hx1b
                      have g8_it609 := (u8.2.1 it609 (Ne.symm n_x1_it609)).trans git
                      have g8_x1 := u8.1
                      have h8 := hm.gar fw8 (by omega)
                      refine j_aload_n dX11_replaceTable_186 rfl rfl ?_
                      refine j_getf dX11_replaceTable_187 fX11_34 h8.m rfl ?_
                      refine j_iload_n dX11_replaceTable_190 rfl ?_
                      obtain ⟨lv615, -, lg615⟩ := z_li.cell h8.tabs
                      refine j_callV (q := (RJx4a65c, TJx4a65c, 3)) dX11_replaceTable_191 kJx4a65c_get_915e3 lX11_82 inJx4a65c_get_915e3 seJx4a65c_get_915e3 lg615 rfl (cl_get hl w8 47 1007 _ _ (i599) _ h8.tabs (z_thr3 (t := i599) (by omega))) (Nat.le_of_ble_eq_true rfl) ⟨(by show _ ≤ 2; omega), (by show _ ≤ 11; omega)⟩ rfl (Nat.le_of_ble_eq_true rfl) rfl rfl (fun _ _ h => h.elim) ?_
                      rintro _ _ ⟨rfl, hw616⟩
                      refine j_w w8 hw616 ?_
                      refine j_castS dX11_replaceTable_194 (z_w 1341 ((lwt_6_3 6).trans rfl) (by decide +kernel)) (z_li.is (h8.tb (t := i599) (by omega))) ?_
                      obtain ⟨lv618, -, lg618⟩ := z_li.cell (h8.tb (t := i599) (by omega))
                      refine j_callV (q := (RJx4a65c, TJx4a65c, 3)) dX11_replaceTable_197 kJx4a65c_size_8abf5 lX11_86 inJx4a65c_size_8abf5 seJx4a65c_size_8abf5 lg618 rfl (cl_sizeT hl w8 (i599) ((A ++ [])) h8 hR (by omega) ((congrFun sp_tcT _).trans z_fu_self)) (Nat.le_of_ble_eq_true rfl) ⟨(by show _ ≤ 2; omega), (by show _ ≤ 11; omega)⟩ rfl (Nat.le_of_ble_eq_true rfl) rfl rfl (fun _ _ h => h.elim) ?_
                      rintro _ _ ⟨rfl, hw619⟩
                      refine j_w w8 hw619 ?_
                      have hz619 : ((A ++ [])).length ≤ 20 := hR.l20 h8 (t := i599) (by omega) ((congrFun sp_tcT _).trans z_fu_self)
                      refine j_iret dX11_replaceTable_200 rfl rfl ?_ (by show _ ≤ 2; omega) (by show _ ≤ 11; omega)
                      refine cast (congrFun (congrFun hQ9 _) _) ?_
                      rw [List.append_nil] at hR
                      try rw [ei599]
                      refine ⟨_, _, rfl, (hfm.tr (fw8.fm (q := 59) (by omega))), h8, sp_X0 ?_ hth (by unfold sp_ctbS; rw [← he]; have e := hR; rw [sp_tcn hb54] at e; show sp_MR (sp_tc (sp_uT S _ _) _ _) _; rw [sp_tcn hb54]; exact e) (by rw [← he, List.append_nil]; rfl)⟩
                      first | (first | (refine sp_k32_0 ?_ ?_ <;> (first | (with_reducible assumption) | (refine Or.inl ?_; (with_reducible assumption)) | (refine Or.inr ?_; (with_reducible assumption)) | (refine Or.inr (Or.inl ?_); (with_reducible assumption)) | (refine Or.inr (Or.inr ?_); (with_reducible assumption)) | (refine Or.inr (Or.inr (Or.inl ?_)); (with_reducible assumption)) | (refine Or.inr (Or.inr (Or.inr ?_)); (with_reducible assumption)) | (refine fun z => Or.elim z ?_ ?_ <;> (with_reducible assumption)) | (refine fun z => Or.elim z ?_ (fun z => Or.elim z ?_ ?_) <;> (with_reducible assumption)) | (refine fun z => Or.elim z ?_ (fun z => Or.elim z ?_ (fun z => Or.elim z ?_ ?_)) <;> (with_reducible assumption)) | (refine fun z => Or.elim z (fun z9 => z9 ?_) ?_ <;> (first | (with_reducible assumption) | (refine Or.inl ?_; (with_reducible assumption)) | (refine Or.inr (Or.inl ?_); (with_reducible assumption)) | (refine Or.inr (Or.inr ?_); (with_reducible assumption)) | (refine Or.inr (Or.inr (Or.inl ?_)); (with_reducible assumption)) | (refine Or.inr (Or.inr (Or.inr ?_)); (with_reducible assumption)))) | (refine Or.inl (fun z => Or.elim z ?_ (fun z => Or.elim z ?_ ?_)) <;> (with_reducible assumption)) | (refine Or.inl (fun z => Or.elim z ?_ (fun z => Or.elim z ?_ (fun z => Or.elim z ?_ ?_))) <;> (with_reducible assumption))))) | (first | (refine sp_k32_0 ?_ ?_ <;> (first | assumption | (refine Or.inl ?_; assumption) | (refine Or.inr ?_; assumption) | (refine Or.inr (Or.inl ?_); assumption) | (refine Or.inr (Or.inr ?_); assumption) | (refine Or.inr (Or.inr (Or.inl ?_)); assumption) | (refine Or.inr (Or.inr (Or.inr ?_)); assumption) | (refine fun z => Or.elim z ?_ ?_ <;> assumption) | (refine fun z => Or.elim z ?_ (fun z => Or.elim z ?_ ?_) <;> assumption) | (refine fun z => Or.elim z ?_ (fun z => Or.elim z ?_ (fun z => Or.elim z ?_ ?_)) <;> assumption) | (refine fun z => Or.elim z (fun z9 => z9 ?_) ?_ <;> (first | assumption | (refine Or.inl ?_; assumption) | (refine Or.inr (Or.inl ?_); assumption) | (refine Or.inr (Or.inr ?_); assumption) | (refine Or.inr (Or.inr (Or.inl ?_)); assumption) | (refine Or.inr (Or.inr (Or.inr ?_)); assumption))) | (refine Or.inl (fun z => Or.elim z ?_ (fun z => Or.elim z ?_ ?_)) <;> assumption) | (refine Or.inl (fun z => Or.elim z ?_ (fun z => Or.elim z ?_ (fun z => Or.elim z ?_ ?_))) <;> assumption))))
                    · have hk103 : A.length < (A ++ L).length := hp611 c_103_110
                      obtain ⟨x, L2, rfl⟩ : ∃ x L2, L = x :: L2 := by
                        cases L with
                        | nil => rw [List.append_nil] at hk103; exact absurd hk103 (Nat.lt_irrefl _)
                        | cons x L2 => exact ⟨x, L2, rfl⟩
                      refine j_aload dX11_replaceTable_106 rfl rfl ?_
                      obtain ⟨p620, hp620, hq620, hk620, hv0620, hv1620, hv2620⟩ := hR.prB hm (t := i599) (k := A.length) (by omega) ((congrFun sp_tcT _).trans z_fu_self) sp_mid?
                      refine j_callF (x := ⟨"java/util/Iterator", "next", "()Ljava/lang/Object;"⟩) (q := (RJx35411, TJx35411, 4)) dX11_replaceTable_108 kJx35411_next_0502b ⟨(z_w 1775 ((lwt_8_1 20).trans rfl) (by decide +kernel)), (z_w 1778 ((lwt_8_1 23).trans rfl) (by decide +kernel)), inJx35411_next_0502b, ⟨by decide, by decide⟩, rfl, fun U h => h.2.2.1⟩ git rfl (cl_next hl w7 58 it609 (51 + i599) _ (A.length) _ _ _ (hm.tb (t := i599) (by omega)) ⟨_, git⟩ hq620 hita609 hitb609 (by omega)) (Nat.le_of_ble_eq_true rfl) ⟨(by show _ ≤ 2; omega), (by show _ ≤ 11; omega)⟩ rfl (Nat.le_of_ble_eq_true rfl) rfl ?_
                      rintro _ w9 ⟨rfl, fw9, la9, git9⟩
                      have g9_x1 := fw9.g (Or.inr (by omega)) gx
                      have fm9 := fw9.fm (q := 59) (by omega)
                      have h9 := hm.gar fw9 (by omega)
                      refine j_castS dX11_replaceTable_113 (z_w 1663 ((lwt_7_5 28).trans rfl) (by decide +kernel)) (z_isA ((h9.pr (t := i599) (by omega)).1 p620 hp620).2) ?_
                      refine j_astore (lo' := [(6, _), (0, _), (1, _), (2, _), (3, _), (4, _), (5, _)]) dX11_replaceTable_116 rfl (by decide) rfl ?_
                      refine j_aload dX11_replaceTable_118 rfl rfl ?_
                      refine j_iconst (v := 1) dX11_replaceTable_120 (by decide) ?_
                      refine j_dup2 dX11_replaceTable_121 rfl rfl ?_
                      refine j_ld dX11_replaceTable_122 g9_x1 (vp_in_nI (n := 1) (by decide) (by decide)) ?_
                      refine j_iconst (v := 1) dX11_replaceTable_123 (by decide) ?_
                      refine j_iadd dX11_replaceTable_124 ?_
                      refine j_sto (w' := _) dX11_replaceTable_125 g9_x1 (vp_in_nI (n := 1) (by decide) (by decide)) rfl ?_
                      refine j_seal hx1a ?_
                      intro w10 u10
                      have fw10 := u10.fw hx1a hx1b
                      have g10_it609 := (u10.2.1 it609 (Ne.symm n_x1_it609)).trans git9
                      have g10_x1 := u10.1
                      have h10 := h9.gar fw10 (by omega)
                      refine j_aload dX11_replaceTable_126 rfl rfl ?_
                      refine j_iconst (v := 2) dX11_replaceTable_128 (by decide) ?_
                      refine j_dup2 dX11_replaceTable_129 rfl rfl ?_
                      refine j_ld dX11_replaceTable_130 g10_x1 (vp_in_nI (n := 2) (by decide) (by decide)) ?_
                      refine j_iconst (v := 1) dX11_replaceTable_131 (by decide) ?_
                      refine j_iadd dX11_replaceTable_132 ?_
                      refine j_sto (w' := _) dX11_replaceTable_133 g10_x1 (vp_in_nI (n := 2) (by decide) (by decide)) rfl ?_
                      refine j_seal hx1a ?_
                      intro w11 u11
                      have fw11 := u11.fw hx1a hx1b
                      have g11_it609 := (u11.2.1 it609 (Ne.symm n_x1_it609)).trans g10_it609
                      have g11_x1 := u11.1
                      have h11 := h10.gar fw11 (by omega)
                      refine j_iload_n dX11_replaceTable_134 rfl ?_
                      refine j_aload dX11_replaceTable_135 rfl rfl ?_
                      refine j_iconst (v := 0) dX11_replaceTable_137 (by decide) ?_
                      refine j_ld dX11_replaceTable_138 ((h11.pr (t := i599) (by omega)).1 p620 hp620).2 (vp_in_nI (n := 0) (by decide) (by decide)) ?_
                      refine j_top (congrArg Value.int (show _ = nI x.1 from by rw [show (0 : Int32).toNatClampNeg = 0 from by decide]; exact hv0620)) ?_
                      refine j_aload dX11_replaceTable_139 rfl rfl ?_
                      refine j_iconst (v := 1) dX11_replaceTable_141 (by decide) ?_
                      refine j_ld dX11_replaceTable_142 ((h11.pr (t := i599) (by omega)).1 p620 hp620).2 (vp_in_nI (n := 1) (by decide) (by decide)) ?_
                      refine j_top (congrArg Value.int (show _ = x.2 from by rw [show (1 : Int32).toNatClampNeg = 1 from by decide]; exact hv1620)) ?_
                      refine j_iload_n dX11_replaceTable_143 rfl ?_
                      refine j_callS dX11_replaceTable_144 kX11_rule lX11_115 stX11_rule (cm_rule_r hl w11 _ _ _ _ (hv _ List.mem_cons_self).2 (sp_vl (by assumption)).2) (Nat.le_of_ble_eq_true rfl) ⟨(by show _ ≤ 2; omega), (by show _ ≤ 11; omega)⟩ rfl (Nat.le_of_ble_eq_true rfl) rfl rfl (fun _ _ h => h.elim) ?_
                      rintro _ _ ⟨⟨rfl, hq628⟩ | ⟨y628, rfl, hq628, hne628⟩, hw628⟩
                      · refine j_w w11 hw628 ?_
                        refine j_istore (lo' := [(7, _), (6, _), (0, _), (1, _), (2, _), (3, _), (4, _), (5, _)]) dX11_replaceTable_147 (by decide) rfl ?_
                        refine j_iload dX11_replaceTable_149 rfl ?_
                        refine j_ldc dX11_replaceTable_151 kcX11_67 ?_
                        refine j_icmp_ne (tgt := 161) dX11_replaceTable_153 (by decide) (fun c_153_201 => ?_) (fun c_153_201 => ?_)
                        · exact absurd c_153_201 (by decide)
                        · refine j_aload_n dX11_replaceTable_156 rfl rfl ?_
                          refine j_callV (q := (RX11, TX11, 8)) dX11_replaceTable_157 kX11_nine lX11_105 inX11_nine seX11_nine h11.m rfl (cm_nine hl w11 _ h11) (Nat.le_of_ble_eq_true rfl) ⟨(by show _ ≤ 2; omega), (by show _ ≤ 11; omega)⟩ rfl (Nat.le_of_ble_eq_true rfl) rfl rfl (fun _ _ h => h.elim) ?_
                          rintro _ w12 ⟨rfl, fm12, h12⟩
                          have g12_it609 := fm12.g hita609 (by rw [hitb609]; decide) g11_it609
                          have g12_x1 := fm12.g hx1a (by rw [hx1b]; decide) g11_x1
                          have R12 := hR.ni
                          refine j_iret dX11_replaceTable_160 rfl rfl ?_ (by show _ ≤ 2; omega) (by show _ ≤ 11; omega)
                          refine cast (congrFun (congrFun hQ9 _) _) ?_
                          rw [sp_rtN hq628] at he
                          try rw [ei599]
                          refine ⟨_, _, rfl, ((((hfm.tr fm9).tr (fw10.fm (q := 59) (by omega))).tr (fw11.fm (q := 59) (by omega))).tr (fm12.le (q' := 59) (by decide))), h12, sp_X0 ?_ hth (by unfold sp_ctbS; rw [← he]; have e := R12; rw [sp_tcn hb54] at e; show sp_MR (sp_nine (sp_tc (sp_uT S _ _) _ _)) _; rw [sp_tcn hb54]; exact e) (by rw [← he]; rfl)⟩
                          first | (first | (refine sp_k32_0 ?_ ?_ <;> (first | (with_reducible assumption) | (refine Or.inl ?_; (with_reducible assumption)) | (refine Or.inr ?_; (with_reducible assumption)) | (refine Or.inr (Or.inl ?_); (with_reducible assumption)) | (refine Or.inr (Or.inr ?_); (with_reducible assumption)) | (refine Or.inr (Or.inr (Or.inl ?_)); (with_reducible assumption)) | (refine Or.inr (Or.inr (Or.inr ?_)); (with_reducible assumption)) | (refine fun z => Or.elim z ?_ ?_ <;> (with_reducible assumption)) | (refine fun z => Or.elim z ?_ (fun z => Or.elim z ?_ ?_) <;> (with_reducible assumption)) | (refine fun z => Or.elim z ?_ (fun z => Or.elim z ?_ (fun z => Or.elim z ?_ ?_)) <;> (with_reducible assumption)) | (refine fun z => Or.elim z (fun z9 => z9 ?_) ?_ <;> (first | (with_reducible assumption) | (refine Or.inl ?_; (with_reducible assumption)) | (refine Or.inr (Or.inl ?_); (with_reducible assumption)) | (refine Or.inr (Or.inr ?_); (with_reducible assumption)) | (refine Or.inr (Or.inr (Or.inl ?_)); (with_reducible assumption)) | (refine Or.inr (Or.inr (Or.inr ?_)); (with_reducible assumption)))) | (refine Or.inl (fun z => Or.elim z ?_ (fun z => Or.elim z ?_ ?_)) <;> (with_reducible assumption)) | (refine Or.inl (fun z => Or.elim z ?_ (fun z => Or.elim z ?_ (fun z => Or.elim z ?_ ?_))) <;> (with_reducible assumption))))) | (first | (refine sp_k32_0 ?_ ?_ <;> (first | assumption | (refine Or.inl ?_; assumption) | (refine Or.inr ?_; assumption) | (refine Or.inr (Or.inl ?_); assumption) | (refine Or.inr (Or.inr ?_); assumption) | (refine Or.inr (Or.inr (Or.inl ?_)); assumption) | (refine Or.inr (Or.inr (Or.inr ?_)); assumption) | (refine fun z => Or.elim z ?_ ?_ <;> assumption) | (refine fun z => Or.elim z ?_ (fun z => Or.elim z ?_ ?_) <;> assumption) | (refine fun z => Or.elim z ?_ (fun z => Or.elim z ?_ (fun z => Or.elim z ?_ ?_)) <;> assumption) | (refine fun z => Or.elim z (fun z9 => z9 ?_) ?_ <;> (first | assumption | (refine Or.inl ?_; assumption) | (refine Or.inr (Or.inl ?_); assumption) | (refine Or.inr (Or.inr ?_); assumption) | (refine Or.inr (Or.inr (Or.inl ?_)); assumption) | (refine Or.inr (Or.inr (Or.inr ?_)); assumption))) | (refine Or.inl (fun z => Or.elim z ?_ (fun z => Or.elim z ?_ ?_)) <;> assumption) | (refine Or.inl (fun z => Or.elim z ?_ (fun z => Or.elim z ?_ (fun z => Or.elim z ?_ ?_))) <;> assumption))))
                      · refine j_w w11 hw628 ?_
                        refine j_istore (lo' := [(7, _), (6, _), (0, _), (1, _), (2, _), (3, _), (4, _), (5, _)]) dX11_replaceTable_147 (by decide) rfl ?_
                        refine j_iload dX11_replaceTable_149 rfl ?_
                        refine j_ldc dX11_replaceTable_151 kcX11_67 ?_
                        refine j_icmp_ne (tgt := 161) dX11_replaceTable_153 (by decide) (fun c_153_219 => ?_) (fun c_153_219 => ?_)
                        · refine j_aload dX11_replaceTable_161 rfl rfl ?_
                          refine j_iconst (v := 1) dX11_replaceTable_163 (by decide) ?_
                          refine j_iload dX11_replaceTable_164 rfl ?_
                          refine j_sto (w' := _) dX11_replaceTable_166 ((h11.pr (t := i599) (by omega)).1 p620 hp620).2 (vp_in_nI (n := 1) (by decide) (by decide)) rfl ?_
                          have hnd : (sp_ks (A ++ x :: L2)).Nodup := hR.kd h11 (t := i599) (by omega) ((congrFun sp_tcT _).trans z_fu_self)
                          refine j_seal (((h11.pr (t := i599) (by omega)).1 p620 hp620).1.1) ?_
                          intro w13 u13
                          have hpp13 := ((h11.pr (t := i599) (by omega)).1 p620 hp620).1
                          have hpq13 := hpp13.2.1
                          have g13_it609 := (u13.2.1 it609 (by omega)).trans g11_it609
                          have g13_x1 := (u13.2.1 x1 (by omega)).trans g11_x1
                          have fw13 := u13.fw (ρ := 14 + i599) hpp13.1 hpp13.2.1
                          have h13 := h11.up14 (t0 := i599) (by omega) hp620 u13 (z_ui_ne (by decide))
                          have R13 := hR.uk (t0 := i599) (F := z_ui (z_qk _ p620) ((1 : Int32).toNatClampNeg) y628) (v := y628) h11 (by omega) hp620 (z_ui_ne (by decide)) (by rw [show (1 : Int32).toNatClampNeg = 1 from by decide]; exact z_ui_self)
                          rw [hv0620, z_cla (by omega)] at R13
                          rw [show sp_T (sp_tc (sp_uT S i599 (A ++ x :: L2)) i599 _) i599 = A ++ x :: L2 from (congrFun sp_tcT _).trans z_fu_self, sp_st_mid hnd, sp_tcu, sp_uTT] at R13
                          refine j_aload dX11_replaceTable_167 rfl rfl ?_
                          refine j_iconst (v := 3) dX11_replaceTable_169 (by decide) ?_
                          refine j_dup2 dX11_replaceTable_170 rfl rfl ?_
                          refine j_ld dX11_replaceTable_171 g13_x1 (vp_in_nI (n := 3) (by decide) (by decide)) ?_
                          refine j_iconst (v := 1) dX11_replaceTable_172 (by decide) ?_
                          refine j_iadd dX11_replaceTable_173 ?_
                          refine j_sto (w' := _) dX11_replaceTable_174 g13_x1 (vp_in_nI (n := 3) (by decide) (by decide)) rfl ?_
                          refine j_seal hx1a ?_
                          intro w14 u14
                          have fw14 := u14.fw hx1a hx1b
                          have g14_it609 := (u14.2.1 it609 (Ne.symm n_x1_it609)).trans g13_it609
                          have g14_x1 := u14.1
                          have h14 := h13.gar fw14 (by omega)
                          refine j_goto (tgt := 96) dX11_replaceTable_175 (by decide) ?_
                          refine j_widen (kc' := 2) (ks' := 11) (by omega) (by omega) ?_
                          exact j_lo2 (ih w14 _ (A ++ [(x.1, y628)]) L2 _ (z_bp (z_bp (z_bp c 1) 2) 3) _ (by rw [List.length_cons] at hf9; omega) sp_apl (by rw [sp_rtS hq628] at he; exact he) (fun p hp => hv p (List.mem_cons_of_mem _ hp)) (by rw [← sp_mid]; exact (sp_MR.bpXu hb54 R13)) (by exact hth) h14 (((((hfm.tr fm9).tr (fw10.fm (q := 59) (by omega))).tr (fw11.fm (q := 59) (by omega))).tr (fw13.fm (q := 59) (by omega))).tr (fw14.fm (q := 59) (by omega))) (by rw [List.length_append]; exact g14_it609) g14_x1) (z_q1 rfl (z_q1 rfl (z_q1 rfl (z_q1 rfl (z_q1 rfl (z_q1 rfl z_q0))))))
                        · exact absurd c_153_219 hne628
                refine j_widen (kc' := 2) (ks' := 11) (by omega) (by omega) ?_
                exact j_lo2 (loop96 ((sp_T S i599).length + 1) w6 _ [] (sp_T S i599) _ (z_bp (sp_C S 2) 0) _ (Nat.lt_succ_self _) sp_apl (by exact rfl) (fun p hp => ((ok.2.1 i599 (by omega)).2 p hp).2) (by rw [List.nil_append, sp_uT_id, sp_tcn hb54]; exact R2) (by exact rfl) h6 ((((fm2.le (q' := 59) (by decide)).tr (fw4.fm (q := 59) (by omega))).tr (fw5.fm (q := 59) (by omega))).tr fm6) git609 g6_x1) (z_q1 rfl (z_q1 rfl (z_q1 rfl (z_q1 rfl (z_q1 rfl (z_q1 rfl z_q0))))))
              · have hb54 : i599 = 0 := nI_inj (a := i599) (b := 0) c_54_58 (by omega) (by omega)
                refine j_aload_n dX11_replaceTable_57 rfl rfl ?_
                refine j_getf dX11_replaceTable_58 fX11_31 h2.m rfl ?_
                refine j_iconst (v := 2) dX11_replaceTable_61 (by decide) ?_
                obtain ⟨fz633, gz633, hz633⟩ := h2.co
                refine j_aald (v := .ref (1004 + 2)) dX11_replaceTable_62 gz633 rfl rfl (vp_in_nI (n := 2) (by decide) (by decide)) (by rw [show (2 : Int32).toNatClampNeg = 2 by decide]; exact hz633 _ (by decide)) ?_
                refine j_goto (tgt := 70) dX11_replaceTable_63 (by decide) ?_
                refine j_astore (lo' := [(4, _), (0, _), (1, _), (2, _), (3, _)]) dX11_replaceTable_70 rfl (by decide) rfl ?_
                refine j_aload dX11_replaceTable_72 rfl rfl ?_
                refine j_iconst (v := 0) dX11_replaceTable_74 (by decide) ?_
                refine j_dup2 dX11_replaceTable_75 rfl rfl ?_
                refine j_ld dX11_replaceTable_76 (h2.cn (i := 2) (by decide)) (vp_in_nI (n := 0) (by decide) (by decide)) ?_
                refine j_iconst (v := 1) dX11_replaceTable_77 (by decide) ?_
                refine j_iadd dX11_replaceTable_78 ?_
                refine j_sto (w' := _) dX11_replaceTable_79 (h2.cn (i := 2) (by decide)) (vp_in_nI (n := 0) (by decide) (by decide)) rfl ?_
                refine j_seal (by omega) ?_
                intro w15 u15
                have fw15 := u15.fw (ρ := 44 + 2) (by omega) (by omega)
                have h15 := h2.up44 (i0 := 2) (by decide) fw15 u15.1
                rw [show (0 : Int32).toNatClampNeg = 0 by decide] at h15
                have R15 := R2.bp (i := 2) (k := 0) (by omega) (by decide)
                refine j_aload_n dX11_replaceTable_80 rfl rfl ?_
                refine j_getf dX11_replaceTable_81 fX11_34 h15.m rfl ?_
                refine j_iload_n dX11_replaceTable_84 rfl ?_
                obtain ⟨lv637, -, lg637⟩ := z_li.cell h15.tabs
                refine j_callV (q := (RJx4a65c, TJx4a65c, 3)) dX11_replaceTable_85 kJx4a65c_get_915e3 lX11_82 inJx4a65c_get_915e3 seJx4a65c_get_915e3 lg637 rfl (cl_get hl w15 47 1007 _ _ (i599) _ h15.tabs (z_thr3 (t := i599) (by omega))) (Nat.le_of_ble_eq_true rfl) ⟨(by show _ ≤ 2; omega), (by show _ ≤ 11; omega)⟩ rfl (Nat.le_of_ble_eq_true rfl) rfl rfl (fun _ _ h => h.elim) ?_
                rintro _ _ ⟨rfl, hw638⟩
                refine j_w w15 hw638 ?_
                refine j_castS dX11_replaceTable_88 (z_w 1341 ((lwt_6_3 6).trans rfl) (by decide +kernel)) (z_li.is (h15.tb (t := i599) (by omega))) ?_
                obtain ⟨lv641, -, lg641⟩ := z_li.cell (h15.tb (t := i599) (by omega))
                refine j_callV (q := (RJx4a65c, TJx4a65c, 3)) dX11_replaceTable_91 kJx4a65c_iterator_32c93 lX11_162 inJx4a65c_iterator_32c93 seJx4a65c_iterator_32c93 lg641 rfl (cl_iter hl w15 58 (51 + i599) _ _ _ (h15.tb (t := i599) (by omega)) (by decide) (by omega) h15.fn) (Nat.le_of_ble_eq_true rfl) ⟨(by show _ ≤ 2; omega), (by show _ ≤ 11; omega)⟩ rfl (Nat.le_of_ble_eq_true rfl) rfl rfl (fun _ _ h => h.elim) ?_
                rintro _ w16 ⟨it640, rfl, fw16, hita640, hitb640, hitc640, la640, git640⟩
                have hita640 : 1000 ≤ it640 := hita640
                have hitb640 : it640 % 64 = 58 := hitb640
                have fm16 := fw16.fm (q := 59) (by omega)
                have h16 := h15.gar fw16 (by omega)
                refine j_astore (lo' := [(5, _), (4, _), (0, _), (1, _), (2, _), (3, _)]) dX11_replaceTable_94 rfl (by decide) rfl ?_
                have loop96 : ∀ (n9 : Nat) (w17 : z_W) (s1 : z_Z) (A L : List (Nat × Int32)) (la : Int32) (c : Nat → Int32), (L.length < n9) → (A.length ≤ (A ++ L).length) → (sp_rt r n c A L = sp_ctb S i599 r n) → (∀ p ∈ L, z_vl p.2) → (sp_MR (sp_tc (sp_uT S i599 (A ++ L)) i599 c) s1) → (s1.1.1 = 0) → (z_mst w17 s1) → (z_fm 59 w w17) → (z_g w17 it640 = some (.inr (3, [.int (nI A.length), .int la, .int (z_qp s1 i599).1, .ref (1011 + i599)]))) → z_J G l mX11_replaceTable (22, 2, 11, w, Q9, (fun _ _ => False)) 96 [(0, .ref 1000), (1, .int (nI i599)), (2, .int r), (3, .int n), (4, .ref (1004 + 2)), (5, .ref it640)] [] w17 2 11 := by
                  intro n9
                  induction n9 with
                  | zero => intro w17 s1 A L la c hf9 hAl he hv hR hth hm hfm git; exact absurd hf9 (Nat.not_lt_zero _)
                  | succ n9 ih =>
                    intro w17 s1 A L la c hf9 hAl he hv hR hth hm hfm git
                    refine j_aload dX11_replaceTable_96 rfl rfl ?_
                    refine j_callF (x := ⟨"java/util/Iterator", "hasNext", "()Z"⟩) (q := (RJx35411, TJx35411, 4)) dX11_replaceTable_98 kJx35411_hasNext_aae02 ⟨(z_w 1765 ((lwt_8_1 10).trans rfl) (by decide +kernel)), (z_w 1769 ((lwt_8_1 14).trans rfl) (by decide +kernel)), inJx35411_hasNext_aae02, ⟨by decide, by decide⟩, rfl, fun U h => h.2.1⟩ git rfl (cl_hasN hl w17 _ (51 + i599) _ (A.length) _ _ (hm.tb (t := i599) (by omega)) ⟨_, git⟩ (by rw [z_rs_len, hR.tlB (by omega) ((congrFun sp_tcT _).trans z_fu_self)]; omega)) (Nat.le_of_ble_eq_true rfl) ⟨(by show _ ≤ 2; omega), (by show _ ≤ 11; omega)⟩ rfl (Nat.le_of_ble_eq_true rfl) rfl ?_
                    rintro _ _ ⟨⟨x642, rfl, hz642, hp642⟩, hw642⟩
                    refine j_w w17 hw642 ?_
                    rw [z_rs_len, hR.tlB (by omega) ((congrFun sp_tcT _).trans z_fu_self)] at hz642 hp642
                    refine j_if_eq (tgt := 178) dX11_replaceTable_103 (by decide) (fun c_103_303 => ?_) (fun c_103_303 => ?_)
                    · have hk103 : A.length = (A ++ L).length := hz642 c_103_303
                      obtain rfl : L = [] := List.eq_nil_of_length_eq_zero (by rw [List.length_append] at hk103; omega)
                      refine j_aload dX11_replaceTable_178 rfl rfl ?_
                      refine j_iconst (v := 1) dX11_replaceTable_180 (by decide) ?_
                      refine j_dup2 dX11_replaceTable_181 rfl rfl ?_
                      refine j_ld dX11_replaceTable_182 (hm.cn (i := 2) (by decide)) (vp_in_nI (n := 1) (by decide) (by decide)) ?_
                      refine j_iconst (v := 1) dX11_replaceTable_183 (by decide) ?_
                      refine j_iadd dX11_replaceTable_184 ?_
                      refine j_sto (w' := _) dX11_replaceTable_185 (hm.cn (i := 2) (by decide)) (vp_in_nI (n := 1) (by decide) (by decide)) rfl ?_
                      refine j_seal (by omega) ?_
                      intro w18 u18
                      have fw18 := u18.fw (ρ := 44 + 2) (by omega) (by omega)
                      have g18_it640 := (fun z => (u18.2.1 it640 (fun z9 => by have h9 := hitb640; rw [z9] at h9; omega)).trans z) git
                      have h18 := hm.up44 (i0 := 2) (by decide) fw18 u18.1
                      rw [show (1 : Int32).toNatClampNeg = 1 by decide] at h18
                      have R18 := sp_MR.bpTu (k := 1) hb54 hR (by decide)
                      refine j_aload_n dX11_replaceTable_186 rfl rfl ?_
                      refine j_getf dX11_replaceTable_187 fX11_34 h18.m rfl ?_
                      refine j_iload_n dX11_replaceTable_190 rfl ?_
                      obtain ⟨lv646, -, lg646⟩ := z_li.cell h18.tabs
                      refine j_callV (q := (RJx4a65c, TJx4a65c, 3)) dX11_replaceTable_191 kJx4a65c_get_915e3 lX11_82 inJx4a65c_get_915e3 seJx4a65c_get_915e3 lg646 rfl (cl_get hl w18 47 1007 _ _ (i599) _ h18.tabs (z_thr3 (t := i599) (by omega))) (Nat.le_of_ble_eq_true rfl) ⟨(by show _ ≤ 2; omega), (by show _ ≤ 11; omega)⟩ rfl (Nat.le_of_ble_eq_true rfl) rfl rfl (fun _ _ h => h.elim) ?_
                      rintro _ _ ⟨rfl, hw647⟩
                      refine j_w w18 hw647 ?_
                      refine j_castS dX11_replaceTable_194 (z_w 1341 ((lwt_6_3 6).trans rfl) (by decide +kernel)) (z_li.is (h18.tb (t := i599) (by omega))) ?_
                      obtain ⟨lv649, -, lg649⟩ := z_li.cell (h18.tb (t := i599) (by omega))
                      refine j_callV (q := (RJx4a65c, TJx4a65c, 3)) dX11_replaceTable_197 kJx4a65c_size_8abf5 lX11_86 inJx4a65c_size_8abf5 seJx4a65c_size_8abf5 lg649 rfl (cl_sizeT hl w18 (i599) ((A ++ [])) h18 R18 (by omega) ((congrFun sp_tcT _).trans z_fu_self)) (Nat.le_of_ble_eq_true rfl) ⟨(by show _ ≤ 2; omega), (by show _ ≤ 11; omega)⟩ rfl (Nat.le_of_ble_eq_true rfl) rfl rfl (fun _ _ h => h.elim) ?_
                      rintro _ _ ⟨rfl, hw650⟩
                      refine j_w w18 hw650 ?_
                      have hz650 : ((A ++ [])).length ≤ 20 := R18.l20 h18 (t := i599) (by omega) ((congrFun sp_tcT _).trans z_fu_self)
                      refine j_iret dX11_replaceTable_200 rfl rfl ?_ (by show _ ≤ 2; omega) (by show _ ≤ 11; omega)
                      refine cast (congrFun (congrFun hQ9 _) _) ?_
                      rw [List.append_nil] at R18
                      try rw [ei599]
                      refine ⟨_, _, rfl, (hfm.tr (fw18.fm (q := 59) (by omega))), h18, sp_X0 ?_ hth (by unfold sp_ctbS; rw [← he]; exact R18) (by rw [← he, List.append_nil]; rfl)⟩
                      first | (first | (refine sp_k32_0 ?_ ?_ <;> (first | (with_reducible assumption) | (refine Or.inl ?_; (with_reducible assumption)) | (refine Or.inr ?_; (with_reducible assumption)) | (refine Or.inr (Or.inl ?_); (with_reducible assumption)) | (refine Or.inr (Or.inr ?_); (with_reducible assumption)) | (refine Or.inr (Or.inr (Or.inl ?_)); (with_reducible assumption)) | (refine Or.inr (Or.inr (Or.inr ?_)); (with_reducible assumption)) | (refine fun z => Or.elim z ?_ ?_ <;> (with_reducible assumption)) | (refine fun z => Or.elim z ?_ (fun z => Or.elim z ?_ ?_) <;> (with_reducible assumption)) | (refine fun z => Or.elim z ?_ (fun z => Or.elim z ?_ (fun z => Or.elim z ?_ ?_)) <;> (with_reducible assumption)) | (refine fun z => Or.elim z (fun z9 => z9 ?_) ?_ <;> (first | (with_reducible assumption) | (refine Or.inl ?_; (with_reducible assumption)) | (refine Or.inr (Or.inl ?_); (with_reducible assumption)) | (refine Or.inr (Or.inr ?_); (with_reducible assumption)) | (refine Or.inr (Or.inr (Or.inl ?_)); (with_reducible assumption)) | (refine Or.inr (Or.inr (Or.inr ?_)); (with_reducible assumption)))) | (refine Or.inl (fun z => Or.elim z ?_ (fun z => Or.elim z ?_ ?_)) <;> (with_reducible assumption)) | (refine Or.inl (fun z => Or.elim z ?_ (fun z => Or.elim z ?_ (fun z => Or.elim z ?_ ?_))) <;> (with_reducible assumption))))) | (first | (refine sp_k32_0 ?_ ?_ <;> (first | assumption | (refine Or.inl ?_; assumption) | (refine Or.inr ?_; assumption) | (refine Or.inr (Or.inl ?_); assumption) | (refine Or.inr (Or.inr ?_); assumption) | (refine Or.inr (Or.inr (Or.inl ?_)); assumption) | (refine Or.inr (Or.inr (Or.inr ?_)); assumption) | (refine fun z => Or.elim z ?_ ?_ <;> assumption) | (refine fun z => Or.elim z ?_ (fun z => Or.elim z ?_ ?_) <;> assumption) | (refine fun z => Or.elim z ?_ (fun z => Or.elim z ?_ (fun z => Or.elim z ?_ ?_)) <;> assumption) | (refine fun z => Or.elim z (fun z9 => z9 ?_) ?_ <;> (first | assumption | (refine Or.inl ?_; assumption) | (refine Or.inr (Or.inl ?_); assumption) | (refine Or.inr (Or.inr ?_); assumption) | (refine Or.inr (Or.inr (Or.inl ?_)); assumption) | (refine Or.inr (Or.inr (Or.inr ?_)); assumption))) | (refine Or.inl (fun z => Or.elim z ?_ (fun z => Or.elim z ?_ ?_)) <;> assumption) | (refine Or.inl (fun z => Or.elim z ?_ (fun z => Or.elim z ?_ (fun z => Or.elim z ?_ ?_))) <;> assumption))))
                    · have hk103 : A.length < (A ++ L).length := hp642 c_103_303
                      obtain ⟨x, L2, rfl⟩ : ∃ x L2, L = x :: L2 := by
                        cases L with
                        | nil => rw [List.append_nil] at hk103; exact absurd hk103 (Nat.lt_irrefl _)
                        | cons x L2 => exact ⟨x, L2, rfl⟩
                      refine j_aload dX11_replaceTable_106 rfl rfl ?_
                      obtain ⟨p651, hp651, hq651, hk651, hv0651, hv1651, hv2651⟩ := hR.prB hm (t := i599) (k := A.length) (by omega) ((congrFun sp_tcT _).trans z_fu_self) sp_mid?
                      refine j_callF (x := ⟨"java/util/Iterator", "next", "()Ljava/lang/Object;"⟩) (q := (RJx35411, TJx35411, 4)) dX11_replaceTable_108 kJx35411_next_0502b ⟨(z_w 1775 ((lwt_8_1 20).trans rfl) (by decide +kernel)), (z_w 1778 ((lwt_8_1 23).trans rfl) (by decide +kernel)), inJx35411_next_0502b, ⟨by decide, by decide⟩, rfl, fun U h => h.2.2.1⟩ git rfl (cl_next hl w17 58 it640 (51 + i599) _ (A.length) _ _ _ (hm.tb (t := i599) (by omega)) ⟨_, git⟩ hq651 hita640 hitb640 (by omega)) (Nat.le_of_ble_eq_true rfl) ⟨(by show _ ≤ 2; omega), (by show _ ≤ 11; omega)⟩ rfl (Nat.le_of_ble_eq_true rfl) rfl ?_
                      rintro _ w19 ⟨rfl, fw19, la19, git19⟩
                      have fm19 := fw19.fm (q := 59) (by omega)
                      have h19 := hm.gar fw19 (by omega)
                      refine j_castS dX11_replaceTable_113 (z_w 1663 ((lwt_7_5 28).trans rfl) (by decide +kernel)) (z_isA ((h19.pr (t := i599) (by omega)).1 p651 hp651).2) ?_
                      refine j_astore (lo' := [(6, _), (0, _), (1, _), (2, _), (3, _), (4, _), (5, _)]) dX11_replaceTable_116 rfl (by decide) rfl ?_
                      refine j_aload dX11_replaceTable_118 rfl rfl ?_
                      refine j_iconst (v := 1) dX11_replaceTable_120 (by decide) ?_
                      refine j_dup2 dX11_replaceTable_121 rfl rfl ?_
                      refine j_ld dX11_replaceTable_122 (h19.cn (i := 2) (by decide)) (vp_in_nI (n := 1) (by decide) (by decide)) ?_
                      refine j_iconst (v := 1) dX11_replaceTable_123 (by decide) ?_
                      refine j_iadd dX11_replaceTable_124 ?_
                      refine j_sto (w' := _) dX11_replaceTable_125 (h19.cn (i := 2) (by decide)) (vp_in_nI (n := 1) (by decide) (by decide)) rfl ?_
                      refine j_seal (by omega) ?_
                      intro w20 u20
                      have fw20 := u20.fw (ρ := 44 + 2) (by omega) (by omega)
                      have g20_it640 := (fun z => (u20.2.1 it640 (fun z9 => by have h9 := hitb640; rw [z9] at h9; omega)).trans z) git19
                      have h20 := h19.up44 (i0 := 2) (by decide) fw20 u20.1
                      rw [show (1 : Int32).toNatClampNeg = 1 by decide] at h20
                      have R20 := sp_MR.bpTu (k := 1) hb54 hR (by decide)
                      refine j_aload dX11_replaceTable_126 rfl rfl ?_
                      refine j_iconst (v := 2) dX11_replaceTable_128 (by decide) ?_
                      refine j_dup2 dX11_replaceTable_129 rfl rfl ?_
                      refine j_ld dX11_replaceTable_130 (h20.cn (i := 2) (by decide)) (vp_in_nI (n := 2) (by decide) (by decide)) ?_
                      refine j_iconst (v := 1) dX11_replaceTable_131 (by decide) ?_
                      refine j_iadd dX11_replaceTable_132 ?_
                      refine j_sto (w' := _) dX11_replaceTable_133 (h20.cn (i := 2) (by decide)) (vp_in_nI (n := 2) (by decide) (by decide)) rfl ?_
                      refine j_seal (by omega) ?_
                      intro w21 u21
                      have fw21 := u21.fw (ρ := 44 + 2) (by omega) (by omega)
                      have g21_it640 := (fun z => (u21.2.1 it640 (fun z9 => by have h9 := hitb640; rw [z9] at h9; omega)).trans z) g20_it640
                      have h21 := h20.up44 (i0 := 2) (by decide) fw21 u21.1
                      rw [show (2 : Int32).toNatClampNeg = 2 by decide] at h21
                      have R21 := sp_MR.bpTu (k := 2) hb54 R20 (by decide)
                      refine j_iload_n dX11_replaceTable_134 rfl ?_
                      refine j_aload dX11_replaceTable_135 rfl rfl ?_
                      refine j_iconst (v := 0) dX11_replaceTable_137 (by decide) ?_
                      refine j_ld dX11_replaceTable_138 ((h21.pr (t := i599) (by omega)).1 p651 hp651).2 (vp_in_nI (n := 0) (by decide) (by decide)) ?_
                      refine j_top (congrArg Value.int (show _ = nI x.1 from by rw [show (0 : Int32).toNatClampNeg = 0 from by decide]; exact hv0651)) ?_
                      refine j_aload dX11_replaceTable_139 rfl rfl ?_
                      refine j_iconst (v := 1) dX11_replaceTable_141 (by decide) ?_
                      refine j_ld dX11_replaceTable_142 ((h21.pr (t := i599) (by omega)).1 p651 hp651).2 (vp_in_nI (n := 1) (by decide) (by decide)) ?_
                      refine j_top (congrArg Value.int (show _ = x.2 from by rw [show (1 : Int32).toNatClampNeg = 1 from by decide]; exact hv1651)) ?_
                      refine j_iload_n dX11_replaceTable_143 rfl ?_
                      refine j_callS dX11_replaceTable_144 kX11_rule lX11_115 stX11_rule (cm_rule_r hl w21 _ _ _ _ (hv _ List.mem_cons_self).2 (sp_vl (by assumption)).2) (Nat.le_of_ble_eq_true rfl) ⟨(by show _ ≤ 2; omega), (by show _ ≤ 11; omega)⟩ rfl (Nat.le_of_ble_eq_true rfl) rfl rfl (fun _ _ h => h.elim) ?_
                      rintro _ _ ⟨⟨rfl, hq659⟩ | ⟨y659, rfl, hq659, hne659⟩, hw659⟩
                      · refine j_w w21 hw659 ?_
                        refine j_istore (lo' := [(7, _), (6, _), (0, _), (1, _), (2, _), (3, _), (4, _), (5, _)]) dX11_replaceTable_147 (by decide) rfl ?_
                        refine j_iload dX11_replaceTable_149 rfl ?_
                        refine j_ldc dX11_replaceTable_151 kcX11_67 ?_
                        refine j_icmp_ne (tgt := 161) dX11_replaceTable_153 (by decide) (fun c_153_396 => ?_) (fun c_153_396 => ?_)
                        · exact absurd c_153_396 (by decide)
                        · refine j_aload_n dX11_replaceTable_156 rfl rfl ?_
                          refine j_callV (q := (RX11, TX11, 8)) dX11_replaceTable_157 kX11_nine lX11_105 inX11_nine seX11_nine h21.m rfl (cm_nine hl w21 _ h21) (Nat.le_of_ble_eq_true rfl) ⟨(by show _ ≤ 2; omega), (by show _ ≤ 11; omega)⟩ rfl (Nat.le_of_ble_eq_true rfl) rfl rfl (fun _ _ h => h.elim) ?_
                          rintro _ w22 ⟨rfl, fm22, h22⟩
                          have g22_it640 := fm22.g hita640 (by rw [hitb640]; decide) g21_it640
                          have R22 := R21.ni
                          refine j_iret dX11_replaceTable_160 rfl rfl ?_ (by show _ ≤ 2; omega) (by show _ ≤ 11; omega)
                          refine cast (congrFun (congrFun hQ9 _) _) ?_
                          rw [sp_rtN hq659] at he
                          try rw [ei599]
                          refine ⟨_, _, rfl, ((((hfm.tr fm19).tr (fw20.fm (q := 59) (by omega))).tr (fw21.fm (q := 59) (by omega))).tr (fm22.le (q' := 59) (by decide))), h22, sp_X0 ?_ hth (by unfold sp_ctbS; rw [← he]; exact R22) (by rw [← he]; rfl)⟩
                          first | (first | (refine sp_k32_0 ?_ ?_ <;> (first | (with_reducible assumption) | (refine Or.inl ?_; (with_reducible assumption)) | (refine Or.inr ?_; (with_reducible assumption)) | (refine Or.inr (Or.inl ?_); (with_reducible assumption)) | (refine Or.inr (Or.inr ?_); (with_reducible assumption)) | (refine Or.inr (Or.inr (Or.inl ?_)); (with_reducible assumption)) | (refine Or.inr (Or.inr (Or.inr ?_)); (with_reducible assumption)) | (refine fun z => Or.elim z ?_ ?_ <;> (with_reducible assumption)) | (refine fun z => Or.elim z ?_ (fun z => Or.elim z ?_ ?_) <;> (with_reducible assumption)) | (refine fun z => Or.elim z ?_ (fun z => Or.elim z ?_ (fun z => Or.elim z ?_ ?_)) <;> (with_reducible assumption)) | (refine fun z => Or.elim z (fun z9 => z9 ?_) ?_ <;> (first | (with_reducible assumption) | (refine Or.inl ?_; (with_reducible assumption)) | (refine Or.inr (Or.inl ?_); (with_reducible assumption)) | (refine Or.inr (Or.inr ?_); (with_reducible assumption)) | (refine Or.inr (Or.inr (Or.inl ?_)); (with_reducible assumption)) | (refine Or.inr (Or.inr (Or.inr ?_)); (with_reducible assumption)))) | (refine Or.inl (fun z => Or.elim z ?_ (fun z => Or.elim z ?_ ?_)) <;> (with_reducible assumption)) | (refine Or.inl (fun z => Or.elim z ?_ (fun z => Or.elim z ?_ (fun z => Or.elim z ?_ ?_))) <;> (with_reducible assumption))))) | (first | (refine sp_k32_0 ?_ ?_ <;> (first | assumption | (refine Or.inl ?_; assumption) | (refine Or.inr ?_; assumption) | (refine Or.inr (Or.inl ?_); assumption) | (refine Or.inr (Or.inr ?_); assumption) | (refine Or.inr (Or.inr (Or.inl ?_)); assumption) | (refine Or.inr (Or.inr (Or.inr ?_)); assumption) | (refine fun z => Or.elim z ?_ ?_ <;> assumption) | (refine fun z => Or.elim z ?_ (fun z => Or.elim z ?_ ?_) <;> assumption) | (refine fun z => Or.elim z ?_ (fun z => Or.elim z ?_ (fun z => Or.elim z ?_ ?_)) <;> assumption) | (refine fun z => Or.elim z (fun z9 => z9 ?_) ?_ <;> (first | assumption | (refine Or.inl ?_; assumption) | (refine Or.inr (Or.inl ?_); assumption) | (refine Or.inr (Or.inr ?_); assumption) | (refine Or.inr (Or.inr (Or.inl ?_)); assumption) | (refine Or.inr (Or.inr (Or.inr ?_)); assumption))) | (refine Or.inl (fun z => Or.elim z ?_ (fun z => Or.elim z ?_ ?_)) <;> assumption) | (refine Or.inl (fun z => Or.elim z ?_ (fun z => Or.elim z ?_ (fun z => Or.elim z ?_ ?_))) <;> assumption))))
                      · refine j_w w21 hw659 ?_
                        refine j_istore (lo' := [(7, _), (6, _), (0, _), (1, _), (2, _), (3, _), (4, _), (5, _)]) dX11_replaceTable_147 (by decide) rfl ?_
                        refine j_iload dX11_replaceTable_149 rfl ?_
                        refine j_ldc dX11_replaceTable_151 kcX11_67 ?_
                        refine j_icmp_ne (tgt := 161) dX11_replaceTable_153 (by decide) (fun c_153_413 => ?_) (fun c_153_413 => ?_)
                        · refine j_aload dX11_replaceTable_161 rfl rfl ?_
                          refine j_iconst (v := 1) dX11_replaceTable_163 (by decide) ?_
                          refine j_iload dX11_replaceTable_164 rfl ?_
                          refine j_sto (w' := _) dX11_replaceTable_166 ((h21.pr (t := i599) (by omega)).1 p651 hp651).2 (vp_in_nI (n := 1) (by decide) (by decide)) rfl ?_
                          have hnd : (sp_ks (A ++ x :: L2)).Nodup := R21.kd h21 (t := i599) (by omega) ((congrFun sp_tcT _).trans z_fu_self)
                          refine j_seal (((h21.pr (t := i599) (by omega)).1 p651 hp651).1.1) ?_
                          intro w23 u23
                          have hpp23 := ((h21.pr (t := i599) (by omega)).1 p651 hp651).1
                          have hpq23 := hpp23.2.1
                          have g23_it640 := (u23.2.1 it640 (by omega)).trans g21_it640
                          have fw23 := u23.fw (ρ := 14 + i599) hpp23.1 hpp23.2.1
                          have h23 := h21.up14 (t0 := i599) (by omega) hp651 u23 (z_ui_ne (by decide))
                          have R23 := R21.uk (t0 := i599) (F := z_ui (z_qk _ p651) ((1 : Int32).toNatClampNeg) y659) (v := y659) h21 (by omega) hp651 (z_ui_ne (by decide)) (by rw [show (1 : Int32).toNatClampNeg = 1 from by decide]; exact z_ui_self)
                          rw [hv0651, z_cla (by omega)] at R23
                          rw [show sp_T (sp_tc (sp_uT S i599 (A ++ x :: L2)) i599 _) i599 = A ++ x :: L2 from (congrFun sp_tcT _).trans z_fu_self, sp_st_mid hnd, sp_tcu, sp_uTT] at R23
                          refine j_aload dX11_replaceTable_167 rfl rfl ?_
                          refine j_iconst (v := 3) dX11_replaceTable_169 (by decide) ?_
                          refine j_dup2 dX11_replaceTable_170 rfl rfl ?_
                          refine j_ld dX11_replaceTable_171 (h23.cn (i := 2) (by decide)) (vp_in_nI (n := 3) (by decide) (by decide)) ?_
                          refine j_iconst (v := 1) dX11_replaceTable_172 (by decide) ?_
                          refine j_iadd dX11_replaceTable_173 ?_
                          refine j_sto (w' := _) dX11_replaceTable_174 (h23.cn (i := 2) (by decide)) (vp_in_nI (n := 3) (by decide) (by decide)) rfl ?_
                          refine j_seal (by omega) ?_
                          intro w24 u24
                          have fw24 := u24.fw (ρ := 44 + 2) (by omega) (by omega)
                          have g24_it640 := (fun z => (u24.2.1 it640 (fun z9 => by have h9 := hitb640; rw [z9] at h9; omega)).trans z) g23_it640
                          have h24 := h23.up44 (i0 := 2) (by decide) fw24 u24.1
                          rw [show (3 : Int32).toNatClampNeg = 3 by decide] at h24
                          have R24 := sp_MR.bpTu (k := 3) hb54 R23 (by decide)
                          refine j_goto (tgt := 96) dX11_replaceTable_175 (by decide) ?_
                          refine j_widen (kc' := 2) (ks' := 11) (by omega) (by omega) ?_
                          exact j_lo2 (ih w24 _ (A ++ [(x.1, y659)]) L2 _ (z_bp (z_bp (z_bp c 1) 2) 3) (by rw [List.length_cons] at hf9; omega) sp_apl (by rw [sp_rtS hq659] at he; exact he) (fun p hp => hv p (List.mem_cons_of_mem _ hp)) (by rw [← sp_mid]; exact R24) (by exact hth) h24 (((((hfm.tr fm19).tr (fw20.fm (q := 59) (by omega))).tr (fw21.fm (q := 59) (by omega))).tr (fw23.fm (q := 59) (by omega))).tr (fw24.fm (q := 59) (by omega))) (by rw [List.length_append]; exact g24_it640)) (z_q1 rfl (z_q1 rfl (z_q1 rfl (z_q1 rfl (z_q1 rfl (z_q1 rfl z_q0))))))
                        · exact absurd c_153_413 hne659
                refine j_widen (kc' := 2) (ks' := 11) (by omega) (by omega) ?_
                exact j_lo2 (loop96 ((sp_T S i599).length + 1) w16 _ [] (sp_T S i599) _ (z_bp (sp_C S 2) 0) (Nat.lt_succ_self _) sp_apl (by exact rfl) (fun p hp => ((ok.2.1 i599 (by omega)).2 p hp).2) (by rw [List.nil_append, sp_uT_id, sp_tc0 hb54]; exact R15) (by exact rfl) h16 (((fm2.le (q' := 59) (by decide)).tr (fw15.fm (q := 59) (by omega))).tr fm16) git640) (z_q1 rfl (z_q1 rfl (z_q1 rfl (z_q1 rfl (z_q1 rfl (z_q1 rfl z_q0))))))
            · exact absurd c_48_56 (by decide)
          · exact absurd c_36_50 (by decide)
      · refine j_iload_n dX11_replaceTable_17 rfl ?_
        refine j_iconst (v := 1) dX11_replaceTable_18 (by decide) ?_
        refine j_icmp_eq (tgt := 32) dX11_replaceTable_19 (by decide) (fun c_19_453 => ?_) (fun c_19_453 => ?_)
        · refine j_iload_n dX11_replaceTable_32 rfl ?_
          refine j_callS dX11_replaceTable_33 kX11_isNoValue lX11_79 stX11_isNoValue (cm_isNoValue_r hl w2 _) (Nat.le_of_ble_eq_true rfl) ⟨(by show _ ≤ 2; omega), (by show _ ≤ 11; omega)⟩ rfl (Nat.le_of_ble_eq_true rfl) rfl rfl (fun _ _ h => h.elim) ?_
          rintro _ _ ⟨⟨rfl, hno664⟩ | ⟨rfl, hye664⟩, hw664⟩
          · refine j_w w2 hw664 ?_
            refine j_if_eq (tgt := 43) dX11_replaceTable_36 (by decide) (fun c_36_458 => ?_) (fun c_36_458 => ?_)
            · exact absurd c_36_458 (by decide)
            · refine j_iconst (v := 1) dX11_replaceTable_39 (by decide) ?_
              refine j_goto (tgt := 44) dX11_replaceTable_40 (by decide) ?_
              refine j_iconst (v := 2) dX11_replaceTable_44 (by decide) ?_
              refine j_callV (q := (RX11, TX11, 8)) dX11_replaceTable_45 kX11_refuse lX11_52 inX11_refuse seX11_refuse h2.m rfl (cm_refuse1 hl w2 _ _ h2 rfl (by decide)) (Nat.le_of_ble_eq_true rfl) ⟨(by show _ ≤ 2; omega), (by show _ ≤ 11; omega)⟩ rfl (Nat.le_of_ble_eq_true rfl) rfl rfl (fun _ _ h => h.elim) ?_
              rintro _ w25 ⟨rfl, fm25, h25⟩
              have R25 := R2.th (k := 2)
              refine j_if_eq (tgt := 53) dX11_replaceTable_48 (by decide) (fun c_48_466 => ?_) (fun c_48_466 => ?_)
              · exact absurd c_48_466 (by decide)
              · refine j_iconst (v := 0) dX11_replaceTable_51 (by decide) ?_
                refine j_iret dX11_replaceTable_52 rfl rfl ?_ (by show _ ≤ 2; omega) (by show _ ≤ 11; omega)
                refine cast (congrFun (congrFun hQ9 _) _) ?_
                try rw [ei599]
                refine ⟨_, _, rfl, ((fm2.le (q' := 59) (by decide)).tr (fm25.le (q' := 59) (by decide))), h25, sp_X1 (k := 2) ?_ (by decide) rfl R25⟩
                first | (first | (refine sp_k32_2 ?_ ?_ <;> (first | (with_reducible assumption) | (refine Or.inl ?_; (with_reducible assumption)) | (refine Or.inr ?_; (with_reducible assumption)) | (refine Or.inr (Or.inl ?_); (with_reducible assumption)) | (refine Or.inr (Or.inr ?_); (with_reducible assumption)) | (refine Or.inr (Or.inr (Or.inl ?_)); (with_reducible assumption)) | (refine Or.inr (Or.inr (Or.inr ?_)); (with_reducible assumption)) | (refine fun z => Or.elim z ?_ ?_ <;> (with_reducible assumption)) | (refine fun z => Or.elim z ?_ (fun z => Or.elim z ?_ ?_) <;> (with_reducible assumption)) | (refine fun z => Or.elim z ?_ (fun z => Or.elim z ?_ (fun z => Or.elim z ?_ ?_)) <;> (with_reducible assumption)) | (refine fun z => Or.elim z (fun z9 => z9 ?_) ?_ <;> (first | (with_reducible assumption) | (refine Or.inl ?_; (with_reducible assumption)) | (refine Or.inr (Or.inl ?_); (with_reducible assumption)) | (refine Or.inr (Or.inr ?_); (with_reducible assumption)) | (refine Or.inr (Or.inr (Or.inl ?_)); (with_reducible assumption)) | (refine Or.inr (Or.inr (Or.inr ?_)); (with_reducible assumption)))) | (refine Or.inl (fun z => Or.elim z ?_ (fun z => Or.elim z ?_ ?_)) <;> (with_reducible assumption)) | (refine Or.inl (fun z => Or.elim z ?_ (fun z => Or.elim z ?_ (fun z => Or.elim z ?_ ?_))) <;> (with_reducible assumption))))) | (first | (refine sp_k32_2 ?_ ?_ <;> (first | assumption | (refine Or.inl ?_; assumption) | (refine Or.inr ?_; assumption) | (refine Or.inr (Or.inl ?_); assumption) | (refine Or.inr (Or.inr ?_); assumption) | (refine Or.inr (Or.inr (Or.inl ?_)); assumption) | (refine Or.inr (Or.inr (Or.inr ?_)); assumption) | (refine fun z => Or.elim z ?_ ?_ <;> assumption) | (refine fun z => Or.elim z ?_ (fun z => Or.elim z ?_ ?_) <;> assumption) | (refine fun z => Or.elim z ?_ (fun z => Or.elim z ?_ (fun z => Or.elim z ?_ ?_)) <;> assumption) | (refine fun z => Or.elim z (fun z9 => z9 ?_) ?_ <;> (first | assumption | (refine Or.inl ?_; assumption) | (refine Or.inr (Or.inl ?_); assumption) | (refine Or.inr (Or.inr ?_); assumption) | (refine Or.inr (Or.inr (Or.inl ?_)); assumption) | (refine Or.inr (Or.inr (Or.inr ?_)); assumption))) | (refine Or.inl (fun z => Or.elim z ?_ (fun z => Or.elim z ?_ ?_)) <;> assumption) | (refine Or.inl (fun z => Or.elim z ?_ (fun z => Or.elim z ?_ (fun z => Or.elim z ?_ ?_))) <;> assumption))))
          · refine j_w w2 hw664 ?_
            refine j_if_eq (tgt := 43) dX11_replaceTable_36 (by decide) (fun c_36_475 => ?_) (fun c_36_475 => ?_)
            · refine j_iconst (v := 0) dX11_replaceTable_43 (by decide) ?_
              refine j_iconst (v := 2) dX11_replaceTable_44 (by decide) ?_
              refine j_callV (q := (RX11, TX11, 8)) dX11_replaceTable_45 kX11_refuse lX11_52 inX11_refuse seX11_refuse h2.m rfl (cm_refuse0 hl w2 _ _ h2 rfl) (Nat.le_of_ble_eq_true rfl) ⟨(by show _ ≤ 2; omega), (by show _ ≤ 11; omega)⟩ rfl (Nat.le_of_ble_eq_true rfl) rfl rfl (fun _ _ h => h.elim) ?_
              rintro _ _ ⟨rfl, hw665⟩
              refine j_w w2 hw665 ?_
              refine j_if_eq (tgt := 53) dX11_replaceTable_48 (by decide) (fun c_48_481 => ?_) (fun c_48_481 => ?_)
              · refine j_iload_n dX11_replaceTable_53 rfl ?_
                refine j_if_ne (tgt := 66) dX11_replaceTable_54 (by decide) (fun c_54_483 => ?_) (fun c_54_483 => ?_)
                · have hb54 : ¬ i599 = 0 := fun z => c_54_483 (show nI i599 = nI 0 by rw [z])
                  refine j_bipush (v := 7) dX11_replaceTable_66 (by decide) ?_
                  obtain ⟨x2, hx2a, hx2b, hx2c⟩ := z_fresh (57) (by decide) h2.fn
                  refine j_newa (kd := 0) (N := 7) (w' := _) (n := x2) dX11_replaceTable_68 rfl rfl arc_int ⟨rfl, fun _ _ h => h⟩ (by decide) rfl (by decide) rfl (z_alW hx2c hx2a) (Nat.le_of_ble_eq_true rfl) (Nat.le_of_ble_eq_true rfl) ?_
                  refine j_seal hx2a ?_
                  intro w26 u26
                  have fw26 := u26.fw hx2a hx2b
                  have g26_x2 := u26.1
                  have h26 := h2.gar fw26 (by omega)
                  refine j_astore (lo' := [(4, _), (0, _), (1, _), (2, _), (3, _)]) dX11_replaceTable_70 rfl (by decide) rfl ?_
                  refine j_aload dX11_replaceTable_72 rfl rfl ?_
                  refine j_iconst (v := 0) dX11_replaceTable_74 (by decide) ?_
                  refine j_dup2 dX11_replaceTable_75 rfl rfl ?_
                  refine j_ld dX11_replaceTable_76 g26_x2 (vp_in_nI (n := 0) (by decide) (by decide)) ?_
                  refine j_iconst (v := 1) dX11_replaceTable_77 (by decide) ?_
                  refine j_iadd dX11_replaceTable_78 ?_
                  refine j_sto (w' := _) dX11_replaceTable_79 g26_x2 (vp_in_nI (n := 0) (by decide) (by decide)) rfl ?_
                  refine j_seal hx2a ?_
                  intro w27 u27
                  have fw27 := u27.fw hx2a hx2b
                  have g27_x2 := u27.1
                  have h27 := h26.gar fw27 (by omega)
                  refine j_aload_n dX11_replaceTable_80 rfl rfl ?_
                  refine j_getf dX11_replaceTable_81 fX11_34 h27.m rfl ?_
                  refine j_iload_n dX11_replaceTable_84 rfl ?_
                  obtain ⟨lv670, -, lg670⟩ := z_li.cell h27.tabs
                  refine j_callV (q := (RJx4a65c, TJx4a65c, 3)) dX11_replaceTable_85 kJx4a65c_get_915e3 lX11_82 inJx4a65c_get_915e3 seJx4a65c_get_915e3 lg670 rfl (cl_get hl w27 47 1007 _ _ (i599) _ h27.tabs (z_thr3 (t := i599) (by omega))) (Nat.le_of_ble_eq_true rfl) ⟨(by show _ ≤ 2; omega), (by show _ ≤ 11; omega)⟩ rfl (Nat.le_of_ble_eq_true rfl) rfl rfl (fun _ _ h => h.elim) ?_
                  rintro _ _ ⟨rfl, hw671⟩
                  refine j_w w27 hw671 ?_
                  refine j_castS dX11_replaceTable_88 (z_w 1341 ((lwt_6_3 6).trans rfl) (by decide +kernel)) (z_li.is (h27.tb (t := i599) (by omega))) ?_
                  obtain ⟨lv674, -, lg674⟩ := z_li.cell (h27.tb (t := i599) (by omega))
                  refine j_callV (q := (RJx4a65c, TJx4a65c, 3)) dX11_replaceTable_91 kJx4a65c_iterator_32c93 lX11_162 inJx4a65c_iterator_32c93 seJx4a65c_iterator_32c93 lg674 rfl (cl_iter hl w27 58 (51 + i599) _ _ _ (h27.tb (t := i599) (by omega)) (by decide) (by omega) h27.fn) (Nat.le_of_ble_eq_true rfl) ⟨(by show _ ≤ 2; omega), (by show _ ≤ 11; omega)⟩ rfl (Nat.le_of_ble_eq_true rfl) rfl rfl (fun _ _ h => h.elim) ?_
                  rintro _ w28 ⟨it673, rfl, fw28, hita673, hitb673, hitc673, la673, git673⟩
                  have hita673 : 1000 ≤ it673 := hita673
                  have hitb673 : it673 % 64 = 58 := hitb673
                  have n_x2_it673 := z_neF hitc673 g27_x2
                  have g28_x2 := fw28.g (Or.inr (by omega)) g27_x2
                  have fm28 := fw28.fm (q := 59) (by omega)
                  have h28 := h27.gar fw28 (by omega)
                  refine j_astore (lo' := [(5, _), (4, _), (0, _), (1, _), (2, _), (3, _)]) dX11_replaceTable_94 rfl (by decide) rfl ?_
                  have loop96 : ∀ (n9 : Nat) (w29 : z_W) (s1 : z_Z) (A L : List (Nat × Int32)) (la : Int32) (c : Nat → Int32) (F : Nat → Int32), (L.length < n9) → (A.length ≤ (A ++ L).length) → (sp_rt r n c A L = sp_ctb S i599 r n) → (∀ p ∈ L, z_vl p.2) → (sp_MR (sp_tc (sp_uT S i599 (A ++ L)) i599 c) s1) → (s1.1.1 = 0) → (z_mst w29 s1) → (z_fm 59 w w29) → (z_g w29 it673 = some (.inr (3, [.int (nI A.length), .int la, .int (z_qp s1 i599).1, .ref (1011 + i599)]))) → (z_g w29 x2 = some (.inl (0, 7, fun j => .int (F j)))) → z_J G l mX11_replaceTable (22, 2, 11, w, Q9, (fun _ _ => False)) 96 [(0, .ref 1000), (1, .int (nI i599)), (2, .int r), (3, .int n), (4, .ref x2), (5, .ref it673)] [] w29 2 11 := by
                    intro n9
                    induction n9 with
                    | zero => intro w29 s1 A L la c F hf9 hAl he hv hR hth hm hfm git gx; exact absurd hf9 (Nat.not_lt_zero _)
                    | succ n9 ih =>
                      intro w29 s1 A L la c F hf9 hAl he hv hR hth hm hfm git gx
                      refine j_aload dX11_replaceTable_96 rfl rfl ?_
                      refine j_callF (x := ⟨"java/util/Iterator", "hasNext", "()Z"⟩) (q := (RJx35411, TJx35411, 4)) dX11_replaceTable_98 kJx35411_hasNext_aae02 ⟨(z_w 1765 ((lwt_8_1 10).trans rfl) (by decide +kernel)), (z_w 1769 ((lwt_8_1 14).trans rfl) (by decide +kernel)), inJx35411_hasNext_aae02, ⟨by decide, by decide⟩, rfl, fun U h => h.2.1⟩ git rfl (cl_hasN hl w29 _ (51 + i599) _ (A.length) _ _ (hm.tb (t := i599) (by omega)) ⟨_, git⟩ (by rw [z_rs_len, hR.tlB (by omega) ((congrFun sp_tcT _).trans z_fu_self)]; omega)) (Nat.le_of_ble_eq_true rfl) ⟨(by show _ ≤ 2; omega), (by show _ ≤ 11; omega)⟩ rfl (Nat.le_of_ble_eq_true rfl) rfl ?_
                      rintro _ _ ⟨⟨x675, rfl, hz675, hp675⟩, hw675⟩
                      refine j_w w29 hw675 ?_
                      rw [z_rs_len, hR.tlB (by omega) ((congrFun sp_tcT _).trans z_fu_self)] at hz675 hp675
                      refine j_if_eq (tgt := 178) dX11_replaceTable_103 (by decide) (fun c_103_535 => ?_) (fun c_103_535 => ?_)
                      · have hk103 : A.length = (A ++ L).length := hz675 c_103_535
                        obtain rfl : L = [] := List.eq_nil_of_length_eq_zero (by rw [List.length_append] at hk103; omega)
                        refine j_aload dX11_replaceTable_178 rfl rfl ?_
                        refine j_iconst (v := 1) dX11_replaceTable_180 (by decide) ?_
                        refine j_dup2 dX11_replaceTable_181 rfl rfl ?_
                        refine j_ld dX11_replaceTable_182 gx (vp_in_nI (n := 1) (by decide) (by decide)) ?_
                        refine j_iconst (v := 1) dX11_replaceTable_183 (by decide) ?_
                        refine j_iadd dX11_replaceTable_184 ?_
                        refine j_sto (w' := _) dX11_replaceTable_185 gx (vp_in_nI (n := 1) (by decide) (by decide)) rfl ?_
                        refine j_seal hx2a ?_
                        intro w30 u30
                        have fw30 := u30.fw hx2a hx2b
                        have g30_it673 := (u30.2.1 it673 (Ne.symm n_x2_it673)).trans git
                        have g30_x2 := u30.1
                        have h30 := hm.gar fw30 (by omega)
                        refine j_aload_n dX11_replaceTable_186 rfl rfl ?_
                        refine j_getf dX11_replaceTable_187 fX11_34 h30.m rfl ?_
                        refine j_iload_n dX11_replaceTable_190 rfl ?_
                        obtain ⟨lv679, -, lg679⟩ := z_li.cell h30.tabs
                        refine j_callV (q := (RJx4a65c, TJx4a65c, 3)) dX11_replaceTable_191 kJx4a65c_get_915e3 lX11_82 inJx4a65c_get_915e3 seJx4a65c_get_915e3 lg679 rfl (cl_get hl w30 47 1007 _ _ (i599) _ h30.tabs (z_thr3 (t := i599) (by omega))) (Nat.le_of_ble_eq_true rfl) ⟨(by show _ ≤ 2; omega), (by show _ ≤ 11; omega)⟩ rfl (Nat.le_of_ble_eq_true rfl) rfl rfl (fun _ _ h => h.elim) ?_
                        rintro _ _ ⟨rfl, hw680⟩
                        refine j_w w30 hw680 ?_
                        refine j_castS dX11_replaceTable_194 (z_w 1341 ((lwt_6_3 6).trans rfl) (by decide +kernel)) (z_li.is (h30.tb (t := i599) (by omega))) ?_
                        obtain ⟨lv682, -, lg682⟩ := z_li.cell (h30.tb (t := i599) (by omega))
                        refine j_callV (q := (RJx4a65c, TJx4a65c, 3)) dX11_replaceTable_197 kJx4a65c_size_8abf5 lX11_86 inJx4a65c_size_8abf5 seJx4a65c_size_8abf5 lg682 rfl (cl_sizeT hl w30 (i599) ((A ++ [])) h30 hR (by omega) ((congrFun sp_tcT _).trans z_fu_self)) (Nat.le_of_ble_eq_true rfl) ⟨(by show _ ≤ 2; omega), (by show _ ≤ 11; omega)⟩ rfl (Nat.le_of_ble_eq_true rfl) rfl rfl (fun _ _ h => h.elim) ?_
                        rintro _ _ ⟨rfl, hw683⟩
                        refine j_w w30 hw683 ?_
                        have hz683 : ((A ++ [])).length ≤ 20 := hR.l20 h30 (t := i599) (by omega) ((congrFun sp_tcT _).trans z_fu_self)
                        refine j_iret dX11_replaceTable_200 rfl rfl ?_ (by show _ ≤ 2; omega) (by show _ ≤ 11; omega)
                        refine cast (congrFun (congrFun hQ9 _) _) ?_
                        rw [List.append_nil] at hR
                        try rw [ei599]
                        refine ⟨_, _, rfl, (hfm.tr (fw30.fm (q := 59) (by omega))), h30, sp_X0 ?_ hth (by unfold sp_ctbS; rw [← he]; have e := hR; rw [sp_tcn hb54] at e; show sp_MR (sp_tc (sp_uT S _ _) _ _) _; rw [sp_tcn hb54]; exact e) (by rw [← he, List.append_nil]; rfl)⟩
                        first | (first | (refine sp_k32_0 ?_ ?_ <;> (first | (with_reducible assumption) | (refine Or.inl ?_; (with_reducible assumption)) | (refine Or.inr ?_; (with_reducible assumption)) | (refine Or.inr (Or.inl ?_); (with_reducible assumption)) | (refine Or.inr (Or.inr ?_); (with_reducible assumption)) | (refine Or.inr (Or.inr (Or.inl ?_)); (with_reducible assumption)) | (refine Or.inr (Or.inr (Or.inr ?_)); (with_reducible assumption)) | (refine fun z => Or.elim z ?_ ?_ <;> (with_reducible assumption)) | (refine fun z => Or.elim z ?_ (fun z => Or.elim z ?_ ?_) <;> (with_reducible assumption)) | (refine fun z => Or.elim z ?_ (fun z => Or.elim z ?_ (fun z => Or.elim z ?_ ?_)) <;> (with_reducible assumption)) | (refine fun z => Or.elim z (fun z9 => z9 ?_) ?_ <;> (first | (with_reducible assumption) | (refine Or.inl ?_; (with_reducible assumption)) | (refine Or.inr (Or.inl ?_); (with_reducible assumption)) | (refine Or.inr (Or.inr ?_); (with_reducible assumption)) | (refine Or.inr (Or.inr (Or.inl ?_)); (with_reducible assumption)) | (refine Or.inr (Or.inr (Or.inr ?_)); (with_reducible assumption)))) | (refine Or.inl (fun z => Or.elim z ?_ (fun z => Or.elim z ?_ ?_)) <;> (with_reducible assumption)) | (refine Or.inl (fun z => Or.elim z ?_ (fun z => Or.elim z ?_ (fun z => Or.elim z ?_ ?_))) <;> (with_reducible assumption))))) | (first | (refine sp_k32_0 ?_ ?_ <;> (first | assumption | (refine Or.inl ?_; assumption) | (refine Or.inr ?_; assumption) | (refine Or.inr (Or.inl ?_); assumption) | (refine Or.inr (Or.inr ?_); assumption) | (refine Or.inr (Or.inr (Or.inl ?_)); assumption) | (refine Or.inr (Or.inr (Or.inr ?_)); assumption) | (refine fun z => Or.elim z ?_ ?_ <;> assumption) | (refine fun z => Or.elim z ?_ (fun z => Or.elim z ?_ ?_) <;> assumption) | (refine fun z => Or.elim z ?_ (fun z => Or.elim z ?_ (fun z => Or.elim z ?_ ?_)) <;> assumption) | (refine fun z => Or.elim z (fun z9 => z9 ?_) ?_ <;> (first | assumption | (refine Or.inl ?_; assumption) | (refine Or.inr (Or.inl ?_); assumption) | (refine Or.inr (Or.inr ?_); assumption) | (refine Or.inr (Or.inr (Or.inl ?_)); assumption) | (refine Or.inr (Or.inr (Or.inr ?_)); assumption))) | (refine Or.inl (fun z => Or.elim z ?_ (fun z => Or.elim z ?_ ?_)) <;> assumption) | (refine Or.inl (fun z => Or.elim z ?_ (fun z => Or.elim z ?_ (fun z => Or.elim z ?_ ?_))) <;> assumption))))
                      · have hk103 : A.length < (A ++ L).length := hp675 c_103_535
                        obtain ⟨x, L2, rfl⟩ : ∃ x L2, L = x :: L2 := by
                          cases L with
                          | nil => rw [List.append_nil] at hk103; exact absurd hk103 (Nat.lt_irrefl _)
                          | cons x L2 => exact ⟨x, L2, rfl⟩
                        refine j_aload dX11_replaceTable_106 rfl rfl ?_
                        obtain ⟨p684, hp684, hq684, hk684, hv0684, hv1684, hv2684⟩ := hR.prB hm (t := i599) (k := A.length) (by omega) ((congrFun sp_tcT _).trans z_fu_self) sp_mid?
                        refine j_callF (x := ⟨"java/util/Iterator", "next", "()Ljava/lang/Object;"⟩) (q := (RJx35411, TJx35411, 4)) dX11_replaceTable_108 kJx35411_next_0502b ⟨(z_w 1775 ((lwt_8_1 20).trans rfl) (by decide +kernel)), (z_w 1778 ((lwt_8_1 23).trans rfl) (by decide +kernel)), inJx35411_next_0502b, ⟨by decide, by decide⟩, rfl, fun U h => h.2.2.1⟩ git rfl (cl_next hl w29 58 it673 (51 + i599) _ (A.length) _ _ _ (hm.tb (t := i599) (by omega)) ⟨_, git⟩ hq684 hita673 hitb673 (by omega)) (Nat.le_of_ble_eq_true rfl) ⟨(by show _ ≤ 2; omega), (by show _ ≤ 11; omega)⟩ rfl (Nat.le_of_ble_eq_true rfl) rfl ?_
                        rintro _ w31 ⟨rfl, fw31, la31, git31⟩
                        have g31_x2 := fw31.g (Or.inr (by omega)) gx
                        have fm31 := fw31.fm (q := 59) (by omega)
                        have h31 := hm.gar fw31 (by omega)
                        refine j_castS dX11_replaceTable_113 (z_w 1663 ((lwt_7_5 28).trans rfl) (by decide +kernel)) (z_isA ((h31.pr (t := i599) (by omega)).1 p684 hp684).2) ?_
                        refine j_astore (lo' := [(6, _), (0, _), (1, _), (2, _), (3, _), (4, _), (5, _)]) dX11_replaceTable_116 rfl (by decide) rfl ?_
                        refine j_aload dX11_replaceTable_118 rfl rfl ?_
                        refine j_iconst (v := 1) dX11_replaceTable_120 (by decide) ?_
                        refine j_dup2 dX11_replaceTable_121 rfl rfl ?_
                        refine j_ld dX11_replaceTable_122 g31_x2 (vp_in_nI (n := 1) (by decide) (by decide)) ?_
                        refine j_iconst (v := 1) dX11_replaceTable_123 (by decide) ?_
                        refine j_iadd dX11_replaceTable_124 ?_
                        refine j_sto (w' := _) dX11_replaceTable_125 g31_x2 (vp_in_nI (n := 1) (by decide) (by decide)) rfl ?_
                        refine j_seal hx2a ?_
                        intro w32 u32
                        have fw32 := u32.fw hx2a hx2b
                        have g32_it673 := (u32.2.1 it673 (Ne.symm n_x2_it673)).trans git31
                        have g32_x2 := u32.1
                        have h32 := h31.gar fw32 (by omega)
                        refine j_aload dX11_replaceTable_126 rfl rfl ?_
                        refine j_iconst (v := 2) dX11_replaceTable_128 (by decide) ?_
                        refine j_dup2 dX11_replaceTable_129 rfl rfl ?_
                        refine j_ld dX11_replaceTable_130 g32_x2 (vp_in_nI (n := 2) (by decide) (by decide)) ?_
                        refine j_iconst (v := 1) dX11_replaceTable_131 (by decide) ?_
                        refine j_iadd dX11_replaceTable_132 ?_
                        refine j_sto (w' := _) dX11_replaceTable_133 g32_x2 (vp_in_nI (n := 2) (by decide) (by decide)) rfl ?_
                        refine j_seal hx2a ?_
                        intro w33 u33
                        have fw33 := u33.fw hx2a hx2b
                        have g33_it673 := (u33.2.1 it673 (Ne.symm n_x2_it673)).trans g32_it673
                        have g33_x2 := u33.1
                        have h33 := h32.gar fw33 (by omega)
                        refine j_iload_n dX11_replaceTable_134 rfl ?_
                        refine j_aload dX11_replaceTable_135 rfl rfl ?_
                        refine j_iconst (v := 0) dX11_replaceTable_137 (by decide) ?_
                        refine j_ld dX11_replaceTable_138 ((h33.pr (t := i599) (by omega)).1 p684 hp684).2 (vp_in_nI (n := 0) (by decide) (by decide)) ?_
                        refine j_top (congrArg Value.int (show _ = nI x.1 from by rw [show (0 : Int32).toNatClampNeg = 0 from by decide]; exact hv0684)) ?_
                        refine j_aload dX11_replaceTable_139 rfl rfl ?_
                        refine j_iconst (v := 1) dX11_replaceTable_141 (by decide) ?_
                        refine j_ld dX11_replaceTable_142 ((h33.pr (t := i599) (by omega)).1 p684 hp684).2 (vp_in_nI (n := 1) (by decide) (by decide)) ?_
                        refine j_top (congrArg Value.int (show _ = x.2 from by rw [show (1 : Int32).toNatClampNeg = 1 from by decide]; exact hv1684)) ?_
                        refine j_iload_n dX11_replaceTable_143 rfl ?_
                        refine j_callS dX11_replaceTable_144 kX11_rule lX11_115 stX11_rule (cm_rule_r hl w33 _ _ _ _ (hv _ List.mem_cons_self).2 (sp_vl (by assumption)).2) (Nat.le_of_ble_eq_true rfl) ⟨(by show _ ≤ 2; omega), (by show _ ≤ 11; omega)⟩ rfl (Nat.le_of_ble_eq_true rfl) rfl rfl (fun _ _ h => h.elim) ?_
                        rintro _ _ ⟨⟨rfl, hq692⟩ | ⟨y692, rfl, hq692, hne692⟩, hw692⟩
                        · refine j_w w33 hw692 ?_
                          refine j_istore (lo' := [(7, _), (6, _), (0, _), (1, _), (2, _), (3, _), (4, _), (5, _)]) dX11_replaceTable_147 (by decide) rfl ?_
                          refine j_iload dX11_replaceTable_149 rfl ?_
                          refine j_ldc dX11_replaceTable_151 kcX11_67 ?_
                          refine j_icmp_ne (tgt := 161) dX11_replaceTable_153 (by decide) (fun c_153_626 => ?_) (fun c_153_626 => ?_)
                          · exact absurd c_153_626 (by decide)
                          · refine j_aload_n dX11_replaceTable_156 rfl rfl ?_
                            refine j_callV (q := (RX11, TX11, 8)) dX11_replaceTable_157 kX11_nine lX11_105 inX11_nine seX11_nine h33.m rfl (cm_nine hl w33 _ h33) (Nat.le_of_ble_eq_true rfl) ⟨(by show _ ≤ 2; omega), (by show _ ≤ 11; omega)⟩ rfl (Nat.le_of_ble_eq_true rfl) rfl rfl (fun _ _ h => h.elim) ?_
                            rintro _ w34 ⟨rfl, fm34, h34⟩
                            have g34_it673 := fm34.g hita673 (by rw [hitb673]; decide) g33_it673
                            have g34_x2 := fm34.g hx2a (by rw [hx2b]; decide) g33_x2
                            have R34 := hR.ni
                            refine j_iret dX11_replaceTable_160 rfl rfl ?_ (by show _ ≤ 2; omega) (by show _ ≤ 11; omega)
                            refine cast (congrFun (congrFun hQ9 _) _) ?_
                            rw [sp_rtN hq692] at he
                            try rw [ei599]
                            refine ⟨_, _, rfl, ((((hfm.tr fm31).tr (fw32.fm (q := 59) (by omega))).tr (fw33.fm (q := 59) (by omega))).tr (fm34.le (q' := 59) (by decide))), h34, sp_X0 ?_ hth (by unfold sp_ctbS; rw [← he]; have e := R34; rw [sp_tcn hb54] at e; show sp_MR (sp_nine (sp_tc (sp_uT S _ _) _ _)) _; rw [sp_tcn hb54]; exact e) (by rw [← he]; rfl)⟩
                            first | (first | (refine sp_k32_0 ?_ ?_ <;> (first | (with_reducible assumption) | (refine Or.inl ?_; (with_reducible assumption)) | (refine Or.inr ?_; (with_reducible assumption)) | (refine Or.inr (Or.inl ?_); (with_reducible assumption)) | (refine Or.inr (Or.inr ?_); (with_reducible assumption)) | (refine Or.inr (Or.inr (Or.inl ?_)); (with_reducible assumption)) | (refine Or.inr (Or.inr (Or.inr ?_)); (with_reducible assumption)) | (refine fun z => Or.elim z ?_ ?_ <;> (with_reducible assumption)) | (refine fun z => Or.elim z ?_ (fun z => Or.elim z ?_ ?_) <;> (with_reducible assumption)) | (refine fun z => Or.elim z ?_ (fun z => Or.elim z ?_ (fun z => Or.elim z ?_ ?_)) <;> (with_reducible assumption)) | (refine fun z => Or.elim z (fun z9 => z9 ?_) ?_ <;> (first | (with_reducible assumption) | (refine Or.inl ?_; (with_reducible assumption)) | (refine Or.inr (Or.inl ?_); (with_reducible assumption)) | (refine Or.inr (Or.inr ?_); (with_reducible assumption)) | (refine Or.inr (Or.inr (Or.inl ?_)); (with_reducible assumption)) | (refine Or.inr (Or.inr (Or.inr ?_)); (with_reducible assumption)))) | (refine Or.inl (fun z => Or.elim z ?_ (fun z => Or.elim z ?_ ?_)) <;> (with_reducible assumption)) | (refine Or.inl (fun z => Or.elim z ?_ (fun z => Or.elim z ?_ (fun z => Or.elim z ?_ ?_))) <;> (with_reducible assumption))))) | (first | (refine sp_k32_0 ?_ ?_ <;> (first | assumption | (refine Or.inl ?_; assumption) | (refine Or.inr ?_; assumption) | (refine Or.inr (Or.inl ?_); assumption) | (refine Or.inr (Or.inr ?_); assumption) | (refine Or.inr (Or.inr (Or.inl ?_)); assumption) | (refine Or.inr (Or.inr (Or.inr ?_)); assumption) | (refine fun z => Or.elim z ?_ ?_ <;> assumption) | (refine fun z => Or.elim z ?_ (fun z => Or.elim z ?_ ?_) <;> assumption) | (refine fun z => Or.elim z ?_ (fun z => Or.elim z ?_ (fun z => Or.elim z ?_ ?_)) <;> assumption) | (refine fun z => Or.elim z (fun z9 => z9 ?_) ?_ <;> (first | assumption | (refine Or.inl ?_; assumption) | (refine Or.inr (Or.inl ?_); assumption) | (refine Or.inr (Or.inr ?_); assumption) | (refine Or.inr (Or.inr (Or.inl ?_)); assumption) | (refine Or.inr (Or.inr (Or.inr ?_)); assumption))) | (refine Or.inl (fun z => Or.elim z ?_ (fun z => Or.elim z ?_ ?_)) <;> assumption) | (refine Or.inl (fun z => Or.elim z ?_ (fun z => Or.elim z ?_ (fun z => Or.elim z ?_ ?_))) <;> assumption))))
                        · refine j_w w33 hw692 ?_
                          refine j_istore (lo' := [(7, _), (6, _), (0, _), (1, _), (2, _), (3, _), (4, _), (5, _)]) dX11_replaceTable_147 (by decide) rfl ?_
                          refine j_iload dX11_replaceTable_149 rfl ?_
                          refine j_ldc dX11_replaceTable_151 kcX11_67 ?_
                          refine j_icmp_ne (tgt := 161) dX11_replaceTable_153 (by decide) (fun c_153_644 => ?_) (fun c_153_644 => ?_)
                          · refine j_aload dX11_replaceTable_161 rfl rfl ?_
                            refine j_iconst (v := 1) dX11_replaceTable_163 (by decide) ?_
                            refine j_iload dX11_replaceTable_164 rfl ?_
                            refine j_sto (w' := _) dX11_replaceTable_166 ((h33.pr (t := i599) (by omega)).1 p684 hp684).2 (vp_in_nI (n := 1) (by decide) (by decide)) rfl ?_
                            have hnd : (sp_ks (A ++ x :: L2)).Nodup := hR.kd h33 (t := i599) (by omega) ((congrFun sp_tcT _).trans z_fu_self)
                            refine j_seal (((h33.pr (t := i599) (by omega)).1 p684 hp684).1.1) ?_
                            intro w35 u35
                            have hpp35 := ((h33.pr (t := i599) (by omega)).1 p684 hp684).1
                            have hpq35 := hpp35.2.1
                            have g35_it673 := (u35.2.1 it673 (by omega)).trans g33_it673
                            have g35_x2 := (u35.2.1 x2 (by omega)).trans g33_x2
                            have fw35 := u35.fw (ρ := 14 + i599) hpp35.1 hpp35.2.1
                            have h35 := h33.up14 (t0 := i599) (by omega) hp684 u35 (z_ui_ne (by decide))
                            have R35 := hR.uk (t0 := i599) (F := z_ui (z_qk _ p684) ((1 : Int32).toNatClampNeg) y692) (v := y692) h33 (by omega) hp684 (z_ui_ne (by decide)) (by rw [show (1 : Int32).toNatClampNeg = 1 from by decide]; exact z_ui_self)
                            rw [hv0684, z_cla (by omega)] at R35
                            rw [show sp_T (sp_tc (sp_uT S i599 (A ++ x :: L2)) i599 _) i599 = A ++ x :: L2 from (congrFun sp_tcT _).trans z_fu_self, sp_st_mid hnd, sp_tcu, sp_uTT] at R35
                            refine j_aload dX11_replaceTable_167 rfl rfl ?_
                            refine j_iconst (v := 3) dX11_replaceTable_169 (by decide) ?_
                            refine j_dup2 dX11_replaceTable_170 rfl rfl ?_
                            refine j_ld dX11_replaceTable_171 g35_x2 (vp_in_nI (n := 3) (by decide) (by decide)) ?_
                            refine j_iconst (v := 1) dX11_replaceTable_172 (by decide) ?_
                            refine j_iadd dX11_replaceTable_173 ?_
                            refine j_sto (w' := _) dX11_replaceTable_174 g35_x2 (vp_in_nI (n := 3) (by decide) (by decide)) rfl ?_
                            refine j_seal hx2a ?_
                            intro w36 u36
                            have fw36 := u36.fw hx2a hx2b
                            have g36_it673 := (u36.2.1 it673 (Ne.symm n_x2_it673)).trans g35_it673
                            have g36_x2 := u36.1
                            have h36 := h35.gar fw36 (by omega)
                            refine j_goto (tgt := 96) dX11_replaceTable_175 (by decide) ?_
                            refine j_widen (kc' := 2) (ks' := 11) (by omega) (by omega) ?_
                            exact j_lo2 (ih w36 _ (A ++ [(x.1, y692)]) L2 _ (z_bp (z_bp (z_bp c 1) 2) 3) _ (by rw [List.length_cons] at hf9; omega) sp_apl (by rw [sp_rtS hq692] at he; exact he) (fun p hp => hv p (List.mem_cons_of_mem _ hp)) (by rw [← sp_mid]; exact (sp_MR.bpXu hb54 R35)) (by exact hth) h36 (((((hfm.tr fm31).tr (fw32.fm (q := 59) (by omega))).tr (fw33.fm (q := 59) (by omega))).tr (fw35.fm (q := 59) (by omega))).tr (fw36.fm (q := 59) (by omega))) (by rw [List.length_append]; exact g36_it673) g36_x2) (z_q1 rfl (z_q1 rfl (z_q1 rfl (z_q1 rfl (z_q1 rfl (z_q1 rfl z_q0))))))
                          · exact absurd c_153_644 hne692
                  refine j_widen (kc' := 2) (ks' := 11) (by omega) (by omega) ?_
                  exact j_lo2 (loop96 ((sp_T S i599).length + 1) w28 _ [] (sp_T S i599) _ (z_bp (sp_C S 2) 0) _ (Nat.lt_succ_self _) sp_apl (by exact rfl) (fun p hp => ((ok.2.1 i599 (by omega)).2 p hp).2) (by rw [List.nil_append, sp_uT_id, sp_tcn hb54]; exact R2) (by exact rfl) h28 ((((fm2.le (q' := 59) (by decide)).tr (fw26.fm (q := 59) (by omega))).tr (fw27.fm (q := 59) (by omega))).tr fm28) git673 g28_x2) (z_q1 rfl (z_q1 rfl (z_q1 rfl (z_q1 rfl (z_q1 rfl (z_q1 rfl z_q0))))))
                · have hb54 : i599 = 0 := nI_inj (a := i599) (b := 0) c_54_483 (by omega) (by omega)
                  refine j_aload_n dX11_replaceTable_57 rfl rfl ?_
                  refine j_getf dX11_replaceTable_58 fX11_31 h2.m rfl ?_
                  refine j_iconst (v := 2) dX11_replaceTable_61 (by decide) ?_
                  obtain ⟨fz697, gz697, hz697⟩ := h2.co
                  refine j_aald (v := .ref (1004 + 2)) dX11_replaceTable_62 gz697 rfl rfl (vp_in_nI (n := 2) (by decide) (by decide)) (by rw [show (2 : Int32).toNatClampNeg = 2 by decide]; exact hz697 _ (by decide)) ?_
                  refine j_goto (tgt := 70) dX11_replaceTable_63 (by decide) ?_
                  refine j_astore (lo' := [(4, _), (0, _), (1, _), (2, _), (3, _)]) dX11_replaceTable_70 rfl (by decide) rfl ?_
                  refine j_aload dX11_replaceTable_72 rfl rfl ?_
                  refine j_iconst (v := 0) dX11_replaceTable_74 (by decide) ?_
                  refine j_dup2 dX11_replaceTable_75 rfl rfl ?_
                  refine j_ld dX11_replaceTable_76 (h2.cn (i := 2) (by decide)) (vp_in_nI (n := 0) (by decide) (by decide)) ?_
                  refine j_iconst (v := 1) dX11_replaceTable_77 (by decide) ?_
                  refine j_iadd dX11_replaceTable_78 ?_
                  refine j_sto (w' := _) dX11_replaceTable_79 (h2.cn (i := 2) (by decide)) (vp_in_nI (n := 0) (by decide) (by decide)) rfl ?_
                  refine j_seal (by omega) ?_
                  intro w37 u37
                  have fw37 := u37.fw (ρ := 44 + 2) (by omega) (by omega)
                  have h37 := h2.up44 (i0 := 2) (by decide) fw37 u37.1
                  rw [show (0 : Int32).toNatClampNeg = 0 by decide] at h37
                  have R37 := R2.bp (i := 2) (k := 0) (by omega) (by decide)
                  refine j_aload_n dX11_replaceTable_80 rfl rfl ?_
                  refine j_getf dX11_replaceTable_81 fX11_34 h37.m rfl ?_
                  refine j_iload_n dX11_replaceTable_84 rfl ?_
                  obtain ⟨lv701, -, lg701⟩ := z_li.cell h37.tabs
                  refine j_callV (q := (RJx4a65c, TJx4a65c, 3)) dX11_replaceTable_85 kJx4a65c_get_915e3 lX11_82 inJx4a65c_get_915e3 seJx4a65c_get_915e3 lg701 rfl (cl_get hl w37 47 1007 _ _ (i599) _ h37.tabs (z_thr3 (t := i599) (by omega))) (Nat.le_of_ble_eq_true rfl) ⟨(by show _ ≤ 2; omega), (by show _ ≤ 11; omega)⟩ rfl (Nat.le_of_ble_eq_true rfl) rfl rfl (fun _ _ h => h.elim) ?_
                  rintro _ _ ⟨rfl, hw702⟩
                  refine j_w w37 hw702 ?_
                  refine j_castS dX11_replaceTable_88 (z_w 1341 ((lwt_6_3 6).trans rfl) (by decide +kernel)) (z_li.is (h37.tb (t := i599) (by omega))) ?_
                  obtain ⟨lv705, -, lg705⟩ := z_li.cell (h37.tb (t := i599) (by omega))
                  refine j_callV (q := (RJx4a65c, TJx4a65c, 3)) dX11_replaceTable_91 kJx4a65c_iterator_32c93 lX11_162 inJx4a65c_iterator_32c93 seJx4a65c_iterator_32c93 lg705 rfl (cl_iter hl w37 58 (51 + i599) _ _ _ (h37.tb (t := i599) (by omega)) (by decide) (by omega) h37.fn) (Nat.le_of_ble_eq_true rfl) ⟨(by show _ ≤ 2; omega), (by show _ ≤ 11; omega)⟩ rfl (Nat.le_of_ble_eq_true rfl) rfl rfl (fun _ _ h => h.elim) ?_
                  rintro _ w38 ⟨it704, rfl, fw38, hita704, hitb704, hitc704, la704, git704⟩
                  have hita704 : 1000 ≤ it704 := hita704
                  have hitb704 : it704 % 64 = 58 := hitb704
                  have fm38 := fw38.fm (q := 59) (by omega)
                  have h38 := h37.gar fw38 (by omega)
                  refine j_astore (lo' := [(5, _), (4, _), (0, _), (1, _), (2, _), (3, _)]) dX11_replaceTable_94 rfl (by decide) rfl ?_
                  have loop96 : ∀ (n9 : Nat) (w39 : z_W) (s1 : z_Z) (A L : List (Nat × Int32)) (la : Int32) (c : Nat → Int32), (L.length < n9) → (A.length ≤ (A ++ L).length) → (sp_rt r n c A L = sp_ctb S i599 r n) → (∀ p ∈ L, z_vl p.2) → (sp_MR (sp_tc (sp_uT S i599 (A ++ L)) i599 c) s1) → (s1.1.1 = 0) → (z_mst w39 s1) → (z_fm 59 w w39) → (z_g w39 it704 = some (.inr (3, [.int (nI A.length), .int la, .int (z_qp s1 i599).1, .ref (1011 + i599)]))) → z_J G l mX11_replaceTable (22, 2, 11, w, Q9, (fun _ _ => False)) 96 [(0, .ref 1000), (1, .int (nI i599)), (2, .int r), (3, .int n), (4, .ref (1004 + 2)), (5, .ref it704)] [] w39 2 11 := by
                    intro n9
                    induction n9 with
                    | zero => intro w39 s1 A L la c hf9 hAl he hv hR hth hm hfm git; exact absurd hf9 (Nat.not_lt_zero _)
                    | succ n9 ih =>
                      intro w39 s1 A L la c hf9 hAl he hv hR hth hm hfm git
                      refine j_aload dX11_replaceTable_96 rfl rfl ?_
                      refine j_callF (x := ⟨"java/util/Iterator", "hasNext", "()Z"⟩) (q := (RJx35411, TJx35411, 4)) dX11_replaceTable_98 kJx35411_hasNext_aae02 ⟨(z_w 1765 ((lwt_8_1 10).trans rfl) (by decide +kernel)), (z_w 1769 ((lwt_8_1 14).trans rfl) (by decide +kernel)), inJx35411_hasNext_aae02, ⟨by decide, by decide⟩, rfl, fun U h => h.2.1⟩ git rfl (cl_hasN hl w39 _ (51 + i599) _ (A.length) _ _ (hm.tb (t := i599) (by omega)) ⟨_, git⟩ (by rw [z_rs_len, hR.tlB (by omega) ((congrFun sp_tcT _).trans z_fu_self)]; omega)) (Nat.le_of_ble_eq_true rfl) ⟨(by show _ ≤ 2; omega), (by show _ ≤ 11; omega)⟩ rfl (Nat.le_of_ble_eq_true rfl) rfl ?_
                      rintro _ _ ⟨⟨x706, rfl, hz706, hp706⟩, hw706⟩
                      refine j_w w39 hw706 ?_
                      rw [z_rs_len, hR.tlB (by omega) ((congrFun sp_tcT _).trans z_fu_self)] at hz706 hp706
                      refine j_if_eq (tgt := 178) dX11_replaceTable_103 (by decide) (fun c_103_728 => ?_) (fun c_103_728 => ?_)
                      · have hk103 : A.length = (A ++ L).length := hz706 c_103_728
                        obtain rfl : L = [] := List.eq_nil_of_length_eq_zero (by rw [List.length_append] at hk103; omega)
                        refine j_aload dX11_replaceTable_178 rfl rfl ?_
                        refine j_iconst (v := 1) dX11_replaceTable_180 (by decide) ?_
                        refine j_dup2 dX11_replaceTable_181 rfl rfl ?_
                        refine j_ld dX11_replaceTable_182 (hm.cn (i := 2) (by decide)) (vp_in_nI (n := 1) (by decide) (by decide)) ?_
                        refine j_iconst (v := 1) dX11_replaceTable_183 (by decide) ?_
                        refine j_iadd dX11_replaceTable_184 ?_
                        refine j_sto (w' := _) dX11_replaceTable_185 (hm.cn (i := 2) (by decide)) (vp_in_nI (n := 1) (by decide) (by decide)) rfl ?_
                        refine j_seal (by omega) ?_
                        intro w40 u40
                        have fw40 := u40.fw (ρ := 44 + 2) (by omega) (by omega)
                        have g40_it704 := (fun z => (u40.2.1 it704 (fun z9 => by have h9 := hitb704; rw [z9] at h9; omega)).trans z) git
                        have h40 := hm.up44 (i0 := 2) (by decide) fw40 u40.1
                        rw [show (1 : Int32).toNatClampNeg = 1 by decide] at h40
                        have R40 := sp_MR.bpTu (k := 1) hb54 hR (by decide)
                        refine j_aload_n dX11_replaceTable_186 rfl rfl ?_
                        refine j_getf dX11_replaceTable_187 fX11_34 h40.m rfl ?_
                        refine j_iload_n dX11_replaceTable_190 rfl ?_
                        obtain ⟨lv710, -, lg710⟩ := z_li.cell h40.tabs
                        refine j_callV (q := (RJx4a65c, TJx4a65c, 3)) dX11_replaceTable_191 kJx4a65c_get_915e3 lX11_82 inJx4a65c_get_915e3 seJx4a65c_get_915e3 lg710 rfl (cl_get hl w40 47 1007 _ _ (i599) _ h40.tabs (z_thr3 (t := i599) (by omega))) (Nat.le_of_ble_eq_true rfl) ⟨(by show _ ≤ 2; omega), (by show _ ≤ 11; omega)⟩ rfl (Nat.le_of_ble_eq_true rfl) rfl rfl (fun _ _ h => h.elim) ?_
                        rintro _ _ ⟨rfl, hw711⟩
                        refine j_w w40 hw711 ?_
                        refine j_castS dX11_replaceTable_194 (z_w 1341 ((lwt_6_3 6).trans rfl) (by decide +kernel)) (z_li.is (h40.tb (t := i599) (by omega))) ?_
                        obtain ⟨lv713, -, lg713⟩ := z_li.cell (h40.tb (t := i599) (by omega))
                        refine j_callV (q := (RJx4a65c, TJx4a65c, 3)) dX11_replaceTable_197 kJx4a65c_size_8abf5 lX11_86 inJx4a65c_size_8abf5 seJx4a65c_size_8abf5 lg713 rfl (cl_sizeT hl w40 (i599) ((A ++ [])) h40 R40 (by omega) ((congrFun sp_tcT _).trans z_fu_self)) (Nat.le_of_ble_eq_true rfl) ⟨(by show _ ≤ 2; omega), (by show _ ≤ 11; omega)⟩ rfl (Nat.le_of_ble_eq_true rfl) rfl rfl (fun _ _ h => h.elim) ?_
                        rintro _ _ ⟨rfl, hw714⟩
                        refine j_w w40 hw714 ?_
                        have hz714 : ((A ++ [])).length ≤ 20 := R40.l20 h40 (t := i599) (by omega) ((congrFun sp_tcT _).trans z_fu_self)
                        refine j_iret dX11_replaceTable_200 rfl rfl ?_ (by show _ ≤ 2; omega) (by show _ ≤ 11; omega)
                        refine cast (congrFun (congrFun hQ9 _) _) ?_
                        rw [List.append_nil] at R40
                        try rw [ei599]
                        refine ⟨_, _, rfl, (hfm.tr (fw40.fm (q := 59) (by omega))), h40, sp_X0 ?_ hth (by unfold sp_ctbS; rw [← he]; exact R40) (by rw [← he, List.append_nil]; rfl)⟩
                        first | (first | (refine sp_k32_0 ?_ ?_ <;> (first | (with_reducible assumption) | (refine Or.inl ?_; (with_reducible assumption)) | (refine Or.inr ?_; (with_reducible assumption)) | (refine Or.inr (Or.inl ?_); (with_reducible assumption)) | (refine Or.inr (Or.inr ?_); (with_reducible assumption)) | (refine Or.inr (Or.inr (Or.inl ?_)); (with_reducible assumption)) | (refine Or.inr (Or.inr (Or.inr ?_)); (with_reducible assumption)) | (refine fun z => Or.elim z ?_ ?_ <;> (with_reducible assumption)) | (refine fun z => Or.elim z ?_ (fun z => Or.elim z ?_ ?_) <;> (with_reducible assumption)) | (refine fun z => Or.elim z ?_ (fun z => Or.elim z ?_ (fun z => Or.elim z ?_ ?_)) <;> (with_reducible assumption)) | (refine fun z => Or.elim z (fun z9 => z9 ?_) ?_ <;> (first | (with_reducible assumption) | (refine Or.inl ?_; (with_reducible assumption)) | (refine Or.inr (Or.inl ?_); (with_reducible assumption)) | (refine Or.inr (Or.inr ?_); (with_reducible assumption)) | (refine Or.inr (Or.inr (Or.inl ?_)); (with_reducible assumption)) | (refine Or.inr (Or.inr (Or.inr ?_)); (with_reducible assumption)))) | (refine Or.inl (fun z => Or.elim z ?_ (fun z => Or.elim z ?_ ?_)) <;> (with_reducible assumption)) | (refine Or.inl (fun z => Or.elim z ?_ (fun z => Or.elim z ?_ (fun z => Or.elim z ?_ ?_))) <;> (with_reducible assumption))))) | (first | (refine sp_k32_0 ?_ ?_ <;> (first | assumption | (refine Or.inl ?_; assumption) | (refine Or.inr ?_; assumption) | (refine Or.inr (Or.inl ?_); assumption) | (refine Or.inr (Or.inr ?_); assumption) | (refine Or.inr (Or.inr (Or.inl ?_)); assumption) | (refine Or.inr (Or.inr (Or.inr ?_)); assumption) | (refine fun z => Or.elim z ?_ ?_ <;> assumption) | (refine fun z => Or.elim z ?_ (fun z => Or.elim z ?_ ?_) <;> assumption) | (refine fun z => Or.elim z ?_ (fun z => Or.elim z ?_ (fun z => Or.elim z ?_ ?_)) <;> assumption) | (refine fun z => Or.elim z (fun z9 => z9 ?_) ?_ <;> (first | assumption | (refine Or.inl ?_; assumption) | (refine Or.inr (Or.inl ?_); assumption) | (refine Or.inr (Or.inr ?_); assumption) | (refine Or.inr (Or.inr (Or.inl ?_)); assumption) | (refine Or.inr (Or.inr (Or.inr ?_)); assumption))) | (refine Or.inl (fun z => Or.elim z ?_ (fun z => Or.elim z ?_ ?_)) <;> assumption) | (refine Or.inl (fun z => Or.elim z ?_ (fun z => Or.elim z ?_ (fun z => Or.elim z ?_ ?_))) <;> assumption))))
                      · have hk103 : A.length < (A ++ L).length := hp706 c_103_728
                        obtain ⟨x, L2, rfl⟩ : ∃ x L2, L = x :: L2 := by
                          cases L with
                          | nil => rw [List.append_nil] at hk103; exact absurd hk103 (Nat.lt_irrefl _)
                          | cons x L2 => exact ⟨x, L2, rfl⟩
                        refine j_aload dX11_replaceTable_106 rfl rfl ?_
                        obtain ⟨p715, hp715, hq715, hk715, hv0715, hv1715, hv2715⟩ := hR.prB hm (t := i599) (k := A.length) (by omega) ((congrFun sp_tcT _).trans z_fu_self) sp_mid?
                        refine j_callF (x := ⟨"java/util/Iterator", "next", "()Ljava/lang/Object;"⟩) (q := (RJx35411, TJx35411, 4)) dX11_replaceTable_108 kJx35411_next_0502b ⟨(z_w 1775 ((lwt_8_1 20).trans rfl) (by decide +kernel)), (z_w 1778 ((lwt_8_1 23).trans rfl) (by decide +kernel)), inJx35411_next_0502b, ⟨by decide, by decide⟩, rfl, fun U h => h.2.2.1⟩ git rfl (cl_next hl w39 58 it704 (51 + i599) _ (A.length) _ _ _ (hm.tb (t := i599) (by omega)) ⟨_, git⟩ hq715 hita704 hitb704 (by omega)) (Nat.le_of_ble_eq_true rfl) ⟨(by show _ ≤ 2; omega), (by show _ ≤ 11; omega)⟩ rfl (Nat.le_of_ble_eq_true rfl) rfl ?_
                        rintro _ w41 ⟨rfl, fw41, la41, git41⟩
                        have fm41 := fw41.fm (q := 59) (by omega)
                        have h41 := hm.gar fw41 (by omega)
                        refine j_castS dX11_replaceTable_113 (z_w 1663 ((lwt_7_5 28).trans rfl) (by decide +kernel)) (z_isA ((h41.pr (t := i599) (by omega)).1 p715 hp715).2) ?_
                        refine j_astore (lo' := [(6, _), (0, _), (1, _), (2, _), (3, _), (4, _), (5, _)]) dX11_replaceTable_116 rfl (by decide) rfl ?_
                        refine j_aload dX11_replaceTable_118 rfl rfl ?_
                        refine j_iconst (v := 1) dX11_replaceTable_120 (by decide) ?_
                        refine j_dup2 dX11_replaceTable_121 rfl rfl ?_
                        refine j_ld dX11_replaceTable_122 (h41.cn (i := 2) (by decide)) (vp_in_nI (n := 1) (by decide) (by decide)) ?_
                        refine j_iconst (v := 1) dX11_replaceTable_123 (by decide) ?_
                        refine j_iadd dX11_replaceTable_124 ?_
                        refine j_sto (w' := _) dX11_replaceTable_125 (h41.cn (i := 2) (by decide)) (vp_in_nI (n := 1) (by decide) (by decide)) rfl ?_
                        refine j_seal (by omega) ?_
                        intro w42 u42
                        have fw42 := u42.fw (ρ := 44 + 2) (by omega) (by omega)
                        have g42_it704 := (fun z => (u42.2.1 it704 (fun z9 => by have h9 := hitb704; rw [z9] at h9; omega)).trans z) git41
                        have h42 := h41.up44 (i0 := 2) (by decide) fw42 u42.1
                        rw [show (1 : Int32).toNatClampNeg = 1 by decide] at h42
                        have R42 := sp_MR.bpTu (k := 1) hb54 hR (by decide)
                        refine j_aload dX11_replaceTable_126 rfl rfl ?_
                        refine j_iconst (v := 2) dX11_replaceTable_128 (by decide) ?_
                        refine j_dup2 dX11_replaceTable_129 rfl rfl ?_
                        refine j_ld dX11_replaceTable_130 (h42.cn (i := 2) (by decide)) (vp_in_nI (n := 2) (by decide) (by decide)) ?_
                        refine j_iconst (v := 1) dX11_replaceTable_131 (by decide) ?_
                        refine j_iadd dX11_replaceTable_132 ?_
                        refine j_sto (w' := _) dX11_replaceTable_133 (h42.cn (i := 2) (by decide)) (vp_in_nI (n := 2) (by decide) (by decide)) rfl ?_
                        refine j_seal (by omega) ?_
                        intro w43 u43
                        have fw43 := u43.fw (ρ := 44 + 2) (by omega) (by omega)
                        have g43_it704 := (fun z => (u43.2.1 it704 (fun z9 => by have h9 := hitb704; rw [z9] at h9; omega)).trans z) g42_it704
                        have h43 := h42.up44 (i0 := 2) (by decide) fw43 u43.1
                        rw [show (2 : Int32).toNatClampNeg = 2 by decide] at h43
                        have R43 := sp_MR.bpTu (k := 2) hb54 R42 (by decide)
                        refine j_iload_n dX11_replaceTable_134 rfl ?_
                        refine j_aload dX11_replaceTable_135 rfl rfl ?_
                        refine j_iconst (v := 0) dX11_replaceTable_137 (by decide) ?_
                        refine j_ld dX11_replaceTable_138 ((h43.pr (t := i599) (by omega)).1 p715 hp715).2 (vp_in_nI (n := 0) (by decide) (by decide)) ?_
                        refine j_top (congrArg Value.int (show _ = nI x.1 from by rw [show (0 : Int32).toNatClampNeg = 0 from by decide]; exact hv0715)) ?_
                        refine j_aload dX11_replaceTable_139 rfl rfl ?_
                        refine j_iconst (v := 1) dX11_replaceTable_141 (by decide) ?_
                        refine j_ld dX11_replaceTable_142 ((h43.pr (t := i599) (by omega)).1 p715 hp715).2 (vp_in_nI (n := 1) (by decide) (by decide)) ?_
                        refine j_top (congrArg Value.int (show _ = x.2 from by rw [show (1 : Int32).toNatClampNeg = 1 from by decide]; exact hv1715)) ?_
                        refine j_iload_n dX11_replaceTable_143 rfl ?_
                        refine j_callS dX11_replaceTable_144 kX11_rule lX11_115 stX11_rule (cm_rule_r hl w43 _ _ _ _ (hv _ List.mem_cons_self).2 (sp_vl (by assumption)).2) (Nat.le_of_ble_eq_true rfl) ⟨(by show _ ≤ 2; omega), (by show _ ≤ 11; omega)⟩ rfl (Nat.le_of_ble_eq_true rfl) rfl rfl (fun _ _ h => h.elim) ?_
                        rintro _ _ ⟨⟨rfl, hq723⟩ | ⟨y723, rfl, hq723, hne723⟩, hw723⟩
                        · refine j_w w43 hw723 ?_
                          refine j_istore (lo' := [(7, _), (6, _), (0, _), (1, _), (2, _), (3, _), (4, _), (5, _)]) dX11_replaceTable_147 (by decide) rfl ?_
                          refine j_iload dX11_replaceTable_149 rfl ?_
                          refine j_ldc dX11_replaceTable_151 kcX11_67 ?_
                          refine j_icmp_ne (tgt := 161) dX11_replaceTable_153 (by decide) (fun c_153_821 => ?_) (fun c_153_821 => ?_)
                          · exact absurd c_153_821 (by decide)
                          · refine j_aload_n dX11_replaceTable_156 rfl rfl ?_
                            refine j_callV (q := (RX11, TX11, 8)) dX11_replaceTable_157 kX11_nine lX11_105 inX11_nine seX11_nine h43.m rfl (cm_nine hl w43 _ h43) (Nat.le_of_ble_eq_true rfl) ⟨(by show _ ≤ 2; omega), (by show _ ≤ 11; omega)⟩ rfl (Nat.le_of_ble_eq_true rfl) rfl rfl (fun _ _ h => h.elim) ?_
                            rintro _ w44 ⟨rfl, fm44, h44⟩
                            have g44_it704 := fm44.g hita704 (by rw [hitb704]; decide) g43_it704
                            have R44 := R43.ni
                            refine j_iret dX11_replaceTable_160 rfl rfl ?_ (by show _ ≤ 2; omega) (by show _ ≤ 11; omega)
                            refine cast (congrFun (congrFun hQ9 _) _) ?_
                            rw [sp_rtN hq723] at he
                            try rw [ei599]
                            refine ⟨_, _, rfl, ((((hfm.tr fm41).tr (fw42.fm (q := 59) (by omega))).tr (fw43.fm (q := 59) (by omega))).tr (fm44.le (q' := 59) (by decide))), h44, sp_X0 ?_ hth (by unfold sp_ctbS; rw [← he]; exact R44) (by rw [← he]; rfl)⟩
                            first | (first | (refine sp_k32_0 ?_ ?_ <;> (first | (with_reducible assumption) | (refine Or.inl ?_; (with_reducible assumption)) | (refine Or.inr ?_; (with_reducible assumption)) | (refine Or.inr (Or.inl ?_); (with_reducible assumption)) | (refine Or.inr (Or.inr ?_); (with_reducible assumption)) | (refine Or.inr (Or.inr (Or.inl ?_)); (with_reducible assumption)) | (refine Or.inr (Or.inr (Or.inr ?_)); (with_reducible assumption)) | (refine fun z => Or.elim z ?_ ?_ <;> (with_reducible assumption)) | (refine fun z => Or.elim z ?_ (fun z => Or.elim z ?_ ?_) <;> (with_reducible assumption)) | (refine fun z => Or.elim z ?_ (fun z => Or.elim z ?_ (fun z => Or.elim z ?_ ?_)) <;> (with_reducible assumption)) | (refine fun z => Or.elim z (fun z9 => z9 ?_) ?_ <;> (first | (with_reducible assumption) | (refine Or.inl ?_; (with_reducible assumption)) | (refine Or.inr (Or.inl ?_); (with_reducible assumption)) | (refine Or.inr (Or.inr ?_); (with_reducible assumption)) | (refine Or.inr (Or.inr (Or.inl ?_)); (with_reducible assumption)) | (refine Or.inr (Or.inr (Or.inr ?_)); (with_reducible assumption)))) | (refine Or.inl (fun z => Or.elim z ?_ (fun z => Or.elim z ?_ ?_)) <;> (with_reducible assumption)) | (refine Or.inl (fun z => Or.elim z ?_ (fun z => Or.elim z ?_ (fun z => Or.elim z ?_ ?_))) <;> (with_reducible assumption))))) | (first | (refine sp_k32_0 ?_ ?_ <;> (first | assumption | (refine Or.inl ?_; assumption) | (refine Or.inr ?_; assumption) | (refine Or.inr (Or.inl ?_); assumption) | (refine Or.inr (Or.inr ?_); assumption) | (refine Or.inr (Or.inr (Or.inl ?_)); assumption) | (refine Or.inr (Or.inr (Or.inr ?_)); assumption) | (refine fun z => Or.elim z ?_ ?_ <;> assumption) | (refine fun z => Or.elim z ?_ (fun z => Or.elim z ?_ ?_) <;> assumption) | (refine fun z => Or.elim z ?_ (fun z => Or.elim z ?_ (fun z => Or.elim z ?_ ?_)) <;> assumption) | (refine fun z => Or.elim z (fun z9 => z9 ?_) ?_ <;> (first | assumption | (refine Or.inl ?_; assumption) | (refine Or.inr (Or.inl ?_); assumption) | (refine Or.inr (Or.inr ?_); assumption) | (refine Or.inr (Or.inr (Or.inl ?_)); assumption) | (refine Or.inr (Or.inr (Or.inr ?_)); assumption))) | (refine Or.inl (fun z => Or.elim z ?_ (fun z => Or.elim z ?_ ?_)) <;> assumption) | (refine Or.inl (fun z => Or.elim z ?_ (fun z => Or.elim z ?_ (fun z => Or.elim z ?_ ?_))) <;> assumption))))
                        · refine j_w w43 hw723 ?_
                          refine j_istore (lo' := [(7, _), (6, _), (0, _), (1, _), (2, _), (3, _), (4, _), (5, _)]) dX11_replaceTable_147 (by decide) rfl ?_
                          refine j_iload dX11_replaceTable_149 rfl ?_
                          refine j_ldc dX11_replaceTable_151 kcX11_67 ?_
                          refine j_icmp_ne (tgt := 161) dX11_replaceTable_153 (by decide) (fun c_153_838 => ?_) (fun c_153_838 => ?_)
                          · refine j_aload dX11_replaceTable_161 rfl rfl ?_
                            refine j_iconst (v := 1) dX11_replaceTable_163 (by decide) ?_
                            refine j_iload dX11_replaceTable_164 rfl ?_
                            refine j_sto (w' := _) dX11_replaceTable_166 ((h43.pr (t := i599) (by omega)).1 p715 hp715).2 (vp_in_nI (n := 1) (by decide) (by decide)) rfl ?_
                            have hnd : (sp_ks (A ++ x :: L2)).Nodup := R43.kd h43 (t := i599) (by omega) ((congrFun sp_tcT _).trans z_fu_self)
                            refine j_seal (((h43.pr (t := i599) (by omega)).1 p715 hp715).1.1) ?_
                            intro w45 u45
                            have hpp45 := ((h43.pr (t := i599) (by omega)).1 p715 hp715).1
                            have hpq45 := hpp45.2.1
                            have g45_it704 := (u45.2.1 it704 (by omega)).trans g43_it704
                            have fw45 := u45.fw (ρ := 14 + i599) hpp45.1 hpp45.2.1
                            have h45 := h43.up14 (t0 := i599) (by omega) hp715 u45 (z_ui_ne (by decide))
                            have R45 := R43.uk (t0 := i599) (F := z_ui (z_qk _ p715) ((1 : Int32).toNatClampNeg) y723) (v := y723) h43 (by omega) hp715 (z_ui_ne (by decide)) (by rw [show (1 : Int32).toNatClampNeg = 1 from by decide]; exact z_ui_self)
                            rw [hv0715, z_cla (by omega)] at R45
                            rw [show sp_T (sp_tc (sp_uT S i599 (A ++ x :: L2)) i599 _) i599 = A ++ x :: L2 from (congrFun sp_tcT _).trans z_fu_self, sp_st_mid hnd, sp_tcu, sp_uTT] at R45
                            refine j_aload dX11_replaceTable_167 rfl rfl ?_
                            refine j_iconst (v := 3) dX11_replaceTable_169 (by decide) ?_
                            refine j_dup2 dX11_replaceTable_170 rfl rfl ?_
                            refine j_ld dX11_replaceTable_171 (h45.cn (i := 2) (by decide)) (vp_in_nI (n := 3) (by decide) (by decide)) ?_
                            refine j_iconst (v := 1) dX11_replaceTable_172 (by decide) ?_
                            refine j_iadd dX11_replaceTable_173 ?_
                            refine j_sto (w' := _) dX11_replaceTable_174 (h45.cn (i := 2) (by decide)) (vp_in_nI (n := 3) (by decide) (by decide)) rfl ?_
                            refine j_seal (by omega) ?_
                            intro w46 u46
                            have fw46 := u46.fw (ρ := 44 + 2) (by omega) (by omega)
                            have g46_it704 := (fun z => (u46.2.1 it704 (fun z9 => by have h9 := hitb704; rw [z9] at h9; omega)).trans z) g45_it704
                            have h46 := h45.up44 (i0 := 2) (by decide) fw46 u46.1
                            rw [show (3 : Int32).toNatClampNeg = 3 by decide] at h46
                            have R46 := sp_MR.bpTu (k := 3) hb54 R45 (by decide)
                            refine j_goto (tgt := 96) dX11_replaceTable_175 (by decide) ?_
                            refine j_widen (kc' := 2) (ks' := 11) (by omega) (by omega) ?_
                            exact j_lo2 (ih w46 _ (A ++ [(x.1, y723)]) L2 _ (z_bp (z_bp (z_bp c 1) 2) 3) (by rw [List.length_cons] at hf9; omega) sp_apl (by rw [sp_rtS hq723] at he; exact he) (fun p hp => hv p (List.mem_cons_of_mem _ hp)) (by rw [← sp_mid]; exact R46) (by exact hth) h46 (((((hfm.tr fm41).tr (fw42.fm (q := 59) (by omega))).tr (fw43.fm (q := 59) (by omega))).tr (fw45.fm (q := 59) (by omega))).tr (fw46.fm (q := 59) (by omega))) (by rw [List.length_append]; exact g46_it704)) (z_q1 rfl (z_q1 rfl (z_q1 rfl (z_q1 rfl (z_q1 rfl (z_q1 rfl z_q0))))))
                          · exact absurd c_153_838 hne723
                  refine j_widen (kc' := 2) (ks' := 11) (by omega) (by omega) ?_
                  exact j_lo2 (loop96 ((sp_T S i599).length + 1) w38 _ [] (sp_T S i599) _ (z_bp (sp_C S 2) 0) (Nat.lt_succ_self _) sp_apl (by exact rfl) (fun p hp => ((ok.2.1 i599 (by omega)).2 p hp).2) (by rw [List.nil_append, sp_uT_id, sp_tc0 hb54]; exact R37) (by exact rfl) h38 (((fm2.le (q' := 59) (by decide)).tr (fw37.fm (q := 59) (by omega))).tr fm38) git704) (z_q1 rfl (z_q1 rfl (z_q1 rfl (z_q1 rfl (z_q1 rfl (z_q1 rfl z_q0))))))
              · exact absurd c_48_481 (by decide)
            · exact absurd c_36_475 (by decide)
        · refine j_iload_n dX11_replaceTable_22 rfl ?_
          refine j_iconst (v := 4) dX11_replaceTable_23 (by decide) ?_
          refine j_icmp_eq (tgt := 32) dX11_replaceTable_24 (by decide) (fun c_24_878 => ?_) (fun c_24_878 => ?_)
          · refine j_iload_n dX11_replaceTable_32 rfl ?_
            refine j_callS dX11_replaceTable_33 kX11_isNoValue lX11_79 stX11_isNoValue (cm_isNoValue_r hl w2 _) (Nat.le_of_ble_eq_true rfl) ⟨(by show _ ≤ 2; omega), (by show _ ≤ 11; omega)⟩ rfl (Nat.le_of_ble_eq_true rfl) rfl rfl (fun _ _ h => h.elim) ?_
            rintro _ _ ⟨⟨rfl, hno728⟩ | ⟨rfl, hye728⟩, hw728⟩
            · refine j_w w2 hw728 ?_
              refine j_if_eq (tgt := 43) dX11_replaceTable_36 (by decide) (fun c_36_883 => ?_) (fun c_36_883 => ?_)
              · exact absurd c_36_883 (by decide)
              · refine j_iconst (v := 1) dX11_replaceTable_39 (by decide) ?_
                refine j_goto (tgt := 44) dX11_replaceTable_40 (by decide) ?_
                refine j_iconst (v := 2) dX11_replaceTable_44 (by decide) ?_
                refine j_callV (q := (RX11, TX11, 8)) dX11_replaceTable_45 kX11_refuse lX11_52 inX11_refuse seX11_refuse h2.m rfl (cm_refuse1 hl w2 _ _ h2 rfl (by decide)) (Nat.le_of_ble_eq_true rfl) ⟨(by show _ ≤ 2; omega), (by show _ ≤ 11; omega)⟩ rfl (Nat.le_of_ble_eq_true rfl) rfl rfl (fun _ _ h => h.elim) ?_
                rintro _ w47 ⟨rfl, fm47, h47⟩
                have R47 := R2.th (k := 2)
                refine j_if_eq (tgt := 53) dX11_replaceTable_48 (by decide) (fun c_48_891 => ?_) (fun c_48_891 => ?_)
                · exact absurd c_48_891 (by decide)
                · refine j_iconst (v := 0) dX11_replaceTable_51 (by decide) ?_
                  refine j_iret dX11_replaceTable_52 rfl rfl ?_ (by show _ ≤ 2; omega) (by show _ ≤ 11; omega)
                  refine cast (congrFun (congrFun hQ9 _) _) ?_
                  try rw [ei599]
                  refine ⟨_, _, rfl, ((fm2.le (q' := 59) (by decide)).tr (fm47.le (q' := 59) (by decide))), h47, sp_X1 (k := 2) ?_ (by decide) rfl R47⟩
                  first | (first | (refine sp_k32_2 ?_ ?_ <;> (first | (with_reducible assumption) | (refine Or.inl ?_; (with_reducible assumption)) | (refine Or.inr ?_; (with_reducible assumption)) | (refine Or.inr (Or.inl ?_); (with_reducible assumption)) | (refine Or.inr (Or.inr ?_); (with_reducible assumption)) | (refine Or.inr (Or.inr (Or.inl ?_)); (with_reducible assumption)) | (refine Or.inr (Or.inr (Or.inr ?_)); (with_reducible assumption)) | (refine fun z => Or.elim z ?_ ?_ <;> (with_reducible assumption)) | (refine fun z => Or.elim z ?_ (fun z => Or.elim z ?_ ?_) <;> (with_reducible assumption)) | (refine fun z => Or.elim z ?_ (fun z => Or.elim z ?_ (fun z => Or.elim z ?_ ?_)) <;> (with_reducible assumption)) | (refine fun z => Or.elim z (fun z9 => z9 ?_) ?_ <;> (first | (with_reducible assumption) | (refine Or.inl ?_; (with_reducible assumption)) | (refine Or.inr (Or.inl ?_); (with_reducible assumption)) | (refine Or.inr (Or.inr ?_); (with_reducible assumption)) | (refine Or.inr (Or.inr (Or.inl ?_)); (with_reducible assumption)) | (refine Or.inr (Or.inr (Or.inr ?_)); (with_reducible assumption)))) | (refine Or.inl (fun z => Or.elim z ?_ (fun z => Or.elim z ?_ ?_)) <;> (with_reducible assumption)) | (refine Or.inl (fun z => Or.elim z ?_ (fun z => Or.elim z ?_ (fun z => Or.elim z ?_ ?_))) <;> (with_reducible assumption))))) | (first | (refine sp_k32_2 ?_ ?_ <;> (first | assumption | (refine Or.inl ?_; assumption) | (refine Or.inr ?_; assumption) | (refine Or.inr (Or.inl ?_); assumption) | (refine Or.inr (Or.inr ?_); assumption) | (refine Or.inr (Or.inr (Or.inl ?_)); assumption) | (refine Or.inr (Or.inr (Or.inr ?_)); assumption) | (refine fun z => Or.elim z ?_ ?_ <;> assumption) | (refine fun z => Or.elim z ?_ (fun z => Or.elim z ?_ ?_) <;> assumption) | (refine fun z => Or.elim z ?_ (fun z => Or.elim z ?_ (fun z => Or.elim z ?_ ?_)) <;> assumption) | (refine fun z => Or.elim z (fun z9 => z9 ?_) ?_ <;> (first | assumption | (refine Or.inl ?_; assumption) | (refine Or.inr (Or.inl ?_); assumption) | (refine Or.inr (Or.inr ?_); assumption) | (refine Or.inr (Or.inr (Or.inl ?_)); assumption) | (refine Or.inr (Or.inr (Or.inr ?_)); assumption))) | (refine Or.inl (fun z => Or.elim z ?_ (fun z => Or.elim z ?_ ?_)) <;> assumption) | (refine Or.inl (fun z => Or.elim z ?_ (fun z => Or.elim z ?_ (fun z => Or.elim z ?_ ?_))) <;> assumption))))
            · refine j_w w2 hw728 ?_
              refine j_if_eq (tgt := 43) dX11_replaceTable_36 (by decide) (fun c_36_900 => ?_) (fun c_36_900 => ?_)
              · refine j_iconst (v := 0) dX11_replaceTable_43 (by decide) ?_
                refine j_iconst (v := 2) dX11_replaceTable_44 (by decide) ?_
                refine j_callV (q := (RX11, TX11, 8)) dX11_replaceTable_45 kX11_refuse lX11_52 inX11_refuse seX11_refuse h2.m rfl (cm_refuse0 hl w2 _ _ h2 rfl) (Nat.le_of_ble_eq_true rfl) ⟨(by show _ ≤ 2; omega), (by show _ ≤ 11; omega)⟩ rfl (Nat.le_of_ble_eq_true rfl) rfl rfl (fun _ _ h => h.elim) ?_
                rintro _ _ ⟨rfl, hw729⟩
                refine j_w w2 hw729 ?_
                refine j_if_eq (tgt := 53) dX11_replaceTable_48 (by decide) (fun c_48_906 => ?_) (fun c_48_906 => ?_)
                · refine j_iload_n dX11_replaceTable_53 rfl ?_
                  refine j_if_ne (tgt := 66) dX11_replaceTable_54 (by decide) (fun c_54_908 => ?_) (fun c_54_908 => ?_)
                  · have hb54 : ¬ i599 = 0 := fun z => c_54_908 (show nI i599 = nI 0 by rw [z])
                    refine j_bipush (v := 7) dX11_replaceTable_66 (by decide) ?_
                    obtain ⟨x3, hx3a, hx3b, hx3c⟩ := z_fresh (57) (by decide) h2.fn
                    refine j_newa (kd := 0) (N := 7) (w' := _) (n := x3) dX11_replaceTable_68 rfl rfl arc_int ⟨rfl, fun _ _ h => h⟩ (by decide) rfl (by decide) rfl (z_alW hx3c hx3a) (Nat.le_of_ble_eq_true rfl) (Nat.le_of_ble_eq_true rfl) ?_
                    refine j_seal hx3a ?_
                    intro w48 u48
                    have fw48 := u48.fw hx3a hx3b
                    have g48_x3 := u48.1
                    have h48 := h2.gar fw48 (by omega)
                    refine j_astore (lo' := [(4, _), (0, _), (1, _), (2, _), (3, _)]) dX11_replaceTable_70 rfl (by decide) rfl ?_
                    refine j_aload dX11_replaceTable_72 rfl rfl ?_
                    refine j_iconst (v := 0) dX11_replaceTable_74 (by decide) ?_
                    refine j_dup2 dX11_replaceTable_75 rfl rfl ?_
                    refine j_ld dX11_replaceTable_76 g48_x3 (vp_in_nI (n := 0) (by decide) (by decide)) ?_
                    refine j_iconst (v := 1) dX11_replaceTable_77 (by decide) ?_
                    refine j_iadd dX11_replaceTable_78 ?_
                    refine j_sto (w' := _) dX11_replaceTable_79 g48_x3 (vp_in_nI (n := 0) (by decide) (by decide)) rfl ?_
                    refine j_seal hx3a ?_
                    intro w49 u49
                    have fw49 := u49.fw hx3a hx3b
                    have g49_x3 := u49.1
                    have h49 := h48.gar fw49 (by omega)
                    refine j_aload_n dX11_replaceTable_80 rfl rfl ?_
                    refine j_getf dX11_replaceTable_81 fX11_34 h49.m rfl ?_
                    refine j_iload_n dX11_replaceTable_84 rfl ?_
                    obtain ⟨lv734, -, lg734⟩ := z_li.cell h49.tabs
                    refine j_callV (q := (RJx4a65c, TJx4a65c, 3)) dX11_replaceTable_85 kJx4a65c_get_915e3 lX11_82 inJx4a65c_get_915e3 seJx4a65c_get_915e3 lg734 rfl (cl_get hl w49 47 1007 _ _ (i599) _ h49.tabs (z_thr3 (t := i599) (by omega))) (Nat.le_of_ble_eq_true rfl) ⟨(by show _ ≤ 2; omega), (by show _ ≤ 11; omega)⟩ rfl (Nat.le_of_ble_eq_true rfl) rfl rfl (fun _ _ h => h.elim) ?_
                    rintro _ _ ⟨rfl, hw735⟩
                    refine j_w w49 hw735 ?_
                    refine j_castS dX11_replaceTable_88 (z_w 1341 ((lwt_6_3 6).trans rfl) (by decide +kernel)) (z_li.is (h49.tb (t := i599) (by omega))) ?_
                    obtain ⟨lv738, -, lg738⟩ := z_li.cell (h49.tb (t := i599) (by omega))
                    refine j_callV (q := (RJx4a65c, TJx4a65c, 3)) dX11_replaceTable_91 kJx4a65c_iterator_32c93 lX11_162 inJx4a65c_iterator_32c93 seJx4a65c_iterator_32c93 lg738 rfl (cl_iter hl w49 58 (51 + i599) _ _ _ (h49.tb (t := i599) (by omega)) (by decide) (by omega) h49.fn) (Nat.le_of_ble_eq_true rfl) ⟨(by show _ ≤ 2; omega), (by show _ ≤ 11; omega)⟩ rfl (Nat.le_of_ble_eq_true rfl) rfl rfl (fun _ _ h => h.elim) ?_
                    rintro _ w50 ⟨it737, rfl, fw50, hita737, hitb737, hitc737, la737, git737⟩
                    have hita737 : 1000 ≤ it737 := hita737
                    have hitb737 : it737 % 64 = 58 := hitb737
                    have n_x3_it737 := z_neF hitc737 g49_x3
                    have g50_x3 := fw50.g (Or.inr (by omega)) g49_x3
                    have fm50 := fw50.fm (q := 59) (by omega)
                    have h50 := h49.gar fw50 (by omega)
                    refine j_astore (lo' := [(5, _), (4, _), (0, _), (1, _), (2, _), (3, _)]) dX11_replaceTable_94 rfl (by decide) rfl ?_
                    have loop96 : ∀ (n9 : Nat) (w51 : z_W) (s1 : z_Z) (A L : List (Nat × Int32)) (la : Int32) (c : Nat → Int32) (F : Nat → Int32), (L.length < n9) → (A.length ≤ (A ++ L).length) → (sp_rt r n c A L = sp_ctb S i599 r n) → (∀ p ∈ L, z_vl p.2) → (sp_MR (sp_tc (sp_uT S i599 (A ++ L)) i599 c) s1) → (s1.1.1 = 0) → (z_mst w51 s1) → (z_fm 59 w w51) → (z_g w51 it737 = some (.inr (3, [.int (nI A.length), .int la, .int (z_qp s1 i599).1, .ref (1011 + i599)]))) → (z_g w51 x3 = some (.inl (0, 7, fun j => .int (F j)))) → z_J G l mX11_replaceTable (22, 2, 11, w, Q9, (fun _ _ => False)) 96 [(0, .ref 1000), (1, .int (nI i599)), (2, .int r), (3, .int n), (4, .ref x3), (5, .ref it737)] [] w51 2 11 := by
                      intro n9
                      induction n9 with
                      | zero => intro w51 s1 A L la c F hf9 hAl he hv hR hth hm hfm git gx; exact absurd hf9 (Nat.not_lt_zero _)
                      | succ n9 ih =>
                        intro w51 s1 A L la c F hf9 hAl he hv hR hth hm hfm git gx
                        refine j_aload dX11_replaceTable_96 rfl rfl ?_
                        refine j_callF (x := ⟨"java/util/Iterator", "hasNext", "()Z"⟩) (q := (RJx35411, TJx35411, 4)) dX11_replaceTable_98 kJx35411_hasNext_aae02 ⟨(z_w 1765 ((lwt_8_1 10).trans rfl) (by decide +kernel)), (z_w 1769 ((lwt_8_1 14).trans rfl) (by decide +kernel)), inJx35411_hasNext_aae02, ⟨by decide, by decide⟩, rfl, fun U h => h.2.1⟩ git rfl (cl_hasN hl w51 _ (51 + i599) _ (A.length) _ _ (hm.tb (t := i599) (by omega)) ⟨_, git⟩ (by rw [z_rs_len, hR.tlB (by omega) ((congrFun sp_tcT _).trans z_fu_self)]; omega)) (Nat.le_of_ble_eq_true rfl) ⟨(by show _ ≤ 2; omega), (by show _ ≤ 11; omega)⟩ rfl (Nat.le_of_ble_eq_true rfl) rfl ?_
                        rintro _ _ ⟨⟨x739, rfl, hz739, hp739⟩, hw739⟩
                        refine j_w w51 hw739 ?_
                        rw [z_rs_len, hR.tlB (by omega) ((congrFun sp_tcT _).trans z_fu_self)] at hz739 hp739
                        refine j_if_eq (tgt := 178) dX11_replaceTable_103 (by decide) (fun c_103_960 => ?_) (fun c_103_960 => ?_)
                        · have hk103 : A.length = (A ++ L).length := hz739 c_103_960
                          obtain rfl : L = [] := List.eq_nil_of_length_eq_zero (by rw [List.length_append] at hk103; omega)
                          refine j_aload dX11_replaceTable_178 rfl rfl ?_
                          refine j_iconst (v := 1) dX11_replaceTable_180 (by decide) ?_
                          refine j_dup2 dX11_replaceTable_181 rfl rfl ?_
                          refine j_ld dX11_replaceTable_182 gx (vp_in_nI (n := 1) (by decide) (by decide)) ?_
                          refine j_iconst (v := 1) dX11_replaceTable_183 (by decide) ?_
                          refine j_iadd dX11_replaceTable_184 ?_
                          refine j_sto (w' := _) dX11_replaceTable_185 gx (vp_in_nI (n := 1) (by decide) (by decide)) rfl ?_
                          refine j_seal hx3a ?_
                          intro w52 u52
                          have fw52 := u52.fw hx3a hx3b
                          have g52_it737 := (u52.2.1 it737 (Ne.symm n_x3_it737)).trans git
                          have g52_x3 := u52.1
                          have h52 := hm.gar fw52 (by omega)
                          refine j_aload_n dX11_replaceTable_186 rfl rfl ?_
                          refine j_getf dX11_replaceTable_187 fX11_34 h52.m rfl ?_
                          refine j_iload_n dX11_replaceTable_190 rfl ?_
                          obtain ⟨lv743, -, lg743⟩ := z_li.cell h52.tabs
                          refine j_callV (q := (RJx4a65c, TJx4a65c, 3)) dX11_replaceTable_191 kJx4a65c_get_915e3 lX11_82 inJx4a65c_get_915e3 seJx4a65c_get_915e3 lg743 rfl (cl_get hl w52 47 1007 _ _ (i599) _ h52.tabs (z_thr3 (t := i599) (by omega))) (Nat.le_of_ble_eq_true rfl) ⟨(by show _ ≤ 2; omega), (by show _ ≤ 11; omega)⟩ rfl (Nat.le_of_ble_eq_true rfl) rfl rfl (fun _ _ h => h.elim) ?_
                          rintro _ _ ⟨rfl, hw744⟩
                          refine j_w w52 hw744 ?_
                          refine j_castS dX11_replaceTable_194 (z_w 1341 ((lwt_6_3 6).trans rfl) (by decide +kernel)) (z_li.is (h52.tb (t := i599) (by omega))) ?_
                          obtain ⟨lv746, -, lg746⟩ := z_li.cell (h52.tb (t := i599) (by omega))
                          refine j_callV (q := (RJx4a65c, TJx4a65c, 3)) dX11_replaceTable_197 kJx4a65c_size_8abf5 lX11_86 inJx4a65c_size_8abf5 seJx4a65c_size_8abf5 lg746 rfl (cl_sizeT hl w52 (i599) ((A ++ [])) h52 hR (by omega) ((congrFun sp_tcT _).trans z_fu_self)) (Nat.le_of_ble_eq_true rfl) ⟨(by show _ ≤ 2; omega), (by show _ ≤ 11; omega)⟩ rfl (Nat.le_of_ble_eq_true rfl) rfl rfl (fun _ _ h => h.elim) ?_
                          rintro _ _ ⟨rfl, hw747⟩
                          refine j_w w52 hw747 ?_
                          have hz747 : ((A ++ [])).length ≤ 20 := hR.l20 h52 (t := i599) (by omega) ((congrFun sp_tcT _).trans z_fu_self)
                          refine j_iret dX11_replaceTable_200 rfl rfl ?_ (by show _ ≤ 2; omega) (by show _ ≤ 11; omega)
                          refine cast (congrFun (congrFun hQ9 _) _) ?_
                          rw [List.append_nil] at hR
                          try rw [ei599]
                          refine ⟨_, _, rfl, (hfm.tr (fw52.fm (q := 59) (by omega))), h52, sp_X0 ?_ hth (by unfold sp_ctbS; rw [← he]; have e := hR; rw [sp_tcn hb54] at e; show sp_MR (sp_tc (sp_uT S _ _) _ _) _; rw [sp_tcn hb54]; exact e) (by rw [← he, List.append_nil]; rfl)⟩
                          first | (first | (refine sp_k32_0 ?_ ?_ <;> (first | (with_reducible assumption) | (refine Or.inl ?_; (with_reducible assumption)) | (refine Or.inr ?_; (with_reducible assumption)) | (refine Or.inr (Or.inl ?_); (with_reducible assumption)) | (refine Or.inr (Or.inr ?_); (with_reducible assumption)) | (refine Or.inr (Or.inr (Or.inl ?_)); (with_reducible assumption)) | (refine Or.inr (Or.inr (Or.inr ?_)); (with_reducible assumption)) | (refine fun z => Or.elim z ?_ ?_ <;> (with_reducible assumption)) | (refine fun z => Or.elim z ?_ (fun z => Or.elim z ?_ ?_) <;> (with_reducible assumption)) | (refine fun z => Or.elim z ?_ (fun z => Or.elim z ?_ (fun z => Or.elim z ?_ ?_)) <;> (with_reducible assumption)) | (refine fun z => Or.elim z (fun z9 => z9 ?_) ?_ <;> (first | (with_reducible assumption) | (refine Or.inl ?_; (with_reducible assumption)) | (refine Or.inr (Or.inl ?_); (with_reducible assumption)) | (refine Or.inr (Or.inr ?_); (with_reducible assumption)) | (refine Or.inr (Or.inr (Or.inl ?_)); (with_reducible assumption)) | (refine Or.inr (Or.inr (Or.inr ?_)); (with_reducible assumption)))) | (refine Or.inl (fun z => Or.elim z ?_ (fun z => Or.elim z ?_ ?_)) <;> (with_reducible assumption)) | (refine Or.inl (fun z => Or.elim z ?_ (fun z => Or.elim z ?_ (fun z => Or.elim z ?_ ?_))) <;> (with_reducible assumption))))) | (first | (refine sp_k32_0 ?_ ?_ <;> (first | assumption | (refine Or.inl ?_; assumption) | (refine Or.inr ?_; assumption) | (refine Or.inr (Or.inl ?_); assumption) | (refine Or.inr (Or.inr ?_); assumption) | (refine Or.inr (Or.inr (Or.inl ?_)); assumption) | (refine Or.inr (Or.inr (Or.inr ?_)); assumption) | (refine fun z => Or.elim z ?_ ?_ <;> assumption) | (refine fun z => Or.elim z ?_ (fun z => Or.elim z ?_ ?_) <;> assumption) | (refine fun z => Or.elim z ?_ (fun z => Or.elim z ?_ (fun z => Or.elim z ?_ ?_)) <;> assumption) | (refine fun z => Or.elim z (fun z9 => z9 ?_) ?_ <;> (first | assumption | (refine Or.inl ?_; assumption) | (refine Or.inr (Or.inl ?_); assumption) | (refine Or.inr (Or.inr ?_); assumption) | (refine Or.inr (Or.inr (Or.inl ?_)); assumption) | (refine Or.inr (Or.inr (Or.inr ?_)); assumption))) | (refine Or.inl (fun z => Or.elim z ?_ (fun z => Or.elim z ?_ ?_)) <;> assumption) | (refine Or.inl (fun z => Or.elim z ?_ (fun z => Or.elim z ?_ (fun z => Or.elim z ?_ ?_))) <;> assumption))))
                        · have hk103 : A.length < (A ++ L).length := hp739 c_103_960
                          obtain ⟨x, L2, rfl⟩ : ∃ x L2, L = x :: L2 := by
                            cases L with
                            | nil => rw [List.append_nil] at hk103; exact absurd hk103 (Nat.lt_irrefl _)
                            | cons x L2 => exact ⟨x, L2, rfl⟩
                          refine j_aload dX11_replaceTable_106 rfl rfl ?_
                          obtain ⟨p748, hp748, hq748, hk748, hv0748, hv1748, hv2748⟩ := hR.prB hm (t := i599) (k := A.length) (by omega) ((congrFun sp_tcT _).trans z_fu_self) sp_mid?
                          refine j_callF (x := ⟨"java/util/Iterator", "next", "()Ljava/lang/Object;"⟩) (q := (RJx35411, TJx35411, 4)) dX11_replaceTable_108 kJx35411_next_0502b ⟨(z_w 1775 ((lwt_8_1 20).trans rfl) (by decide +kernel)), (z_w 1778 ((lwt_8_1 23).trans rfl) (by decide +kernel)), inJx35411_next_0502b, ⟨by decide, by decide⟩, rfl, fun U h => h.2.2.1⟩ git rfl (cl_next hl w51 58 it737 (51 + i599) _ (A.length) _ _ _ (hm.tb (t := i599) (by omega)) ⟨_, git⟩ hq748 hita737 hitb737 (by omega)) (Nat.le_of_ble_eq_true rfl) ⟨(by show _ ≤ 2; omega), (by show _ ≤ 11; omega)⟩ rfl (Nat.le_of_ble_eq_true rfl) rfl ?_
                          rintro _ w53 ⟨rfl, fw53, la53, git53⟩
                          have g53_x3 := fw53.g (Or.inr (by omega)) gx
                          have fm53 := fw53.fm (q := 59) (by omega)
                          have h53 := hm.gar fw53 (by omega)
                          refine j_castS dX11_replaceTable_113 (z_w 1663 ((lwt_7_5 28).trans rfl) (by decide +kernel)) (z_isA ((h53.pr (t := i599) (by omega)).1 p748 hp748).2) ?_
                          refine j_astore (lo' := [(6, _), (0, _), (1, _), (2, _), (3, _), (4, _), (5, _)]) dX11_replaceTable_116 rfl (by decide) rfl ?_
                          refine j_aload dX11_replaceTable_118 rfl rfl ?_
                          refine j_iconst (v := 1) dX11_replaceTable_120 (by decide) ?_
                          refine j_dup2 dX11_replaceTable_121 rfl rfl ?_
                          refine j_ld dX11_replaceTable_122 g53_x3 (vp_in_nI (n := 1) (by decide) (by decide)) ?_
                          refine j_iconst (v := 1) dX11_replaceTable_123 (by decide) ?_
                          refine j_iadd dX11_replaceTable_124 ?_
                          refine j_sto (w' := _) dX11_replaceTable_125 g53_x3 (vp_in_nI (n := 1) (by decide) (by decide)) rfl ?_
                          refine j_seal hx3a ?_
                          intro w54 u54
                          have fw54 := u54.fw hx3a hx3b
                          have g54_it737 := (u54.2.1 it737 (Ne.symm n_x3_it737)).trans git53
                          have g54_x3 := u54.1
                          have h54 := h53.gar fw54 (by omega)
                          refine j_aload dX11_replaceTable_126 rfl rfl ?_
                          refine j_iconst (v := 2) dX11_replaceTable_128 (by decide) ?_
                          refine j_dup2 dX11_replaceTable_129 rfl rfl ?_
                          refine j_ld dX11_replaceTable_130 g54_x3 (vp_in_nI (n := 2) (by decide) (by decide)) ?_
                          refine j_iconst (v := 1) dX11_replaceTable_131 (by decide) ?_
                          refine j_iadd dX11_replaceTable_132 ?_
                          refine j_sto (w' := _) dX11_replaceTable_133 g54_x3 (vp_in_nI (n := 2) (by decide) (by decide)) rfl ?_
                          refine j_seal hx3a ?_
                          intro w55 u55
                          have fw55 := u55.fw hx3a hx3b
                          have g55_it737 := (u55.2.1 it737 (Ne.symm n_x3_it737)).trans g54_it737
                          have g55_x3 := u55.1
                          have h55 := h54.gar fw55 (by omega)
                          refine j_iload_n dX11_replaceTable_134 rfl ?_
                          refine j_aload dX11_replaceTable_135 rfl rfl ?_
                          refine j_iconst (v := 0) dX11_replaceTable_137 (by decide) ?_
                          refine j_ld dX11_replaceTable_138 ((h55.pr (t := i599) (by omega)).1 p748 hp748).2 (vp_in_nI (n := 0) (by decide) (by decide)) ?_
                          refine j_top (congrArg Value.int (show _ = nI x.1 from by rw [show (0 : Int32).toNatClampNeg = 0 from by decide]; exact hv0748)) ?_
                          refine j_aload dX11_replaceTable_139 rfl rfl ?_
                          refine j_iconst (v := 1) dX11_replaceTable_141 (by decide) ?_
                          refine j_ld dX11_replaceTable_142 ((h55.pr (t := i599) (by omega)).1 p748 hp748).2 (vp_in_nI (n := 1) (by decide) (by decide)) ?_
                          refine j_top (congrArg Value.int (show _ = x.2 from by rw [show (1 : Int32).toNatClampNeg = 1 from by decide]; exact hv1748)) ?_
                          refine j_iload_n dX11_replaceTable_143 rfl ?_
                          refine j_callS dX11_replaceTable_144 kX11_rule lX11_115 stX11_rule (cm_rule_r hl w55 _ _ _ _ (hv _ List.mem_cons_self).2 (sp_vl (by assumption)).2) (Nat.le_of_ble_eq_true rfl) ⟨(by show _ ≤ 2; omega), (by show _ ≤ 11; omega)⟩ rfl (Nat.le_of_ble_eq_true rfl) rfl rfl (fun _ _ h => h.elim) ?_
                          rintro _ _ ⟨⟨rfl, hq756⟩ | ⟨y756, rfl, hq756, hne756⟩, hw756⟩
                          · refine j_w w55 hw756 ?_
                            refine j_istore (lo' := [(7, _), (6, _), (0, _), (1, _), (2, _), (3, _), (4, _), (5, _)]) dX11_replaceTable_147 (by decide) rfl ?_
                            refine j_iload dX11_replaceTable_149 rfl ?_
                            refine j_ldc dX11_replaceTable_151 kcX11_67 ?_
                            refine j_icmp_ne (tgt := 161) dX11_replaceTable_153 (by decide) (fun c_153_1051 => ?_) (fun c_153_1051 => ?_)
                            · exact absurd c_153_1051 (by decide)
                            · refine j_aload_n dX11_replaceTable_156 rfl rfl ?_
                              refine j_callV (q := (RX11, TX11, 8)) dX11_replaceTable_157 kX11_nine lX11_105 inX11_nine seX11_nine h55.m rfl (cm_nine hl w55 _ h55) (Nat.le_of_ble_eq_true rfl) ⟨(by show _ ≤ 2; omega), (by show _ ≤ 11; omega)⟩ rfl (Nat.le_of_ble_eq_true rfl) rfl rfl (fun _ _ h => h.elim) ?_
                              rintro _ w56 ⟨rfl, fm56, h56⟩
                              have g56_it737 := fm56.g hita737 (by rw [hitb737]; decide) g55_it737
                              have g56_x3 := fm56.g hx3a (by rw [hx3b]; decide) g55_x3
                              have R56 := hR.ni
                              refine j_iret dX11_replaceTable_160 rfl rfl ?_ (by show _ ≤ 2; omega) (by show _ ≤ 11; omega)
                              refine cast (congrFun (congrFun hQ9 _) _) ?_
                              rw [sp_rtN hq756] at he
                              try rw [ei599]
                              refine ⟨_, _, rfl, ((((hfm.tr fm53).tr (fw54.fm (q := 59) (by omega))).tr (fw55.fm (q := 59) (by omega))).tr (fm56.le (q' := 59) (by decide))), h56, sp_X0 ?_ hth (by unfold sp_ctbS; rw [← he]; have e := R56; rw [sp_tcn hb54] at e; show sp_MR (sp_nine (sp_tc (sp_uT S _ _) _ _)) _; rw [sp_tcn hb54]; exact e) (by rw [← he]; rfl)⟩
                              first | (first | (refine sp_k32_0 ?_ ?_ <;> (first | (with_reducible assumption) | (refine Or.inl ?_; (with_reducible assumption)) | (refine Or.inr ?_; (with_reducible assumption)) | (refine Or.inr (Or.inl ?_); (with_reducible assumption)) | (refine Or.inr (Or.inr ?_); (with_reducible assumption)) | (refine Or.inr (Or.inr (Or.inl ?_)); (with_reducible assumption)) | (refine Or.inr (Or.inr (Or.inr ?_)); (with_reducible assumption)) | (refine fun z => Or.elim z ?_ ?_ <;> (with_reducible assumption)) | (refine fun z => Or.elim z ?_ (fun z => Or.elim z ?_ ?_) <;> (with_reducible assumption)) | (refine fun z => Or.elim z ?_ (fun z => Or.elim z ?_ (fun z => Or.elim z ?_ ?_)) <;> (with_reducible assumption)) | (refine fun z => Or.elim z (fun z9 => z9 ?_) ?_ <;> (first | (with_reducible assumption) | (refine Or.inl ?_; (with_reducible assumption)) | (refine Or.inr (Or.inl ?_); (with_reducible assumption)) | (refine Or.inr (Or.inr ?_); (with_reducible assumption)) | (refine Or.inr (Or.inr (Or.inl ?_)); (with_reducible assumption)) | (refine Or.inr (Or.inr (Or.inr ?_)); (with_reducible assumption)))) | (refine Or.inl (fun z => Or.elim z ?_ (fun z => Or.elim z ?_ ?_)) <;> (with_reducible assumption)) | (refine Or.inl (fun z => Or.elim z ?_ (fun z => Or.elim z ?_ (fun z => Or.elim z ?_ ?_))) <;> (with_reducible assumption))))) | (first | (refine sp_k32_0 ?_ ?_ <;> (first | assumption | (refine Or.inl ?_; assumption) | (refine Or.inr ?_; assumption) | (refine Or.inr (Or.inl ?_); assumption) | (refine Or.inr (Or.inr ?_); assumption) | (refine Or.inr (Or.inr (Or.inl ?_)); assumption) | (refine Or.inr (Or.inr (Or.inr ?_)); assumption) | (refine fun z => Or.elim z ?_ ?_ <;> assumption) | (refine fun z => Or.elim z ?_ (fun z => Or.elim z ?_ ?_) <;> assumption) | (refine fun z => Or.elim z ?_ (fun z => Or.elim z ?_ (fun z => Or.elim z ?_ ?_)) <;> assumption) | (refine fun z => Or.elim z (fun z9 => z9 ?_) ?_ <;> (first | assumption | (refine Or.inl ?_; assumption) | (refine Or.inr (Or.inl ?_); assumption) | (refine Or.inr (Or.inr ?_); assumption) | (refine Or.inr (Or.inr (Or.inl ?_)); assumption) | (refine Or.inr (Or.inr (Or.inr ?_)); assumption))) | (refine Or.inl (fun z => Or.elim z ?_ (fun z => Or.elim z ?_ ?_)) <;> assumption) | (refine Or.inl (fun z => Or.elim z ?_ (fun z => Or.elim z ?_ (fun z => Or.elim z ?_ ?_))) <;> assumption))))
                          · refine j_w w55 hw756 ?_
                            refine j_istore (lo' := [(7, _), (6, _), (0, _), (1, _), (2, _), (3, _), (4, _), (5, _)]) dX11_replaceTable_147 (by decide) rfl ?_
                            refine j_iload dX11_replaceTable_149 rfl ?_
                            refine j_ldc dX11_replaceTable_151 kcX11_67 ?_
                            refine j_icmp_ne (tgt := 161) dX11_replaceTable_153 (by decide) (fun c_153_1069 => ?_) (fun c_153_1069 => ?_)
                            · refine j_aload dX11_replaceTable_161 rfl rfl ?_
                              refine j_iconst (v := 1) dX11_replaceTable_163 (by decide) ?_
                              refine j_iload dX11_replaceTable_164 rfl ?_
                              refine j_sto (w' := _) dX11_replaceTable_166 ((h55.pr (t := i599) (by omega)).1 p748 hp748).2 (vp_in_nI (n := 1) (by decide) (by decide)) rfl ?_
                              have hnd : (sp_ks (A ++ x :: L2)).Nodup := hR.kd h55 (t := i599) (by omega) ((congrFun sp_tcT _).trans z_fu_self)
                              refine j_seal (((h55.pr (t := i599) (by omega)).1 p748 hp748).1.1) ?_
                              intro w57 u57
                              have hpp57 := ((h55.pr (t := i599) (by omega)).1 p748 hp748).1
                              have hpq57 := hpp57.2.1
                              have g57_it737 := (u57.2.1 it737 (by omega)).trans g55_it737
                              have g57_x3 := (u57.2.1 x3 (by omega)).trans g55_x3
                              have fw57 := u57.fw (ρ := 14 + i599) hpp57.1 hpp57.2.1
                              have h57 := h55.up14 (t0 := i599) (by omega) hp748 u57 (z_ui_ne (by decide))
                              have R57 := hR.uk (t0 := i599) (F := z_ui (z_qk _ p748) ((1 : Int32).toNatClampNeg) y756) (v := y756) h55 (by omega) hp748 (z_ui_ne (by decide)) (by rw [show (1 : Int32).toNatClampNeg = 1 from by decide]; exact z_ui_self)
                              rw [hv0748, z_cla (by omega)] at R57
                              rw [show sp_T (sp_tc (sp_uT S i599 (A ++ x :: L2)) i599 _) i599 = A ++ x :: L2 from (congrFun sp_tcT _).trans z_fu_self, sp_st_mid hnd, sp_tcu, sp_uTT] at R57
                              refine j_aload dX11_replaceTable_167 rfl rfl ?_
                              refine j_iconst (v := 3) dX11_replaceTable_169 (by decide) ?_
                              refine j_dup2 dX11_replaceTable_170 rfl rfl ?_
                              refine j_ld dX11_replaceTable_171 g57_x3 (vp_in_nI (n := 3) (by decide) (by decide)) ?_
                              refine j_iconst (v := 1) dX11_replaceTable_172 (by decide) ?_
                              refine j_iadd dX11_replaceTable_173 ?_
                              refine j_sto (w' := _) dX11_replaceTable_174 g57_x3 (vp_in_nI (n := 3) (by decide) (by decide)) rfl ?_
                              refine j_seal hx3a ?_
                              intro w58 u58
                              have fw58 := u58.fw hx3a hx3b
                              have g58_it737 := (u58.2.1 it737 (Ne.symm n_x3_it737)).trans g57_it737
                              have g58_x3 := u58.1
                              have h58 := h57.gar fw58 (by omega)
                              refine j_goto (tgt := 96) dX11_replaceTable_175 (by decide) ?_
                              refine j_widen (kc' := 2) (ks' := 11) (by omega) (by omega) ?_
                              exact j_lo2 (ih w58 _ (A ++ [(x.1, y756)]) L2 _ (z_bp (z_bp (z_bp c 1) 2) 3) _ (by rw [List.length_cons] at hf9; omega) sp_apl (by rw [sp_rtS hq756] at he; exact he) (fun p hp => hv p (List.mem_cons_of_mem _ hp)) (by rw [← sp_mid]; exact (sp_MR.bpXu hb54 R57)) (by exact hth) h58 (((((hfm.tr fm53).tr (fw54.fm (q := 59) (by omega))).tr (fw55.fm (q := 59) (by omega))).tr (fw57.fm (q := 59) (by omega))).tr (fw58.fm (q := 59) (by omega))) (by rw [List.length_append]; exact g58_it737) g58_x3) (z_q1 rfl (z_q1 rfl (z_q1 rfl (z_q1 rfl (z_q1 rfl (z_q1 rfl z_q0))))))
                            · exact absurd c_153_1069 hne756
                    refine j_widen (kc' := 2) (ks' := 11) (by omega) (by omega) ?_
                    exact j_lo2 (loop96 ((sp_T S i599).length + 1) w50 _ [] (sp_T S i599) _ (z_bp (sp_C S 2) 0) _ (Nat.lt_succ_self _) sp_apl (by exact rfl) (fun p hp => ((ok.2.1 i599 (by omega)).2 p hp).2) (by rw [List.nil_append, sp_uT_id, sp_tcn hb54]; exact R2) (by exact rfl) h50 ((((fm2.le (q' := 59) (by decide)).tr (fw48.fm (q := 59) (by omega))).tr (fw49.fm (q := 59) (by omega))).tr fm50) git737 g50_x3) (z_q1 rfl (z_q1 rfl (z_q1 rfl (z_q1 rfl (z_q1 rfl (z_q1 rfl z_q0))))))
                  · have hb54 : i599 = 0 := nI_inj (a := i599) (b := 0) c_54_908 (by omega) (by omega)
                    refine j_aload_n dX11_replaceTable_57 rfl rfl ?_
                    refine j_getf dX11_replaceTable_58 fX11_31 h2.m rfl ?_
                    refine j_iconst (v := 2) dX11_replaceTable_61 (by decide) ?_
                    obtain ⟨fz761, gz761, hz761⟩ := h2.co
                    refine j_aald (v := .ref (1004 + 2)) dX11_replaceTable_62 gz761 rfl rfl (vp_in_nI (n := 2) (by decide) (by decide)) (by rw [show (2 : Int32).toNatClampNeg = 2 by decide]; exact hz761 _ (by decide)) ?_
                    refine j_goto (tgt := 70) dX11_replaceTable_63 (by decide) ?_
                    refine j_astore (lo' := [(4, _), (0, _), (1, _), (2, _), (3, _)]) dX11_replaceTable_70 rfl (by decide) rfl ?_
                    refine j_aload dX11_replaceTable_72 rfl rfl ?_
                    refine j_iconst (v := 0) dX11_replaceTable_74 (by decide) ?_
                    refine j_dup2 dX11_replaceTable_75 rfl rfl ?_
                    refine j_ld dX11_replaceTable_76 (h2.cn (i := 2) (by decide)) (vp_in_nI (n := 0) (by decide) (by decide)) ?_
                    refine j_iconst (v := 1) dX11_replaceTable_77 (by decide) ?_
                    refine j_iadd dX11_replaceTable_78 ?_
                    refine j_sto (w' := _) dX11_replaceTable_79 (h2.cn (i := 2) (by decide)) (vp_in_nI (n := 0) (by decide) (by decide)) rfl ?_
                    refine j_seal (by omega) ?_
                    intro w59 u59
                    have fw59 := u59.fw (ρ := 44 + 2) (by omega) (by omega)
                    have h59 := h2.up44 (i0 := 2) (by decide) fw59 u59.1
                    rw [show (0 : Int32).toNatClampNeg = 0 by decide] at h59
                    have R59 := R2.bp (i := 2) (k := 0) (by omega) (by decide)
                    refine j_aload_n dX11_replaceTable_80 rfl rfl ?_
                    refine j_getf dX11_replaceTable_81 fX11_34 h59.m rfl ?_
                    refine j_iload_n dX11_replaceTable_84 rfl ?_
                    obtain ⟨lv765, -, lg765⟩ := z_li.cell h59.tabs
                    refine j_callV (q := (RJx4a65c, TJx4a65c, 3)) dX11_replaceTable_85 kJx4a65c_get_915e3 lX11_82 inJx4a65c_get_915e3 seJx4a65c_get_915e3 lg765 rfl (cl_get hl w59 47 1007 _ _ (i599) _ h59.tabs (z_thr3 (t := i599) (by omega))) (Nat.le_of_ble_eq_true rfl) ⟨(by show _ ≤ 2; omega), (by show _ ≤ 11; omega)⟩ rfl (Nat.le_of_ble_eq_true rfl) rfl rfl (fun _ _ h => h.elim) ?_
                    rintro _ _ ⟨rfl, hw766⟩
                    refine j_w w59 hw766 ?_
                    refine j_castS dX11_replaceTable_88 (z_w 1341 ((lwt_6_3 6).trans rfl) (by decide +kernel)) (z_li.is (h59.tb (t := i599) (by omega))) ?_
                    obtain ⟨lv769, -, lg769⟩ := z_li.cell (h59.tb (t := i599) (by omega))
                    refine j_callV (q := (RJx4a65c, TJx4a65c, 3)) dX11_replaceTable_91 kJx4a65c_iterator_32c93 lX11_162 inJx4a65c_iterator_32c93 seJx4a65c_iterator_32c93 lg769 rfl (cl_iter hl w59 58 (51 + i599) _ _ _ (h59.tb (t := i599) (by omega)) (by decide) (by omega) h59.fn) (Nat.le_of_ble_eq_true rfl) ⟨(by show _ ≤ 2; omega), (by show _ ≤ 11; omega)⟩ rfl (Nat.le_of_ble_eq_true rfl) rfl rfl (fun _ _ h => h.elim) ?_
                    rintro _ w60 ⟨it768, rfl, fw60, hita768, hitb768, hitc768, la768, git768⟩
                    have hita768 : 1000 ≤ it768 := hita768
                    have hitb768 : it768 % 64 = 58 := hitb768
                    have fm60 := fw60.fm (q := 59) (by omega)
                    have h60 := h59.gar fw60 (by omega)
                    refine j_astore (lo' := [(5, _), (4, _), (0, _), (1, _), (2, _), (3, _)]) dX11_replaceTable_94 rfl (by decide) rfl ?_
                    have loop96 : ∀ (n9 : Nat) (w61 : z_W) (s1 : z_Z) (A L : List (Nat × Int32)) (la : Int32) (c : Nat → Int32), (L.length < n9) → (A.length ≤ (A ++ L).length) → (sp_rt r n c A L = sp_ctb S i599 r n) → (∀ p ∈ L, z_vl p.2) → (sp_MR (sp_tc (sp_uT S i599 (A ++ L)) i599 c) s1) → (s1.1.1 = 0) → (z_mst w61 s1) → (z_fm 59 w w61) → (z_g w61 it768 = some (.inr (3, [.int (nI A.length), .int la, .int (z_qp s1 i599).1, .ref (1011 + i599)]))) → z_J G l mX11_replaceTable (22, 2, 11, w, Q9, (fun _ _ => False)) 96 [(0, .ref 1000), (1, .int (nI i599)), (2, .int r), (3, .int n), (4, .ref (1004 + 2)), (5, .ref it768)] [] w61 2 11 := by
                      intro n9
                      induction n9 with
                      | zero => intro w61 s1 A L la c hf9 hAl he hv hR hth hm hfm git; exact absurd hf9 (Nat.not_lt_zero _)
                      | succ n9 ih =>
                        intro w61 s1 A L la c hf9 hAl he hv hR hth hm hfm git
                        refine j_aload dX11_replaceTable_96 rfl rfl ?_
                        refine j_callF (x := ⟨"java/util/Iterator", "hasNext", "()Z"⟩) (q := (RJx35411, TJx35411, 4)) dX11_replaceTable_98 kJx35411_hasNext_aae02 ⟨(z_w 1765 ((lwt_8_1 10).trans rfl) (by decide +kernel)), (z_w 1769 ((lwt_8_1 14).trans rfl) (by decide +kernel)), inJx35411_hasNext_aae02, ⟨by decide, by decide⟩, rfl, fun U h => h.2.1⟩ git rfl (cl_hasN hl w61 _ (51 + i599) _ (A.length) _ _ (hm.tb (t := i599) (by omega)) ⟨_, git⟩ (by rw [z_rs_len, hR.tlB (by omega) ((congrFun sp_tcT _).trans z_fu_self)]; omega)) (Nat.le_of_ble_eq_true rfl) ⟨(by show _ ≤ 2; omega), (by show _ ≤ 11; omega)⟩ rfl (Nat.le_of_ble_eq_true rfl) rfl ?_
                        rintro _ _ ⟨⟨x770, rfl, hz770, hp770⟩, hw770⟩
                        refine j_w w61 hw770 ?_
                        rw [z_rs_len, hR.tlB (by omega) ((congrFun sp_tcT _).trans z_fu_self)] at hz770 hp770
                        refine j_if_eq (tgt := 178) dX11_replaceTable_103 (by decide) (fun c_103_1153 => ?_) (fun c_103_1153 => ?_)
                        · have hk103 : A.length = (A ++ L).length := hz770 c_103_1153
                          obtain rfl : L = [] := List.eq_nil_of_length_eq_zero (by rw [List.length_append] at hk103; omega)
                          refine j_aload dX11_replaceTable_178 rfl rfl ?_
                          refine j_iconst (v := 1) dX11_replaceTable_180 (by decide) ?_
                          refine j_dup2 dX11_replaceTable_181 rfl rfl ?_
                          refine j_ld dX11_replaceTable_182 (hm.cn (i := 2) (by decide)) (vp_in_nI (n := 1) (by decide) (by decide)) ?_
                          refine j_iconst (v := 1) dX11_replaceTable_183 (by decide) ?_
                          refine j_iadd dX11_replaceTable_184 ?_
                          refine j_sto (w' := _) dX11_replaceTable_185 (hm.cn (i := 2) (by decide)) (vp_in_nI (n := 1) (by decide) (by decide)) rfl ?_
                          refine j_seal (by omega) ?_
                          intro w62 u62
                          have fw62 := u62.fw (ρ := 44 + 2) (by omega) (by omega)
                          have g62_it768 := (fun z => (u62.2.1 it768 (fun z9 => by have h9 := hitb768; rw [z9] at h9; omega)).trans z) git
                          have h62 := hm.up44 (i0 := 2) (by decide) fw62 u62.1
                          rw [show (1 : Int32).toNatClampNeg = 1 by decide] at h62
                          have R62 := sp_MR.bpTu (k := 1) hb54 hR (by decide)
                          refine j_aload_n dX11_replaceTable_186 rfl rfl ?_
                          refine j_getf dX11_replaceTable_187 fX11_34 h62.m rfl ?_
                          refine j_iload_n dX11_replaceTable_190 rfl ?_
                          obtain ⟨lv774, -, lg774⟩ := z_li.cell h62.tabs
                          refine j_callV (q := (RJx4a65c, TJx4a65c, 3)) dX11_replaceTable_191 kJx4a65c_get_915e3 lX11_82 inJx4a65c_get_915e3 seJx4a65c_get_915e3 lg774 rfl (cl_get hl w62 47 1007 _ _ (i599) _ h62.tabs (z_thr3 (t := i599) (by omega))) (Nat.le_of_ble_eq_true rfl) ⟨(by show _ ≤ 2; omega), (by show _ ≤ 11; omega)⟩ rfl (Nat.le_of_ble_eq_true rfl) rfl rfl (fun _ _ h => h.elim) ?_
                          rintro _ _ ⟨rfl, hw775⟩
                          refine j_w w62 hw775 ?_
                          refine j_castS dX11_replaceTable_194 (z_w 1341 ((lwt_6_3 6).trans rfl) (by decide +kernel)) (z_li.is (h62.tb (t := i599) (by omega))) ?_
                          obtain ⟨lv777, -, lg777⟩ := z_li.cell (h62.tb (t := i599) (by omega))
                          refine j_callV (q := (RJx4a65c, TJx4a65c, 3)) dX11_replaceTable_197 kJx4a65c_size_8abf5 lX11_86 inJx4a65c_size_8abf5 seJx4a65c_size_8abf5 lg777 rfl (cl_sizeT hl w62 (i599) ((A ++ [])) h62 R62 (by omega) ((congrFun sp_tcT _).trans z_fu_self)) (Nat.le_of_ble_eq_true rfl) ⟨(by show _ ≤ 2; omega), (by show _ ≤ 11; omega)⟩ rfl (Nat.le_of_ble_eq_true rfl) rfl rfl (fun _ _ h => h.elim) ?_
                          rintro _ _ ⟨rfl, hw778⟩
                          refine j_w w62 hw778 ?_
                          have hz778 : ((A ++ [])).length ≤ 20 := R62.l20 h62 (t := i599) (by omega) ((congrFun sp_tcT _).trans z_fu_self)
                          refine j_iret dX11_replaceTable_200 rfl rfl ?_ (by show _ ≤ 2; omega) (by show _ ≤ 11; omega)
                          refine cast (congrFun (congrFun hQ9 _) _) ?_
                          rw [List.append_nil] at R62
                          try rw [ei599]
                          refine ⟨_, _, rfl, (hfm.tr (fw62.fm (q := 59) (by omega))), h62, sp_X0 ?_ hth (by unfold sp_ctbS; rw [← he]; exact R62) (by rw [← he, List.append_nil]; rfl)⟩
                          first | (first | (refine sp_k32_0 ?_ ?_ <;> (first | (with_reducible assumption) | (refine Or.inl ?_; (with_reducible assumption)) | (refine Or.inr ?_; (with_reducible assumption)) | (refine Or.inr (Or.inl ?_); (with_reducible assumption)) | (refine Or.inr (Or.inr ?_); (with_reducible assumption)) | (refine Or.inr (Or.inr (Or.inl ?_)); (with_reducible assumption)) | (refine Or.inr (Or.inr (Or.inr ?_)); (with_reducible assumption)) | (refine fun z => Or.elim z ?_ ?_ <;> (with_reducible assumption)) | (refine fun z => Or.elim z ?_ (fun z => Or.elim z ?_ ?_) <;> (with_reducible assumption)) | (refine fun z => Or.elim z ?_ (fun z => Or.elim z ?_ (fun z => Or.elim z ?_ ?_)) <;> (with_reducible assumption)) | (refine fun z => Or.elim z (fun z9 => z9 ?_) ?_ <;> (first | (with_reducible assumption) | (refine Or.inl ?_; (with_reducible assumption)) | (refine Or.inr (Or.inl ?_); (with_reducible assumption)) | (refine Or.inr (Or.inr ?_); (with_reducible assumption)) | (refine Or.inr (Or.inr (Or.inl ?_)); (with_reducible assumption)) | (refine Or.inr (Or.inr (Or.inr ?_)); (with_reducible assumption)))) | (refine Or.inl (fun z => Or.elim z ?_ (fun z => Or.elim z ?_ ?_)) <;> (with_reducible assumption)) | (refine Or.inl (fun z => Or.elim z ?_ (fun z => Or.elim z ?_ (fun z => Or.elim z ?_ ?_))) <;> (with_reducible assumption))))) | (first | (refine sp_k32_0 ?_ ?_ <;> (first | assumption | (refine Or.inl ?_; assumption) | (refine Or.inr ?_; assumption) | (refine Or.inr (Or.inl ?_); assumption) | (refine Or.inr (Or.inr ?_); assumption) | (refine Or.inr (Or.inr (Or.inl ?_)); assumption) | (refine Or.inr (Or.inr (Or.inr ?_)); assumption) | (refine fun z => Or.elim z ?_ ?_ <;> assumption) | (refine fun z => Or.elim z ?_ (fun z => Or.elim z ?_ ?_) <;> assumption) | (refine fun z => Or.elim z ?_ (fun z => Or.elim z ?_ (fun z => Or.elim z ?_ ?_)) <;> assumption) | (refine fun z => Or.elim z (fun z9 => z9 ?_) ?_ <;> (first | assumption | (refine Or.inl ?_; assumption) | (refine Or.inr (Or.inl ?_); assumption) | (refine Or.inr (Or.inr ?_); assumption) | (refine Or.inr (Or.inr (Or.inl ?_)); assumption) | (refine Or.inr (Or.inr (Or.inr ?_)); assumption))) | (refine Or.inl (fun z => Or.elim z ?_ (fun z => Or.elim z ?_ ?_)) <;> assumption) | (refine Or.inl (fun z => Or.elim z ?_ (fun z => Or.elim z ?_ (fun z => Or.elim z ?_ ?_))) <;> assumption))))
                        · have hk103 : A.length < (A ++ L).length := hp770 c_103_1153
                          obtain ⟨x, L2, rfl⟩ : ∃ x L2, L = x :: L2 := by
                            cases L with
                            | nil => rw [List.append_nil] at hk103; exact absurd hk103 (Nat.lt_irrefl _)
                            | cons x L2 => exact ⟨x, L2, rfl⟩
                          refine j_aload dX11_replaceTable_106 rfl rfl ?_
                          obtain ⟨p779, hp779, hq779, hk779, hv0779, hv1779, hv2779⟩ := hR.prB hm (t := i599) (k := A.length) (by omega) ((congrFun sp_tcT _).trans z_fu_self) sp_mid?
                          refine j_callF (x := ⟨"java/util/Iterator", "next", "()Ljava/lang/Object;"⟩) (q := (RJx35411, TJx35411, 4)) dX11_replaceTable_108 kJx35411_next_0502b ⟨(z_w 1775 ((lwt_8_1 20).trans rfl) (by decide +kernel)), (z_w 1778 ((lwt_8_1 23).trans rfl) (by decide +kernel)), inJx35411_next_0502b, ⟨by decide, by decide⟩, rfl, fun U h => h.2.2.1⟩ git rfl (cl_next hl w61 58 it768 (51 + i599) _ (A.length) _ _ _ (hm.tb (t := i599) (by omega)) ⟨_, git⟩ hq779 hita768 hitb768 (by omega)) (Nat.le_of_ble_eq_true rfl) ⟨(by show _ ≤ 2; omega), (by show _ ≤ 11; omega)⟩ rfl (Nat.le_of_ble_eq_true rfl) rfl ?_
                          rintro _ w63 ⟨rfl, fw63, la63, git63⟩
                          have fm63 := fw63.fm (q := 59) (by omega)
                          have h63 := hm.gar fw63 (by omega)
                          refine j_castS dX11_replaceTable_113 (z_w 1663 ((lwt_7_5 28).trans rfl) (by decide +kernel)) (z_isA ((h63.pr (t := i599) (by omega)).1 p779 hp779).2) ?_
                          refine j_astore (lo' := [(6, _), (0, _), (1, _), (2, _), (3, _), (4, _), (5, _)]) dX11_replaceTable_116 rfl (by decide) rfl ?_
                          refine j_aload dX11_replaceTable_118 rfl rfl ?_
                          refine j_iconst (v := 1) dX11_replaceTable_120 (by decide) ?_
                          refine j_dup2 dX11_replaceTable_121 rfl rfl ?_
                          refine j_ld dX11_replaceTable_122 (h63.cn (i := 2) (by decide)) (vp_in_nI (n := 1) (by decide) (by decide)) ?_
                          refine j_iconst (v := 1) dX11_replaceTable_123 (by decide) ?_
                          refine j_iadd dX11_replaceTable_124 ?_
                          refine j_sto (w' := _) dX11_replaceTable_125 (h63.cn (i := 2) (by decide)) (vp_in_nI (n := 1) (by decide) (by decide)) rfl ?_
                          refine j_seal (by omega) ?_
                          intro w64 u64
                          have fw64 := u64.fw (ρ := 44 + 2) (by omega) (by omega)
                          have g64_it768 := (fun z => (u64.2.1 it768 (fun z9 => by have h9 := hitb768; rw [z9] at h9; omega)).trans z) git63
                          have h64 := h63.up44 (i0 := 2) (by decide) fw64 u64.1
                          rw [show (1 : Int32).toNatClampNeg = 1 by decide] at h64
                          have R64 := sp_MR.bpTu (k := 1) hb54 hR (by decide)
                          refine j_aload dX11_replaceTable_126 rfl rfl ?_
                          refine j_iconst (v := 2) dX11_replaceTable_128 (by decide) ?_
                          refine j_dup2 dX11_replaceTable_129 rfl rfl ?_
                          refine j_ld dX11_replaceTable_130 (h64.cn (i := 2) (by decide)) (vp_in_nI (n := 2) (by decide) (by decide)) ?_
                          refine j_iconst (v := 1) dX11_replaceTable_131 (by decide) ?_
                          refine j_iadd dX11_replaceTable_132 ?_
                          refine j_sto (w' := _) dX11_replaceTable_133 (h64.cn (i := 2) (by decide)) (vp_in_nI (n := 2) (by decide) (by decide)) rfl ?_
                          refine j_seal (by omega) ?_
                          intro w65 u65
                          have fw65 := u65.fw (ρ := 44 + 2) (by omega) (by omega)
                          have g65_it768 := (fun z => (u65.2.1 it768 (fun z9 => by have h9 := hitb768; rw [z9] at h9; omega)).trans z) g64_it768
                          have h65 := h64.up44 (i0 := 2) (by decide) fw65 u65.1
                          rw [show (2 : Int32).toNatClampNeg = 2 by decide] at h65
                          have R65 := sp_MR.bpTu (k := 2) hb54 R64 (by decide)
                          refine j_iload_n dX11_replaceTable_134 rfl ?_
                          refine j_aload dX11_replaceTable_135 rfl rfl ?_
                          refine j_iconst (v := 0) dX11_replaceTable_137 (by decide) ?_
                          refine j_ld dX11_replaceTable_138 ((h65.pr (t := i599) (by omega)).1 p779 hp779).2 (vp_in_nI (n := 0) (by decide) (by decide)) ?_
                          refine j_top (congrArg Value.int (show _ = nI x.1 from by rw [show (0 : Int32).toNatClampNeg = 0 from by decide]; exact hv0779)) ?_
                          refine j_aload dX11_replaceTable_139 rfl rfl ?_
                          refine j_iconst (v := 1) dX11_replaceTable_141 (by decide) ?_
                          refine j_ld dX11_replaceTable_142 ((h65.pr (t := i599) (by omega)).1 p779 hp779).2 (vp_in_nI (n := 1) (by decide) (by decide)) ?_
                          refine j_top (congrArg Value.int (show _ = x.2 from by rw [show (1 : Int32).toNatClampNeg = 1 from by decide]; exact hv1779)) ?_
                          refine j_iload_n dX11_replaceTable_143 rfl ?_
                          refine j_callS dX11_replaceTable_144 kX11_rule lX11_115 stX11_rule (cm_rule_r hl w65 _ _ _ _ (hv _ List.mem_cons_self).2 (sp_vl (by assumption)).2) (Nat.le_of_ble_eq_true rfl) ⟨(by show _ ≤ 2; omega), (by show _ ≤ 11; omega)⟩ rfl (Nat.le_of_ble_eq_true rfl) rfl rfl (fun _ _ h => h.elim) ?_
                          rintro _ _ ⟨⟨rfl, hq787⟩ | ⟨y787, rfl, hq787, hne787⟩, hw787⟩
                          · refine j_w w65 hw787 ?_
                            refine j_istore (lo' := [(7, _), (6, _), (0, _), (1, _), (2, _), (3, _), (4, _), (5, _)]) dX11_replaceTable_147 (by decide) rfl ?_
                            refine j_iload dX11_replaceTable_149 rfl ?_
                            refine j_ldc dX11_replaceTable_151 kcX11_67 ?_
                            refine j_icmp_ne (tgt := 161) dX11_replaceTable_153 (by decide) (fun c_153_1246 => ?_) (fun c_153_1246 => ?_)
                            · exact absurd c_153_1246 (by decide)
                            · refine j_aload_n dX11_replaceTable_156 rfl rfl ?_
                              refine j_callV (q := (RX11, TX11, 8)) dX11_replaceTable_157 kX11_nine lX11_105 inX11_nine seX11_nine h65.m rfl (cm_nine hl w65 _ h65) (Nat.le_of_ble_eq_true rfl) ⟨(by show _ ≤ 2; omega), (by show _ ≤ 11; omega)⟩ rfl (Nat.le_of_ble_eq_true rfl) rfl rfl (fun _ _ h => h.elim) ?_
                              rintro _ w66 ⟨rfl, fm66, h66⟩
                              have g66_it768 := fm66.g hita768 (by rw [hitb768]; decide) g65_it768
                              have R66 := R65.ni
                              refine j_iret dX11_replaceTable_160 rfl rfl ?_ (by show _ ≤ 2; omega) (by show _ ≤ 11; omega)
                              refine cast (congrFun (congrFun hQ9 _) _) ?_
                              rw [sp_rtN hq787] at he
                              try rw [ei599]
                              refine ⟨_, _, rfl, ((((hfm.tr fm63).tr (fw64.fm (q := 59) (by omega))).tr (fw65.fm (q := 59) (by omega))).tr (fm66.le (q' := 59) (by decide))), h66, sp_X0 ?_ hth (by unfold sp_ctbS; rw [← he]; exact R66) (by rw [← he]; rfl)⟩
                              first | (first | (refine sp_k32_0 ?_ ?_ <;> (first | (with_reducible assumption) | (refine Or.inl ?_; (with_reducible assumption)) | (refine Or.inr ?_; (with_reducible assumption)) | (refine Or.inr (Or.inl ?_); (with_reducible assumption)) | (refine Or.inr (Or.inr ?_); (with_reducible assumption)) | (refine Or.inr (Or.inr (Or.inl ?_)); (with_reducible assumption)) | (refine Or.inr (Or.inr (Or.inr ?_)); (with_reducible assumption)) | (refine fun z => Or.elim z ?_ ?_ <;> (with_reducible assumption)) | (refine fun z => Or.elim z ?_ (fun z => Or.elim z ?_ ?_) <;> (with_reducible assumption)) | (refine fun z => Or.elim z ?_ (fun z => Or.elim z ?_ (fun z => Or.elim z ?_ ?_)) <;> (with_reducible assumption)) | (refine fun z => Or.elim z (fun z9 => z9 ?_) ?_ <;> (first | (with_reducible assumption) | (refine Or.inl ?_; (with_reducible assumption)) | (refine Or.inr (Or.inl ?_); (with_reducible assumption)) | (refine Or.inr (Or.inr ?_); (with_reducible assumption)) | (refine Or.inr (Or.inr (Or.inl ?_)); (with_reducible assumption)) | (refine Or.inr (Or.inr (Or.inr ?_)); (with_reducible assumption)))) | (refine Or.inl (fun z => Or.elim z ?_ (fun z => Or.elim z ?_ ?_)) <;> (with_reducible assumption)) | (refine Or.inl (fun z => Or.elim z ?_ (fun z => Or.elim z ?_ (fun z => Or.elim z ?_ ?_))) <;> (with_reducible assumption))))) | (first | (refine sp_k32_0 ?_ ?_ <;> (first | assumption | (refine Or.inl ?_; assumption) | (refine Or.inr ?_; assumption) | (refine Or.inr (Or.inl ?_); assumption) | (refine Or.inr (Or.inr ?_); assumption) | (refine Or.inr (Or.inr (Or.inl ?_)); assumption) | (refine Or.inr (Or.inr (Or.inr ?_)); assumption) | (refine fun z => Or.elim z ?_ ?_ <;> assumption) | (refine fun z => Or.elim z ?_ (fun z => Or.elim z ?_ ?_) <;> assumption) | (refine fun z => Or.elim z ?_ (fun z => Or.elim z ?_ (fun z => Or.elim z ?_ ?_)) <;> assumption) | (refine fun z => Or.elim z (fun z9 => z9 ?_) ?_ <;> (first | assumption | (refine Or.inl ?_; assumption) | (refine Or.inr (Or.inl ?_); assumption) | (refine Or.inr (Or.inr ?_); assumption) | (refine Or.inr (Or.inr (Or.inl ?_)); assumption) | (refine Or.inr (Or.inr (Or.inr ?_)); assumption))) | (refine Or.inl (fun z => Or.elim z ?_ (fun z => Or.elim z ?_ ?_)) <;> assumption) | (refine Or.inl (fun z => Or.elim z ?_ (fun z => Or.elim z ?_ (fun z => Or.elim z ?_ ?_))) <;> assumption))))
                          · refine j_w w65 hw787 ?_
                            refine j_istore (lo' := [(7, _), (6, _), (0, _), (1, _), (2, _), (3, _), (4, _), (5, _)]) dX11_replaceTable_147 (by decide) rfl ?_
                            refine j_iload dX11_replaceTable_149 rfl ?_
                            refine j_ldc dX11_replaceTable_151 kcX11_67 ?_
                            refine j_icmp_ne (tgt := 161) dX11_replaceTable_153 (by decide) (fun c_153_1263 => ?_) (fun c_153_1263 => ?_)
                            · refine j_aload dX11_replaceTable_161 rfl rfl ?_
                              refine j_iconst (v := 1) dX11_replaceTable_163 (by decide) ?_
                              refine j_iload dX11_replaceTable_164 rfl ?_
                              refine j_sto (w' := _) dX11_replaceTable_166 ((h65.pr (t := i599) (by omega)).1 p779 hp779).2 (vp_in_nI (n := 1) (by decide) (by decide)) rfl ?_
                              have hnd : (sp_ks (A ++ x :: L2)).Nodup := R65.kd h65 (t := i599) (by omega) ((congrFun sp_tcT _).trans z_fu_self)
                              refine j_seal (((h65.pr (t := i599) (by omega)).1 p779 hp779).1.1) ?_
                              intro w67 u67
                              have hpp67 := ((h65.pr (t := i599) (by omega)).1 p779 hp779).1
                              have hpq67 := hpp67.2.1
                              have g67_it768 := (u67.2.1 it768 (by omega)).trans g65_it768
                              have fw67 := u67.fw (ρ := 14 + i599) hpp67.1 hpp67.2.1
                              have h67 := h65.up14 (t0 := i599) (by omega) hp779 u67 (z_ui_ne (by decide))
                              have R67 := R65.uk (t0 := i599) (F := z_ui (z_qk _ p779) ((1 : Int32).toNatClampNeg) y787) (v := y787) h65 (by omega) hp779 (z_ui_ne (by decide)) (by rw [show (1 : Int32).toNatClampNeg = 1 from by decide]; exact z_ui_self)
                              rw [hv0779, z_cla (by omega)] at R67
                              rw [show sp_T (sp_tc (sp_uT S i599 (A ++ x :: L2)) i599 _) i599 = A ++ x :: L2 from (congrFun sp_tcT _).trans z_fu_self, sp_st_mid hnd, sp_tcu, sp_uTT] at R67
                              refine j_aload dX11_replaceTable_167 rfl rfl ?_
                              refine j_iconst (v := 3) dX11_replaceTable_169 (by decide) ?_
                              refine j_dup2 dX11_replaceTable_170 rfl rfl ?_
                              refine j_ld dX11_replaceTable_171 (h67.cn (i := 2) (by decide)) (vp_in_nI (n := 3) (by decide) (by decide)) ?_
                              refine j_iconst (v := 1) dX11_replaceTable_172 (by decide) ?_
                              refine j_iadd dX11_replaceTable_173 ?_
                              refine j_sto (w' := _) dX11_replaceTable_174 (h67.cn (i := 2) (by decide)) (vp_in_nI (n := 3) (by decide) (by decide)) rfl ?_
                              refine j_seal (by omega) ?_
                              intro w68 u68
                              have fw68 := u68.fw (ρ := 44 + 2) (by omega) (by omega)
                              have g68_it768 := (fun z => (u68.2.1 it768 (fun z9 => by have h9 := hitb768; rw [z9] at h9; omega)).trans z) g67_it768
                              have h68 := h67.up44 (i0 := 2) (by decide) fw68 u68.1
                              rw [show (3 : Int32).toNatClampNeg = 3 by decide] at h68
                              have R68 := sp_MR.bpTu (k := 3) hb54 R67 (by decide)
                              refine j_goto (tgt := 96) dX11_replaceTable_175 (by decide) ?_
                              refine j_widen (kc' := 2) (ks' := 11) (by omega) (by omega) ?_
                              exact j_lo2 (ih w68 _ (A ++ [(x.1, y787)]) L2 _ (z_bp (z_bp (z_bp c 1) 2) 3) (by rw [List.length_cons] at hf9; omega) sp_apl (by rw [sp_rtS hq787] at he; exact he) (fun p hp => hv p (List.mem_cons_of_mem _ hp)) (by rw [← sp_mid]; exact R68) (by exact hth) h68 (((((hfm.tr fm63).tr (fw64.fm (q := 59) (by omega))).tr (fw65.fm (q := 59) (by omega))).tr (fw67.fm (q := 59) (by omega))).tr (fw68.fm (q := 59) (by omega))) (by rw [List.length_append]; exact g68_it768)) (z_q1 rfl (z_q1 rfl (z_q1 rfl (z_q1 rfl (z_q1 rfl (z_q1 rfl z_q0))))))
                            · exact absurd c_153_1263 hne787
                    refine j_widen (kc' := 2) (ks' := 11) (by omega) (by omega) ?_
                    exact j_lo2 (loop96 ((sp_T S i599).length + 1) w60 _ [] (sp_T S i599) _ (z_bp (sp_C S 2) 0) (Nat.lt_succ_self _) sp_apl (by exact rfl) (fun p hp => ((ok.2.1 i599 (by omega)).2 p hp).2) (by rw [List.nil_append, sp_uT_id, sp_tc0 hb54]; exact R59) (by exact rfl) h60 (((fm2.le (q' := 59) (by decide)).tr (fw59.fm (q := 59) (by omega))).tr fm60) git768) (z_q1 rfl (z_q1 rfl (z_q1 rfl (z_q1 rfl (z_q1 rfl (z_q1 rfl z_q0))))))
                · exact absurd c_48_906 (by decide)
              · exact absurd c_36_900 (by decide)
          · refine j_iload_n dX11_replaceTable_27 rfl ?_
            refine j_iconst (v := 5) dX11_replaceTable_28 (by decide) ?_
            refine j_icmp_ne (tgt := 39) dX11_replaceTable_29 (by decide) (fun c_29_1303 => ?_) (fun c_29_1303 => ?_)
            · refine j_iconst (v := 1) dX11_replaceTable_39 (by decide) ?_
              refine j_goto (tgt := 44) dX11_replaceTable_40 (by decide) ?_
              refine j_iconst (v := 2) dX11_replaceTable_44 (by decide) ?_
              refine j_callV (q := (RX11, TX11, 8)) dX11_replaceTable_45 kX11_refuse lX11_52 inX11_refuse seX11_refuse h2.m rfl (cm_refuse1 hl w2 _ _ h2 rfl (by decide)) (Nat.le_of_ble_eq_true rfl) ⟨(by show _ ≤ 2; omega), (by show _ ≤ 11; omega)⟩ rfl (Nat.le_of_ble_eq_true rfl) rfl rfl (fun _ _ h => h.elim) ?_
              rintro _ w69 ⟨rfl, fm69, h69⟩
              have R69 := R2.th (k := 2)
              refine j_if_eq (tgt := 53) dX11_replaceTable_48 (by decide) (fun c_48_1310 => ?_) (fun c_48_1310 => ?_)
              · exact absurd c_48_1310 (by decide)
              · refine j_iconst (v := 0) dX11_replaceTable_51 (by decide) ?_
                refine j_iret dX11_replaceTable_52 rfl rfl ?_ (by show _ ≤ 2; omega) (by show _ ≤ 11; omega)
                refine cast (congrFun (congrFun hQ9 _) _) ?_
                try rw [ei599]
                refine ⟨_, _, rfl, ((fm2.le (q' := 59) (by decide)).tr (fm69.le (q' := 59) (by decide))), h69, sp_X1 (k := 2) ?_ (by decide) rfl R69⟩
                first | (first | (refine sp_k32_2 ?_ ?_ <;> (first | (with_reducible assumption) | (refine Or.inl ?_; (with_reducible assumption)) | (refine Or.inr ?_; (with_reducible assumption)) | (refine Or.inr (Or.inl ?_); (with_reducible assumption)) | (refine Or.inr (Or.inr ?_); (with_reducible assumption)) | (refine Or.inr (Or.inr (Or.inl ?_)); (with_reducible assumption)) | (refine Or.inr (Or.inr (Or.inr ?_)); (with_reducible assumption)) | (refine fun z => Or.elim z ?_ ?_ <;> (with_reducible assumption)) | (refine fun z => Or.elim z ?_ (fun z => Or.elim z ?_ ?_) <;> (with_reducible assumption)) | (refine fun z => Or.elim z ?_ (fun z => Or.elim z ?_ (fun z => Or.elim z ?_ ?_)) <;> (with_reducible assumption)) | (refine fun z => Or.elim z (fun z9 => z9 ?_) ?_ <;> (first | (with_reducible assumption) | (refine Or.inl ?_; (with_reducible assumption)) | (refine Or.inr (Or.inl ?_); (with_reducible assumption)) | (refine Or.inr (Or.inr ?_); (with_reducible assumption)) | (refine Or.inr (Or.inr (Or.inl ?_)); (with_reducible assumption)) | (refine Or.inr (Or.inr (Or.inr ?_)); (with_reducible assumption)))) | (refine Or.inl (fun z => Or.elim z ?_ (fun z => Or.elim z ?_ ?_)) <;> (with_reducible assumption)) | (refine Or.inl (fun z => Or.elim z ?_ (fun z => Or.elim z ?_ (fun z => Or.elim z ?_ ?_))) <;> (with_reducible assumption))))) | (first | (refine sp_k32_2 ?_ ?_ <;> (first | assumption | (refine Or.inl ?_; assumption) | (refine Or.inr ?_; assumption) | (refine Or.inr (Or.inl ?_); assumption) | (refine Or.inr (Or.inr ?_); assumption) | (refine Or.inr (Or.inr (Or.inl ?_)); assumption) | (refine Or.inr (Or.inr (Or.inr ?_)); assumption) | (refine fun z => Or.elim z ?_ ?_ <;> assumption) | (refine fun z => Or.elim z ?_ (fun z => Or.elim z ?_ ?_) <;> assumption) | (refine fun z => Or.elim z ?_ (fun z => Or.elim z ?_ (fun z => Or.elim z ?_ ?_)) <;> assumption) | (refine fun z => Or.elim z (fun z9 => z9 ?_) ?_ <;> (first | assumption | (refine Or.inl ?_; assumption) | (refine Or.inr (Or.inl ?_); assumption) | (refine Or.inr (Or.inr ?_); assumption) | (refine Or.inr (Or.inr (Or.inl ?_)); assumption) | (refine Or.inr (Or.inr (Or.inr ?_)); assumption))) | (refine Or.inl (fun z => Or.elim z ?_ (fun z => Or.elim z ?_ ?_)) <;> assumption) | (refine Or.inl (fun z => Or.elim z ?_ (fun z => Or.elim z ?_ (fun z => Or.elim z ?_ ?_))) <;> assumption))))
            · refine j_iload_n dX11_replaceTable_32 rfl ?_
              refine j_callS dX11_replaceTable_33 kX11_isNoValue lX11_79 stX11_isNoValue (cm_isNoValue_r hl w2 _) (Nat.le_of_ble_eq_true rfl) ⟨(by show _ ≤ 2; omega), (by show _ ≤ 11; omega)⟩ rfl (Nat.le_of_ble_eq_true rfl) rfl rfl (fun _ _ h => h.elim) ?_
              rintro _ _ ⟨⟨rfl, hno792⟩ | ⟨rfl, hye792⟩, hw792⟩
              · refine j_w w2 hw792 ?_
                refine j_if_eq (tgt := 43) dX11_replaceTable_36 (by decide) (fun c_36_1322 => ?_) (fun c_36_1322 => ?_)
                · exact absurd c_36_1322 (by decide)
                · refine j_iconst (v := 1) dX11_replaceTable_39 (by decide) ?_
                  refine j_goto (tgt := 44) dX11_replaceTable_40 (by decide) ?_
                  refine j_iconst (v := 2) dX11_replaceTable_44 (by decide) ?_
                  refine j_callV (q := (RX11, TX11, 8)) dX11_replaceTable_45 kX11_refuse lX11_52 inX11_refuse seX11_refuse h2.m rfl (cm_refuse1 hl w2 _ _ h2 rfl (by decide)) (Nat.le_of_ble_eq_true rfl) ⟨(by show _ ≤ 2; omega), (by show _ ≤ 11; omega)⟩ rfl (Nat.le_of_ble_eq_true rfl) rfl rfl (fun _ _ h => h.elim) ?_
                  rintro _ w70 ⟨rfl, fm70, h70⟩
                  have R70 := R2.th (k := 2)
                  refine j_if_eq (tgt := 53) dX11_replaceTable_48 (by decide) (fun c_48_1330 => ?_) (fun c_48_1330 => ?_)
                  · exact absurd c_48_1330 (by decide)
                  · refine j_iconst (v := 0) dX11_replaceTable_51 (by decide) ?_
                    refine j_iret dX11_replaceTable_52 rfl rfl ?_ (by show _ ≤ 2; omega) (by show _ ≤ 11; omega)
                    refine cast (congrFun (congrFun hQ9 _) _) ?_
                    try rw [ei599]
                    refine ⟨_, _, rfl, ((fm2.le (q' := 59) (by decide)).tr (fm70.le (q' := 59) (by decide))), h70, sp_X1 (k := 2) ?_ (by decide) rfl R70⟩
                    first | (first | (refine sp_k32_2 ?_ ?_ <;> (first | (with_reducible assumption) | (refine Or.inl ?_; (with_reducible assumption)) | (refine Or.inr ?_; (with_reducible assumption)) | (refine Or.inr (Or.inl ?_); (with_reducible assumption)) | (refine Or.inr (Or.inr ?_); (with_reducible assumption)) | (refine Or.inr (Or.inr (Or.inl ?_)); (with_reducible assumption)) | (refine Or.inr (Or.inr (Or.inr ?_)); (with_reducible assumption)) | (refine fun z => Or.elim z ?_ ?_ <;> (with_reducible assumption)) | (refine fun z => Or.elim z ?_ (fun z => Or.elim z ?_ ?_) <;> (with_reducible assumption)) | (refine fun z => Or.elim z ?_ (fun z => Or.elim z ?_ (fun z => Or.elim z ?_ ?_)) <;> (with_reducible assumption)) | (refine fun z => Or.elim z (fun z9 => z9 ?_) ?_ <;> (first | (with_reducible assumption) | (refine Or.inl ?_; (with_reducible assumption)) | (refine Or.inr (Or.inl ?_); (with_reducible assumption)) | (refine Or.inr (Or.inr ?_); (with_reducible assumption)) | (refine Or.inr (Or.inr (Or.inl ?_)); (with_reducible assumption)) | (refine Or.inr (Or.inr (Or.inr ?_)); (with_reducible assumption)))) | (refine Or.inl (fun z => Or.elim z ?_ (fun z => Or.elim z ?_ ?_)) <;> (with_reducible assumption)) | (refine Or.inl (fun z => Or.elim z ?_ (fun z => Or.elim z ?_ (fun z => Or.elim z ?_ ?_))) <;> (with_reducible assumption))))) | (first | (refine sp_k32_2 ?_ ?_ <;> (first | assumption | (refine Or.inl ?_; assumption) | (refine Or.inr ?_; assumption) | (refine Or.inr (Or.inl ?_); assumption) | (refine Or.inr (Or.inr ?_); assumption) | (refine Or.inr (Or.inr (Or.inl ?_)); assumption) | (refine Or.inr (Or.inr (Or.inr ?_)); assumption) | (refine fun z => Or.elim z ?_ ?_ <;> assumption) | (refine fun z => Or.elim z ?_ (fun z => Or.elim z ?_ ?_) <;> assumption) | (refine fun z => Or.elim z ?_ (fun z => Or.elim z ?_ (fun z => Or.elim z ?_ ?_)) <;> assumption) | (refine fun z => Or.elim z (fun z9 => z9 ?_) ?_ <;> (first | assumption | (refine Or.inl ?_; assumption) | (refine Or.inr (Or.inl ?_); assumption) | (refine Or.inr (Or.inr ?_); assumption) | (refine Or.inr (Or.inr (Or.inl ?_)); assumption) | (refine Or.inr (Or.inr (Or.inr ?_)); assumption))) | (refine Or.inl (fun z => Or.elim z ?_ (fun z => Or.elim z ?_ ?_)) <;> assumption) | (refine Or.inl (fun z => Or.elim z ?_ (fun z => Or.elim z ?_ (fun z => Or.elim z ?_ ?_))) <;> assumption))))
              · refine j_w w2 hw792 ?_
                refine j_if_eq (tgt := 43) dX11_replaceTable_36 (by decide) (fun c_36_1339 => ?_) (fun c_36_1339 => ?_)
                · refine j_iconst (v := 0) dX11_replaceTable_43 (by decide) ?_
                  refine j_iconst (v := 2) dX11_replaceTable_44 (by decide) ?_
                  refine j_callV (q := (RX11, TX11, 8)) dX11_replaceTable_45 kX11_refuse lX11_52 inX11_refuse seX11_refuse h2.m rfl (cm_refuse0 hl w2 _ _ h2 rfl) (Nat.le_of_ble_eq_true rfl) ⟨(by show _ ≤ 2; omega), (by show _ ≤ 11; omega)⟩ rfl (Nat.le_of_ble_eq_true rfl) rfl rfl (fun _ _ h => h.elim) ?_
                  rintro _ _ ⟨rfl, hw793⟩
                  refine j_w w2 hw793 ?_
                  refine j_if_eq (tgt := 53) dX11_replaceTable_48 (by decide) (fun c_48_1345 => ?_) (fun c_48_1345 => ?_)
                  · refine j_iload_n dX11_replaceTable_53 rfl ?_
                    refine j_if_ne (tgt := 66) dX11_replaceTable_54 (by decide) (fun c_54_1347 => ?_) (fun c_54_1347 => ?_)
                    · have hb54 : ¬ i599 = 0 := fun z => c_54_1347 (show nI i599 = nI 0 by rw [z])
                      refine j_bipush (v := 7) dX11_replaceTable_66 (by decide) ?_
                      obtain ⟨x4, hx4a, hx4b, hx4c⟩ := z_fresh (57) (by decide) h2.fn
                      refine j_newa (kd := 0) (N := 7) (w' := _) (n := x4) dX11_replaceTable_68 rfl rfl arc_int ⟨rfl, fun _ _ h => h⟩ (by decide) rfl (by decide) rfl (z_alW hx4c hx4a) (Nat.le_of_ble_eq_true rfl) (Nat.le_of_ble_eq_true rfl) ?_
                      refine j_seal hx4a ?_
                      intro w71 u71
                      have fw71 := u71.fw hx4a hx4b
                      have g71_x4 := u71.1
                      have h71 := h2.gar fw71 (by omega)
                      refine j_astore (lo' := [(4, _), (0, _), (1, _), (2, _), (3, _)]) dX11_replaceTable_70 rfl (by decide) rfl ?_
                      refine j_aload dX11_replaceTable_72 rfl rfl ?_
                      refine j_iconst (v := 0) dX11_replaceTable_74 (by decide) ?_
                      refine j_dup2 dX11_replaceTable_75 rfl rfl ?_
                      refine j_ld dX11_replaceTable_76 g71_x4 (vp_in_nI (n := 0) (by decide) (by decide)) ?_
                      refine j_iconst (v := 1) dX11_replaceTable_77 (by decide) ?_
                      refine j_iadd dX11_replaceTable_78 ?_
                      refine j_sto (w' := _) dX11_replaceTable_79 g71_x4 (vp_in_nI (n := 0) (by decide) (by decide)) rfl ?_
                      refine j_seal hx4a ?_
                      intro w72 u72
                      have fw72 := u72.fw hx4a hx4b
                      have g72_x4 := u72.1
                      have h72 := h71.gar fw72 (by omega)
                      refine j_aload_n dX11_replaceTable_80 rfl rfl ?_
                      refine j_getf dX11_replaceTable_81 fX11_34 h72.m rfl ?_
                      refine j_iload_n dX11_replaceTable_84 rfl ?_
                      obtain ⟨lv798, -, lg798⟩ := z_li.cell h72.tabs
                      refine j_callV (q := (RJx4a65c, TJx4a65c, 3)) dX11_replaceTable_85 kJx4a65c_get_915e3 lX11_82 inJx4a65c_get_915e3 seJx4a65c_get_915e3 lg798 rfl (cl_get hl w72 47 1007 _ _ (i599) _ h72.tabs (z_thr3 (t := i599) (by omega))) (Nat.le_of_ble_eq_true rfl) ⟨(by show _ ≤ 2; omega), (by show _ ≤ 11; omega)⟩ rfl (Nat.le_of_ble_eq_true rfl) rfl rfl (fun _ _ h => h.elim) ?_
                      rintro _ _ ⟨rfl, hw799⟩
                      refine j_w w72 hw799 ?_
                      refine j_castS dX11_replaceTable_88 (z_w 1341 ((lwt_6_3 6).trans rfl) (by decide +kernel)) (z_li.is (h72.tb (t := i599) (by omega))) ?_
                      obtain ⟨lv802, -, lg802⟩ := z_li.cell (h72.tb (t := i599) (by omega))
                      refine j_callV (q := (RJx4a65c, TJx4a65c, 3)) dX11_replaceTable_91 kJx4a65c_iterator_32c93 lX11_162 inJx4a65c_iterator_32c93 seJx4a65c_iterator_32c93 lg802 rfl (cl_iter hl w72 58 (51 + i599) _ _ _ (h72.tb (t := i599) (by omega)) (by decide) (by omega) h72.fn) (Nat.le_of_ble_eq_true rfl) ⟨(by show _ ≤ 2; omega), (by show _ ≤ 11; omega)⟩ rfl (Nat.le_of_ble_eq_true rfl) rfl rfl (fun _ _ h => h.elim) ?_
                      rintro _ w73 ⟨it801, rfl, fw73, hita801, hitb801, hitc801, la801, git801⟩
                      have hita801 : 1000 ≤ it801 := hita801
                      have hitb801 : it801 % 64 = 58 := hitb801
                      have n_x4_it801 := z_neF hitc801 g72_x4
                      have g73_x4 := fw73.g (Or.inr (by omega)) g72_x4
                      have fm73 := fw73.fm (q := 59) (by omega)
                      have h73 := h72.gar fw73 (by omega)
                      refine j_astore (lo' := [(5, _), (4, _), (0, _), (1, _), (2, _), (3, _)]) dX11_replaceTable_94 rfl (by decide) rfl ?_
                      have loop96 : ∀ (n9 : Nat) (w74 : z_W) (s1 : z_Z) (A L : List (Nat × Int32)) (la : Int32) (c : Nat → Int32) (F : Nat → Int32), (L.length < n9) → (A.length ≤ (A ++ L).length) → (sp_rt r n c A L = sp_ctb S i599 r n) → (∀ p ∈ L, z_vl p.2) → (sp_MR (sp_tc (sp_uT S i599 (A ++ L)) i599 c) s1) → (s1.1.1 = 0) → (z_mst w74 s1) → (z_fm 59 w w74) → (z_g w74 it801 = some (.inr (3, [.int (nI A.length), .int la, .int (z_qp s1 i599).1, .ref (1011 + i599)]))) → (z_g w74 x4 = some (.inl (0, 7, fun j => .int (F j)))) → z_J G l mX11_replaceTable (22, 2, 11, w, Q9, (fun _ _ => False)) 96 [(0, .ref 1000), (1, .int (nI i599)), (2, .int r), (3, .int n), (4, .ref x4), (5, .ref it801)] [] w74 2 11 := by
                        intro n9
                        induction n9 with
                        | zero => intro w74 s1 A L la c F hf9 hAl he hv hR hth hm hfm git gx; exact absurd hf9 (Nat.not_lt_zero _)
                        | succ n9 ih =>
                          intro w74 s1 A L la c F hf9 hAl he hv hR hth hm hfm git gx
                          refine j_aload dX11_replaceTable_96 rfl rfl ?_
                          refine j_callF (x := ⟨"java/util/Iterator", "hasNext", "()Z"⟩) (q := (RJx35411, TJx35411, 4)) dX11_replaceTable_98 kJx35411_hasNext_aae02 ⟨(z_w 1765 ((lwt_8_1 10).trans rfl) (by decide +kernel)), (z_w 1769 ((lwt_8_1 14).trans rfl) (by decide +kernel)), inJx35411_hasNext_aae02, ⟨by decide, by decide⟩, rfl, fun U h => h.2.1⟩ git rfl (cl_hasN hl w74 _ (51 + i599) _ (A.length) _ _ (hm.tb (t := i599) (by omega)) ⟨_, git⟩ (by rw [z_rs_len, hR.tlB (by omega) ((congrFun sp_tcT _).trans z_fu_self)]; omega)) (Nat.le_of_ble_eq_true rfl) ⟨(by show _ ≤ 2; omega), (by show _ ≤ 11; omega)⟩ rfl (Nat.le_of_ble_eq_true rfl) rfl ?_
                          rintro _ _ ⟨⟨x803, rfl, hz803, hp803⟩, hw803⟩
                          refine j_w w74 hw803 ?_
                          rw [z_rs_len, hR.tlB (by omega) ((congrFun sp_tcT _).trans z_fu_self)] at hz803 hp803
                          refine j_if_eq (tgt := 178) dX11_replaceTable_103 (by decide) (fun c_103_1399 => ?_) (fun c_103_1399 => ?_)
                          · have hk103 : A.length = (A ++ L).length := hz803 c_103_1399
                            obtain rfl : L = [] := List.eq_nil_of_length_eq_zero (by rw [List.length_append] at hk103; omega)
                            refine j_aload dX11_replaceTable_178 rfl rfl ?_
                            refine j_iconst (v := 1) dX11_replaceTable_180 (by decide) ?_
                            refine j_dup2 dX11_replaceTable_181 rfl rfl ?_
                            refine j_ld dX11_replaceTable_182 gx (vp_in_nI (n := 1) (by decide) (by decide)) ?_
                            refine j_iconst (v := 1) dX11_replaceTable_183 (by decide) ?_
                            refine j_iadd dX11_replaceTable_184 ?_
                            refine j_sto (w' := _) dX11_replaceTable_185 gx (vp_in_nI (n := 1) (by decide) (by decide)) rfl ?_
                            refine j_seal hx4a ?_
                            intro w75 u75
                            have fw75 := u75.fw hx4a hx4b
                            have g75_it801 := (u75.2.1 it801 (Ne.symm n_x4_it801)).trans git
                            have g75_x4 := u75.1
                            have h75 := hm.gar fw75 (by omega)
                            refine j_aload_n dX11_replaceTable_186 rfl rfl ?_
                            refine j_getf dX11_replaceTable_187 fX11_34 h75.m rfl ?_
                            refine j_iload_n dX11_replaceTable_190 rfl ?_
                            obtain ⟨lv807, -, lg807⟩ := z_li.cell h75.tabs
                            refine j_callV (q := (RJx4a65c, TJx4a65c, 3)) dX11_replaceTable_191 kJx4a65c_get_915e3 lX11_82 inJx4a65c_get_915e3 seJx4a65c_get_915e3 lg807 rfl (cl_get hl w75 47 1007 _ _ (i599) _ h75.tabs (z_thr3 (t := i599) (by omega))) (Nat.le_of_ble_eq_true rfl) ⟨(by show _ ≤ 2; omega), (by show _ ≤ 11; omega)⟩ rfl (Nat.le_of_ble_eq_true rfl) rfl rfl (fun _ _ h => h.elim) ?_
                            rintro _ _ ⟨rfl, hw808⟩
                            refine j_w w75 hw808 ?_
                            refine j_castS dX11_replaceTable_194 (z_w 1341 ((lwt_6_3 6).trans rfl) (by decide +kernel)) (z_li.is (h75.tb (t := i599) (by omega))) ?_
                            obtain ⟨lv810, -, lg810⟩ := z_li.cell (h75.tb (t := i599) (by omega))
                            refine j_callV (q := (RJx4a65c, TJx4a65c, 3)) dX11_replaceTable_197 kJx4a65c_size_8abf5 lX11_86 inJx4a65c_size_8abf5 seJx4a65c_size_8abf5 lg810 rfl (cl_sizeT hl w75 (i599) ((A ++ [])) h75 hR (by omega) ((congrFun sp_tcT _).trans z_fu_self)) (Nat.le_of_ble_eq_true rfl) ⟨(by show _ ≤ 2; omega), (by show _ ≤ 11; omega)⟩ rfl (Nat.le_of_ble_eq_true rfl) rfl rfl (fun _ _ h => h.elim) ?_
                            rintro _ _ ⟨rfl, hw811⟩
                            refine j_w w75 hw811 ?_
                            have hz811 : ((A ++ [])).length ≤ 20 := hR.l20 h75 (t := i599) (by omega) ((congrFun sp_tcT _).trans z_fu_self)
                            refine j_iret dX11_replaceTable_200 rfl rfl ?_ (by show _ ≤ 2; omega) (by show _ ≤ 11; omega)
                            refine cast (congrFun (congrFun hQ9 _) _) ?_
                            rw [List.append_nil] at hR
                            try rw [ei599]
                            refine ⟨_, _, rfl, (hfm.tr (fw75.fm (q := 59) (by omega))), h75, sp_X0 ?_ hth (by unfold sp_ctbS; rw [← he]; have e := hR; rw [sp_tcn hb54] at e; show sp_MR (sp_tc (sp_uT S _ _) _ _) _; rw [sp_tcn hb54]; exact e) (by rw [← he, List.append_nil]; rfl)⟩
                            first | (first | (refine sp_k32_0 ?_ ?_ <;> (first | (with_reducible assumption) | (refine Or.inl ?_; (with_reducible assumption)) | (refine Or.inr ?_; (with_reducible assumption)) | (refine Or.inr (Or.inl ?_); (with_reducible assumption)) | (refine Or.inr (Or.inr ?_); (with_reducible assumption)) | (refine Or.inr (Or.inr (Or.inl ?_)); (with_reducible assumption)) | (refine Or.inr (Or.inr (Or.inr ?_)); (with_reducible assumption)) | (refine fun z => Or.elim z ?_ ?_ <;> (with_reducible assumption)) | (refine fun z => Or.elim z ?_ (fun z => Or.elim z ?_ ?_) <;> (with_reducible assumption)) | (refine fun z => Or.elim z ?_ (fun z => Or.elim z ?_ (fun z => Or.elim z ?_ ?_)) <;> (with_reducible assumption)) | (refine fun z => Or.elim z (fun z9 => z9 ?_) ?_ <;> (first | (with_reducible assumption) | (refine Or.inl ?_; (with_reducible assumption)) | (refine Or.inr (Or.inl ?_); (with_reducible assumption)) | (refine Or.inr (Or.inr ?_); (with_reducible assumption)) | (refine Or.inr (Or.inr (Or.inl ?_)); (with_reducible assumption)) | (refine Or.inr (Or.inr (Or.inr ?_)); (with_reducible assumption)))) | (refine Or.inl (fun z => Or.elim z ?_ (fun z => Or.elim z ?_ ?_)) <;> (with_reducible assumption)) | (refine Or.inl (fun z => Or.elim z ?_ (fun z => Or.elim z ?_ (fun z => Or.elim z ?_ ?_))) <;> (with_reducible assumption))))) | (first | (refine sp_k32_0 ?_ ?_ <;> (first | assumption | (refine Or.inl ?_; assumption) | (refine Or.inr ?_; assumption) | (refine Or.inr (Or.inl ?_); assumption) | (refine Or.inr (Or.inr ?_); assumption) | (refine Or.inr (Or.inr (Or.inl ?_)); assumption) | (refine Or.inr (Or.inr (Or.inr ?_)); assumption) | (refine fun z => Or.elim z ?_ ?_ <;> assumption) | (refine fun z => Or.elim z ?_ (fun z => Or.elim z ?_ ?_) <;> assumption) | (refine fun z => Or.elim z ?_ (fun z => Or.elim z ?_ (fun z => Or.elim z ?_ ?_)) <;> assumption) | (refine fun z => Or.elim z (fun z9 => z9 ?_) ?_ <;> (first | assumption | (refine Or.inl ?_; assumption) | (refine Or.inr (Or.inl ?_); assumption) | (refine Or.inr (Or.inr ?_); assumption) | (refine Or.inr (Or.inr (Or.inl ?_)); assumption) | (refine Or.inr (Or.inr (Or.inr ?_)); assumption))) | (refine Or.inl (fun z => Or.elim z ?_ (fun z => Or.elim z ?_ ?_)) <;> assumption) | (refine Or.inl (fun z => Or.elim z ?_ (fun z => Or.elim z ?_ (fun z => Or.elim z ?_ ?_))) <;> assumption))))
                          · have hk103 : A.length < (A ++ L).length := hp803 c_103_1399
                            obtain ⟨x, L2, rfl⟩ : ∃ x L2, L = x :: L2 := by
                              cases L with
                              | nil => rw [List.append_nil] at hk103; exact absurd hk103 (Nat.lt_irrefl _)
                              | cons x L2 => exact ⟨x, L2, rfl⟩
                            refine j_aload dX11_replaceTable_106 rfl rfl ?_
                            obtain ⟨p812, hp812, hq812, hk812, hv0812, hv1812, hv2812⟩ := hR.prB hm (t := i599) (k := A.length) (by omega) ((congrFun sp_tcT _).trans z_fu_self) sp_mid?
                            refine j_callF (x := ⟨"java/util/Iterator", "next", "()Ljava/lang/Object;"⟩) (q := (RJx35411, TJx35411, 4)) dX11_replaceTable_108 kJx35411_next_0502b ⟨(z_w 1775 ((lwt_8_1 20).trans rfl) (by decide +kernel)), (z_w 1778 ((lwt_8_1 23).trans rfl) (by decide +kernel)), inJx35411_next_0502b, ⟨by decide, by decide⟩, rfl, fun U h => h.2.2.1⟩ git rfl (cl_next hl w74 58 it801 (51 + i599) _ (A.length) _ _ _ (hm.tb (t := i599) (by omega)) ⟨_, git⟩ hq812 hita801 hitb801 (by omega)) (Nat.le_of_ble_eq_true rfl) ⟨(by show _ ≤ 2; omega), (by show _ ≤ 11; omega)⟩ rfl (Nat.le_of_ble_eq_true rfl) rfl ?_
                            rintro _ w76 ⟨rfl, fw76, la76, git76⟩
                            have g76_x4 := fw76.g (Or.inr (by omega)) gx
                            have fm76 := fw76.fm (q := 59) (by omega)
                            have h76 := hm.gar fw76 (by omega)
                            refine j_castS dX11_replaceTable_113 (z_w 1663 ((lwt_7_5 28).trans rfl) (by decide +kernel)) (z_isA ((h76.pr (t := i599) (by omega)).1 p812 hp812).2) ?_
                            refine j_astore (lo' := [(6, _), (0, _), (1, _), (2, _), (3, _), (4, _), (5, _)]) dX11_replaceTable_116 rfl (by decide) rfl ?_
                            refine j_aload dX11_replaceTable_118 rfl rfl ?_
                            refine j_iconst (v := 1) dX11_replaceTable_120 (by decide) ?_
                            refine j_dup2 dX11_replaceTable_121 rfl rfl ?_
                            refine j_ld dX11_replaceTable_122 g76_x4 (vp_in_nI (n := 1) (by decide) (by decide)) ?_
                            refine j_iconst (v := 1) dX11_replaceTable_123 (by decide) ?_
                            refine j_iadd dX11_replaceTable_124 ?_
                            refine j_sto (w' := _) dX11_replaceTable_125 g76_x4 (vp_in_nI (n := 1) (by decide) (by decide)) rfl ?_
                            refine j_seal hx4a ?_
                            intro w77 u77
                            have fw77 := u77.fw hx4a hx4b
                            have g77_it801 := (u77.2.1 it801 (Ne.symm n_x4_it801)).trans git76
                            have g77_x4 := u77.1
                            have h77 := h76.gar fw77 (by omega)
                            refine j_aload dX11_replaceTable_126 rfl rfl ?_
                            refine j_iconst (v := 2) dX11_replaceTable_128 (by decide) ?_
                            refine j_dup2 dX11_replaceTable_129 rfl rfl ?_
                            refine j_ld dX11_replaceTable_130 g77_x4 (vp_in_nI (n := 2) (by decide) (by decide)) ?_
                            refine j_iconst (v := 1) dX11_replaceTable_131 (by decide) ?_
                            refine j_iadd dX11_replaceTable_132 ?_
                            refine j_sto (w' := _) dX11_replaceTable_133 g77_x4 (vp_in_nI (n := 2) (by decide) (by decide)) rfl ?_
                            refine j_seal hx4a ?_
                            intro w78 u78
                            have fw78 := u78.fw hx4a hx4b
                            have g78_it801 := (u78.2.1 it801 (Ne.symm n_x4_it801)).trans g77_it801
                            have g78_x4 := u78.1
                            have h78 := h77.gar fw78 (by omega)
                            refine j_iload_n dX11_replaceTable_134 rfl ?_
                            refine j_aload dX11_replaceTable_135 rfl rfl ?_
                            refine j_iconst (v := 0) dX11_replaceTable_137 (by decide) ?_
                            refine j_ld dX11_replaceTable_138 ((h78.pr (t := i599) (by omega)).1 p812 hp812).2 (vp_in_nI (n := 0) (by decide) (by decide)) ?_
                            refine j_top (congrArg Value.int (show _ = nI x.1 from by rw [show (0 : Int32).toNatClampNeg = 0 from by decide]; exact hv0812)) ?_
                            refine j_aload dX11_replaceTable_139 rfl rfl ?_
                            refine j_iconst (v := 1) dX11_replaceTable_141 (by decide) ?_
                            refine j_ld dX11_replaceTable_142 ((h78.pr (t := i599) (by omega)).1 p812 hp812).2 (vp_in_nI (n := 1) (by decide) (by decide)) ?_
                            refine j_top (congrArg Value.int (show _ = x.2 from by rw [show (1 : Int32).toNatClampNeg = 1 from by decide]; exact hv1812)) ?_
                            refine j_iload_n dX11_replaceTable_143 rfl ?_
                            refine j_callS dX11_replaceTable_144 kX11_rule lX11_115 stX11_rule (cm_rule_r hl w78 _ _ _ _ (hv _ List.mem_cons_self).2 (sp_vl (by assumption)).2) (Nat.le_of_ble_eq_true rfl) ⟨(by show _ ≤ 2; omega), (by show _ ≤ 11; omega)⟩ rfl (Nat.le_of_ble_eq_true rfl) rfl rfl (fun _ _ h => h.elim) ?_
                            rintro _ _ ⟨⟨rfl, hq820⟩ | ⟨y820, rfl, hq820, hne820⟩, hw820⟩
                            · refine j_w w78 hw820 ?_
                              refine j_istore (lo' := [(7, _), (6, _), (0, _), (1, _), (2, _), (3, _), (4, _), (5, _)]) dX11_replaceTable_147 (by decide) rfl ?_
                              refine j_iload dX11_replaceTable_149 rfl ?_
                              refine j_ldc dX11_replaceTable_151 kcX11_67 ?_
                              refine j_icmp_ne (tgt := 161) dX11_replaceTable_153 (by decide) (fun c_153_1490 => ?_) (fun c_153_1490 => ?_)
                              · exact absurd c_153_1490 (by decide)
                              · refine j_aload_n dX11_replaceTable_156 rfl rfl ?_
                                refine j_callV (q := (RX11, TX11, 8)) dX11_replaceTable_157 kX11_nine lX11_105 inX11_nine seX11_nine h78.m rfl (cm_nine hl w78 _ h78) (Nat.le_of_ble_eq_true rfl) ⟨(by show _ ≤ 2; omega), (by show _ ≤ 11; omega)⟩ rfl (Nat.le_of_ble_eq_true rfl) rfl rfl (fun _ _ h => h.elim) ?_
                                rintro _ w79 ⟨rfl, fm79, h79⟩
                                have g79_it801 := fm79.g hita801 (by rw [hitb801]; decide) g78_it801
                                have g79_x4 := fm79.g hx4a (by rw [hx4b]; decide) g78_x4
                                have R79 := hR.ni
                                refine j_iret dX11_replaceTable_160 rfl rfl ?_ (by show _ ≤ 2; omega) (by show _ ≤ 11; omega)
                                refine cast (congrFun (congrFun hQ9 _) _) ?_
                                rw [sp_rtN hq820] at he
                                try rw [ei599]
                                refine ⟨_, _, rfl, ((((hfm.tr fm76).tr (fw77.fm (q := 59) (by omega))).tr (fw78.fm (q := 59) (by omega))).tr (fm79.le (q' := 59) (by decide))), h79, sp_X0 ?_ hth (by unfold sp_ctbS; rw [← he]; have e := R79; rw [sp_tcn hb54] at e; show sp_MR (sp_nine (sp_tc (sp_uT S _ _) _ _)) _; rw [sp_tcn hb54]; exact e) (by rw [← he]; rfl)⟩
                                first | (first | (refine sp_k32_0 ?_ ?_ <;> (first | (with_reducible assumption) | (refine Or.inl ?_; (with_reducible assumption)) | (refine Or.inr ?_; (with_reducible assumption)) | (refine Or.inr (Or.inl ?_); (with_reducible assumption)) | (refine Or.inr (Or.inr ?_); (with_reducible assumption)) | (refine Or.inr (Or.inr (Or.inl ?_)); (with_reducible assumption)) | (refine Or.inr (Or.inr (Or.inr ?_)); (with_reducible assumption)) | (refine fun z => Or.elim z ?_ ?_ <;> (with_reducible assumption)) | (refine fun z => Or.elim z ?_ (fun z => Or.elim z ?_ ?_) <;> (with_reducible assumption)) | (refine fun z => Or.elim z ?_ (fun z => Or.elim z ?_ (fun z => Or.elim z ?_ ?_)) <;> (with_reducible assumption)) | (refine fun z => Or.elim z (fun z9 => z9 ?_) ?_ <;> (first | (with_reducible assumption) | (refine Or.inl ?_; (with_reducible assumption)) | (refine Or.inr (Or.inl ?_); (with_reducible assumption)) | (refine Or.inr (Or.inr ?_); (with_reducible assumption)) | (refine Or.inr (Or.inr (Or.inl ?_)); (with_reducible assumption)) | (refine Or.inr (Or.inr (Or.inr ?_)); (with_reducible assumption)))) | (refine Or.inl (fun z => Or.elim z ?_ (fun z => Or.elim z ?_ ?_)) <;> (with_reducible assumption)) | (refine Or.inl (fun z => Or.elim z ?_ (fun z => Or.elim z ?_ (fun z => Or.elim z ?_ ?_))) <;> (with_reducible assumption))))) | (first | (refine sp_k32_0 ?_ ?_ <;> (first | assumption | (refine Or.inl ?_; assumption) | (refine Or.inr ?_; assumption) | (refine Or.inr (Or.inl ?_); assumption) | (refine Or.inr (Or.inr ?_); assumption) | (refine Or.inr (Or.inr (Or.inl ?_)); assumption) | (refine Or.inr (Or.inr (Or.inr ?_)); assumption) | (refine fun z => Or.elim z ?_ ?_ <;> assumption) | (refine fun z => Or.elim z ?_ (fun z => Or.elim z ?_ ?_) <;> assumption) | (refine fun z => Or.elim z ?_ (fun z => Or.elim z ?_ (fun z => Or.elim z ?_ ?_)) <;> assumption) | (refine fun z => Or.elim z (fun z9 => z9 ?_) ?_ <;> (first | assumption | (refine Or.inl ?_; assumption) | (refine Or.inr (Or.inl ?_); assumption) | (refine Or.inr (Or.inr ?_); assumption) | (refine Or.inr (Or.inr (Or.inl ?_)); assumption) | (refine Or.inr (Or.inr (Or.inr ?_)); assumption))) | (refine Or.inl (fun z => Or.elim z ?_ (fun z => Or.elim z ?_ ?_)) <;> assumption) | (refine Or.inl (fun z => Or.elim z ?_ (fun z => Or.elim z ?_ (fun z => Or.elim z ?_ ?_))) <;> assumption))))
                            · refine j_w w78 hw820 ?_
                              refine j_istore (lo' := [(7, _), (6, _), (0, _), (1, _), (2, _), (3, _), (4, _), (5, _)]) dX11_replaceTable_147 (by decide) rfl ?_
                              refine j_iload dX11_replaceTable_149 rfl ?_
                              refine j_ldc dX11_replaceTable_151 kcX11_67 ?_
                              refine j_icmp_ne (tgt := 161) dX11_replaceTable_153 (by decide) (fun c_153_1508 => ?_) (fun c_153_1508 => ?_)
                              · refine j_aload dX11_replaceTable_161 rfl rfl ?_
                                refine j_iconst (v := 1) dX11_replaceTable_163 (by decide) ?_
                                refine j_iload dX11_replaceTable_164 rfl ?_
                                refine j_sto (w' := _) dX11_replaceTable_166 ((h78.pr (t := i599) (by omega)).1 p812 hp812).2 (vp_in_nI (n := 1) (by decide) (by decide)) rfl ?_
                                have hnd : (sp_ks (A ++ x :: L2)).Nodup := hR.kd h78 (t := i599) (by omega) ((congrFun sp_tcT _).trans z_fu_self)
                                refine j_seal (((h78.pr (t := i599) (by omega)).1 p812 hp812).1.1) ?_
                                intro w80 u80
                                have hpp80 := ((h78.pr (t := i599) (by omega)).1 p812 hp812).1
                                have hpq80 := hpp80.2.1
                                have g80_it801 := (u80.2.1 it801 (by omega)).trans g78_it801
                                have g80_x4 := (u80.2.1 x4 (by omega)).trans g78_x4
                                have fw80 := u80.fw (ρ := 14 + i599) hpp80.1 hpp80.2.1
                                have h80 := h78.up14 (t0 := i599) (by omega) hp812 u80 (z_ui_ne (by decide))
                                have R80 := hR.uk (t0 := i599) (F := z_ui (z_qk _ p812) ((1 : Int32).toNatClampNeg) y820) (v := y820) h78 (by omega) hp812 (z_ui_ne (by decide)) (by rw [show (1 : Int32).toNatClampNeg = 1 from by decide]; exact z_ui_self)
                                rw [hv0812, z_cla (by omega)] at R80
                                rw [show sp_T (sp_tc (sp_uT S i599 (A ++ x :: L2)) i599 _) i599 = A ++ x :: L2 from (congrFun sp_tcT _).trans z_fu_self, sp_st_mid hnd, sp_tcu, sp_uTT] at R80
                                refine j_aload dX11_replaceTable_167 rfl rfl ?_
                                refine j_iconst (v := 3) dX11_replaceTable_169 (by decide) ?_
                                refine j_dup2 dX11_replaceTable_170 rfl rfl ?_
                                refine j_ld dX11_replaceTable_171 g80_x4 (vp_in_nI (n := 3) (by decide) (by decide)) ?_
                                refine j_iconst (v := 1) dX11_replaceTable_172 (by decide) ?_
                                refine j_iadd dX11_replaceTable_173 ?_
                                refine j_sto (w' := _) dX11_replaceTable_174 g80_x4 (vp_in_nI (n := 3) (by decide) (by decide)) rfl ?_
                                refine j_seal hx4a ?_
                                intro w81 u81
                                have fw81 := u81.fw hx4a hx4b
                                have g81_it801 := (u81.2.1 it801 (Ne.symm n_x4_it801)).trans g80_it801
                                have g81_x4 := u81.1
                                have h81 := h80.gar fw81 (by omega)
                                refine j_goto (tgt := 96) dX11_replaceTable_175 (by decide) ?_
                                refine j_widen (kc' := 2) (ks' := 11) (by omega) (by omega) ?_
                                exact j_lo2 (ih w81 _ (A ++ [(x.1, y820)]) L2 _ (z_bp (z_bp (z_bp c 1) 2) 3) _ (by rw [List.length_cons] at hf9; omega) sp_apl (by rw [sp_rtS hq820] at he; exact he) (fun p hp => hv p (List.mem_cons_of_mem _ hp)) (by rw [← sp_mid]; exact (sp_MR.bpXu hb54 R80)) (by exact hth) h81 (((((hfm.tr fm76).tr (fw77.fm (q := 59) (by omega))).tr (fw78.fm (q := 59) (by omega))).tr (fw80.fm (q := 59) (by omega))).tr (fw81.fm (q := 59) (by omega))) (by rw [List.length_append]; exact g81_it801) g81_x4) (z_q1 rfl (z_q1 rfl (z_q1 rfl (z_q1 rfl (z_q1 rfl (z_q1 rfl z_q0))))))
                              · exact absurd c_153_1508 hne820
                      refine j_widen (kc' := 2) (ks' := 11) (by omega) (by omega) ?_
                      exact j_lo2 (loop96 ((sp_T S i599).length + 1) w73 _ [] (sp_T S i599) _ (z_bp (sp_C S 2) 0) _ (Nat.lt_succ_self _) sp_apl (by exact rfl) (fun p hp => ((ok.2.1 i599 (by omega)).2 p hp).2) (by rw [List.nil_append, sp_uT_id, sp_tcn hb54]; exact R2) (by exact rfl) h73 ((((fm2.le (q' := 59) (by decide)).tr (fw71.fm (q := 59) (by omega))).tr (fw72.fm (q := 59) (by omega))).tr fm73) git801 g73_x4) (z_q1 rfl (z_q1 rfl (z_q1 rfl (z_q1 rfl (z_q1 rfl (z_q1 rfl z_q0))))))
                    · have hb54 : i599 = 0 := nI_inj (a := i599) (b := 0) c_54_1347 (by omega) (by omega)
                      refine j_aload_n dX11_replaceTable_57 rfl rfl ?_
                      refine j_getf dX11_replaceTable_58 fX11_31 h2.m rfl ?_
                      refine j_iconst (v := 2) dX11_replaceTable_61 (by decide) ?_
                      obtain ⟨fz825, gz825, hz825⟩ := h2.co
                      refine j_aald (v := .ref (1004 + 2)) dX11_replaceTable_62 gz825 rfl rfl (vp_in_nI (n := 2) (by decide) (by decide)) (by rw [show (2 : Int32).toNatClampNeg = 2 by decide]; exact hz825 _ (by decide)) ?_
                      refine j_goto (tgt := 70) dX11_replaceTable_63 (by decide) ?_
                      refine j_astore (lo' := [(4, _), (0, _), (1, _), (2, _), (3, _)]) dX11_replaceTable_70 rfl (by decide) rfl ?_
                      refine j_aload dX11_replaceTable_72 rfl rfl ?_
                      refine j_iconst (v := 0) dX11_replaceTable_74 (by decide) ?_
                      refine j_dup2 dX11_replaceTable_75 rfl rfl ?_
                      refine j_ld dX11_replaceTable_76 (h2.cn (i := 2) (by decide)) (vp_in_nI (n := 0) (by decide) (by decide)) ?_
                      refine j_iconst (v := 1) dX11_replaceTable_77 (by decide) ?_
                      refine j_iadd dX11_replaceTable_78 ?_
                      refine j_sto (w' := _) dX11_replaceTable_79 (h2.cn (i := 2) (by decide)) (vp_in_nI (n := 0) (by decide) (by decide)) rfl ?_
                      refine j_seal (by omega) ?_
                      intro w82 u82
                      have fw82 := u82.fw (ρ := 44 + 2) (by omega) (by omega)
                      have h82 := h2.up44 (i0 := 2) (by decide) fw82 u82.1
                      rw [show (0 : Int32).toNatClampNeg = 0 by decide] at h82
                      have R82 := R2.bp (i := 2) (k := 0) (by omega) (by decide)
                      refine j_aload_n dX11_replaceTable_80 rfl rfl ?_
                      refine j_getf dX11_replaceTable_81 fX11_34 h82.m rfl ?_
                      refine j_iload_n dX11_replaceTable_84 rfl ?_
                      obtain ⟨lv829, -, lg829⟩ := z_li.cell h82.tabs
                      refine j_callV (q := (RJx4a65c, TJx4a65c, 3)) dX11_replaceTable_85 kJx4a65c_get_915e3 lX11_82 inJx4a65c_get_915e3 seJx4a65c_get_915e3 lg829 rfl (cl_get hl w82 47 1007 _ _ (i599) _ h82.tabs (z_thr3 (t := i599) (by omega))) (Nat.le_of_ble_eq_true rfl) ⟨(by show _ ≤ 2; omega), (by show _ ≤ 11; omega)⟩ rfl (Nat.le_of_ble_eq_true rfl) rfl rfl (fun _ _ h => h.elim) ?_
                      rintro _ _ ⟨rfl, hw830⟩
                      refine j_w w82 hw830 ?_
                      refine j_castS dX11_replaceTable_88 (z_w 1341 ((lwt_6_3 6).trans rfl) (by decide +kernel)) (z_li.is (h82.tb (t := i599) (by omega))) ?_
                      obtain ⟨lv833, -, lg833⟩ := z_li.cell (h82.tb (t := i599) (by omega))
                      refine j_callV (q := (RJx4a65c, TJx4a65c, 3)) dX11_replaceTable_91 kJx4a65c_iterator_32c93 lX11_162 inJx4a65c_iterator_32c93 seJx4a65c_iterator_32c93 lg833 rfl (cl_iter hl w82 58 (51 + i599) _ _ _ (h82.tb (t := i599) (by omega)) (by decide) (by omega) h82.fn) (Nat.le_of_ble_eq_true rfl) ⟨(by show _ ≤ 2; omega), (by show _ ≤ 11; omega)⟩ rfl (Nat.le_of_ble_eq_true rfl) rfl rfl (fun _ _ h => h.elim) ?_
                      rintro _ w83 ⟨it832, rfl, fw83, hita832, hitb832, hitc832, la832, git832⟩
                      have hita832 : 1000 ≤ it832 := hita832
                      have hitb832 : it832 % 64 = 58 := hitb832
                      have fm83 := fw83.fm (q := 59) (by omega)
                      have h83 := h82.gar fw83 (by omega)
                      refine j_astore (lo' := [(5, _), (4, _), (0, _), (1, _), (2, _), (3, _)]) dX11_replaceTable_94 rfl (by decide) rfl ?_
                      have loop96 : ∀ (n9 : Nat) (w84 : z_W) (s1 : z_Z) (A L : List (Nat × Int32)) (la : Int32) (c : Nat → Int32), (L.length < n9) → (A.length ≤ (A ++ L).length) → (sp_rt r n c A L = sp_ctb S i599 r n) → (∀ p ∈ L, z_vl p.2) → (sp_MR (sp_tc (sp_uT S i599 (A ++ L)) i599 c) s1) → (s1.1.1 = 0) → (z_mst w84 s1) → (z_fm 59 w w84) → (z_g w84 it832 = some (.inr (3, [.int (nI A.length), .int la, .int (z_qp s1 i599).1, .ref (1011 + i599)]))) → z_J G l mX11_replaceTable (22, 2, 11, w, Q9, (fun _ _ => False)) 96 [(0, .ref 1000), (1, .int (nI i599)), (2, .int r), (3, .int n), (4, .ref (1004 + 2)), (5, .ref it832)] [] w84 2 11 := by
                        intro n9
                        induction n9 with
                        | zero => intro w84 s1 A L la c hf9 hAl he hv hR hth hm hfm git; exact absurd hf9 (Nat.not_lt_zero _)
                        | succ n9 ih =>
                          intro w84 s1 A L la c hf9 hAl he hv hR hth hm hfm git
                          refine j_aload dX11_replaceTable_96 rfl rfl ?_
                          refine j_callF (x := ⟨"java/util/Iterator", "hasNext", "()Z"⟩) (q := (RJx35411, TJx35411, 4)) dX11_replaceTable_98 kJx35411_hasNext_aae02 ⟨(z_w 1765 ((lwt_8_1 10).trans rfl) (by decide +kernel)), (z_w 1769 ((lwt_8_1 14).trans rfl) (by decide +kernel)), inJx35411_hasNext_aae02, ⟨by decide, by decide⟩, rfl, fun U h => h.2.1⟩ git rfl (cl_hasN hl w84 _ (51 + i599) _ (A.length) _ _ (hm.tb (t := i599) (by omega)) ⟨_, git⟩ (by rw [z_rs_len, hR.tlB (by omega) ((congrFun sp_tcT _).trans z_fu_self)]; omega)) (Nat.le_of_ble_eq_true rfl) ⟨(by show _ ≤ 2; omega), (by show _ ≤ 11; omega)⟩ rfl (Nat.le_of_ble_eq_true rfl) rfl ?_
                          rintro _ _ ⟨⟨x834, rfl, hz834, hp834⟩, hw834⟩
                          refine j_w w84 hw834 ?_
                          rw [z_rs_len, hR.tlB (by omega) ((congrFun sp_tcT _).trans z_fu_self)] at hz834 hp834
                          refine j_if_eq (tgt := 178) dX11_replaceTable_103 (by decide) (fun c_103_1592 => ?_) (fun c_103_1592 => ?_)
                          · have hk103 : A.length = (A ++ L).length := hz834 c_103_1592
                            obtain rfl : L = [] := List.eq_nil_of_length_eq_zero (by rw [List.length_append] at hk103; omega)
                            refine j_aload dX11_replaceTable_178 rfl rfl ?_
                            refine j_iconst (v := 1) dX11_replaceTable_180 (by decide) ?_
                            refine j_dup2 dX11_replaceTable_181 rfl rfl ?_
                            refine j_ld dX11_replaceTable_182 (hm.cn (i := 2) (by decide)) (vp_in_nI (n := 1) (by decide) (by decide)) ?_
                            refine j_iconst (v := 1) dX11_replaceTable_183 (by decide) ?_
                            refine j_iadd dX11_replaceTable_184 ?_
                            refine j_sto (w' := _) dX11_replaceTable_185 (hm.cn (i := 2) (by decide)) (vp_in_nI (n := 1) (by decide) (by decide)) rfl ?_
                            refine j_seal (by omega) ?_
                            intro w85 u85
                            have fw85 := u85.fw (ρ := 44 + 2) (by omega) (by omega)
                            have g85_it832 := (fun z => (u85.2.1 it832 (fun z9 => by have h9 := hitb832; rw [z9] at h9; omega)).trans z) git
                            have h85 := hm.up44 (i0 := 2) (by decide) fw85 u85.1
                            rw [show (1 : Int32).toNatClampNeg = 1 by decide] at h85
                            have R85 := sp_MR.bpTu (k := 1) hb54 hR (by decide)
                            refine j_aload_n dX11_replaceTable_186 rfl rfl ?_
                            refine j_getf dX11_replaceTable_187 fX11_34 h85.m rfl ?_
                            refine j_iload_n dX11_replaceTable_190 rfl ?_
                            obtain ⟨lv838, -, lg838⟩ := z_li.cell h85.tabs
                            refine j_callV (q := (RJx4a65c, TJx4a65c, 3)) dX11_replaceTable_191 kJx4a65c_get_915e3 lX11_82 inJx4a65c_get_915e3 seJx4a65c_get_915e3 lg838 rfl (cl_get hl w85 47 1007 _ _ (i599) _ h85.tabs (z_thr3 (t := i599) (by omega))) (Nat.le_of_ble_eq_true rfl) ⟨(by show _ ≤ 2; omega), (by show _ ≤ 11; omega)⟩ rfl (Nat.le_of_ble_eq_true rfl) rfl rfl (fun _ _ h => h.elim) ?_
                            rintro _ _ ⟨rfl, hw839⟩
                            refine j_w w85 hw839 ?_
                            refine j_castS dX11_replaceTable_194 (z_w 1341 ((lwt_6_3 6).trans rfl) (by decide +kernel)) (z_li.is (h85.tb (t := i599) (by omega))) ?_
                            obtain ⟨lv841, -, lg841⟩ := z_li.cell (h85.tb (t := i599) (by omega))
                            refine j_callV (q := (RJx4a65c, TJx4a65c, 3)) dX11_replaceTable_197 kJx4a65c_size_8abf5 lX11_86 inJx4a65c_size_8abf5 seJx4a65c_size_8abf5 lg841 rfl (cl_sizeT hl w85 (i599) ((A ++ [])) h85 R85 (by omega) ((congrFun sp_tcT _).trans z_fu_self)) (Nat.le_of_ble_eq_true rfl) ⟨(by show _ ≤ 2; omega), (by show _ ≤ 11; omega)⟩ rfl (Nat.le_of_ble_eq_true rfl) rfl rfl (fun _ _ h => h.elim) ?_
                            rintro _ _ ⟨rfl, hw842⟩
                            refine j_w w85 hw842 ?_
                            have hz842 : ((A ++ [])).length ≤ 20 := R85.l20 h85 (t := i599) (by omega) ((congrFun sp_tcT _).trans z_fu_self)
                            refine j_iret dX11_replaceTable_200 rfl rfl ?_ (by show _ ≤ 2; omega) (by show _ ≤ 11; omega)
                            refine cast (congrFun (congrFun hQ9 _) _) ?_
                            rw [List.append_nil] at R85
                            try rw [ei599]
                            refine ⟨_, _, rfl, (hfm.tr (fw85.fm (q := 59) (by omega))), h85, sp_X0 ?_ hth (by unfold sp_ctbS; rw [← he]; exact R85) (by rw [← he, List.append_nil]; rfl)⟩
                            first | (first | (refine sp_k32_0 ?_ ?_ <;> (first | (with_reducible assumption) | (refine Or.inl ?_; (with_reducible assumption)) | (refine Or.inr ?_; (with_reducible assumption)) | (refine Or.inr (Or.inl ?_); (with_reducible assumption)) | (refine Or.inr (Or.inr ?_); (with_reducible assumption)) | (refine Or.inr (Or.inr (Or.inl ?_)); (with_reducible assumption)) | (refine Or.inr (Or.inr (Or.inr ?_)); (with_reducible assumption)) | (refine fun z => Or.elim z ?_ ?_ <;> (with_reducible assumption)) | (refine fun z => Or.elim z ?_ (fun z => Or.elim z ?_ ?_) <;> (with_reducible assumption)) | (refine fun z => Or.elim z ?_ (fun z => Or.elim z ?_ (fun z => Or.elim z ?_ ?_)) <;> (with_reducible assumption)) | (refine fun z => Or.elim z (fun z9 => z9 ?_) ?_ <;> (first | (with_reducible assumption) | (refine Or.inl ?_; (with_reducible assumption)) | (refine Or.inr (Or.inl ?_); (with_reducible assumption)) | (refine Or.inr (Or.inr ?_); (with_reducible assumption)) | (refine Or.inr (Or.inr (Or.inl ?_)); (with_reducible assumption)) | (refine Or.inr (Or.inr (Or.inr ?_)); (with_reducible assumption)))) | (refine Or.inl (fun z => Or.elim z ?_ (fun z => Or.elim z ?_ ?_)) <;> (with_reducible assumption)) | (refine Or.inl (fun z => Or.elim z ?_ (fun z => Or.elim z ?_ (fun z => Or.elim z ?_ ?_))) <;> (with_reducible assumption))))) | (first | (refine sp_k32_0 ?_ ?_ <;> (first | assumption | (refine Or.inl ?_; assumption) | (refine Or.inr ?_; assumption) | (refine Or.inr (Or.inl ?_); assumption) | (refine Or.inr (Or.inr ?_); assumption) | (refine Or.inr (Or.inr (Or.inl ?_)); assumption) | (refine Or.inr (Or.inr (Or.inr ?_)); assumption) | (refine fun z => Or.elim z ?_ ?_ <;> assumption) | (refine fun z => Or.elim z ?_ (fun z => Or.elim z ?_ ?_) <;> assumption) | (refine fun z => Or.elim z ?_ (fun z => Or.elim z ?_ (fun z => Or.elim z ?_ ?_)) <;> assumption) | (refine fun z => Or.elim z (fun z9 => z9 ?_) ?_ <;> (first | assumption | (refine Or.inl ?_; assumption) | (refine Or.inr (Or.inl ?_); assumption) | (refine Or.inr (Or.inr ?_); assumption) | (refine Or.inr (Or.inr (Or.inl ?_)); assumption) | (refine Or.inr (Or.inr (Or.inr ?_)); assumption))) | (refine Or.inl (fun z => Or.elim z ?_ (fun z => Or.elim z ?_ ?_)) <;> assumption) | (refine Or.inl (fun z => Or.elim z ?_ (fun z => Or.elim z ?_ (fun z => Or.elim z ?_ ?_))) <;> assumption))))
                          · have hk103 : A.length < (A ++ L).length := hp834 c_103_1592
                            obtain ⟨x, L2, rfl⟩ : ∃ x L2, L = x :: L2 := by
                              cases L with
                              | nil => rw [List.append_nil] at hk103; exact absurd hk103 (Nat.lt_irrefl _)
                              | cons x L2 => exact ⟨x, L2, rfl⟩
                            refine j_aload dX11_replaceTable_106 rfl rfl ?_
                            obtain ⟨p843, hp843, hq843, hk843, hv0843, hv1843, hv2843⟩ := hR.prB hm (t := i599) (k := A.length) (by omega) ((congrFun sp_tcT _).trans z_fu_self) sp_mid?
                            refine j_callF (x := ⟨"java/util/Iterator", "next", "()Ljava/lang/Object;"⟩) (q := (RJx35411, TJx35411, 4)) dX11_replaceTable_108 kJx35411_next_0502b ⟨(z_w 1775 ((lwt_8_1 20).trans rfl) (by decide +kernel)), (z_w 1778 ((lwt_8_1 23).trans rfl) (by decide +kernel)), inJx35411_next_0502b, ⟨by decide, by decide⟩, rfl, fun U h => h.2.2.1⟩ git rfl (cl_next hl w84 58 it832 (51 + i599) _ (A.length) _ _ _ (hm.tb (t := i599) (by omega)) ⟨_, git⟩ hq843 hita832 hitb832 (by omega)) (Nat.le_of_ble_eq_true rfl) ⟨(by show _ ≤ 2; omega), (by show _ ≤ 11; omega)⟩ rfl (Nat.le_of_ble_eq_true rfl) rfl ?_
                            rintro _ w86 ⟨rfl, fw86, la86, git86⟩
                            have fm86 := fw86.fm (q := 59) (by omega)
                            have h86 := hm.gar fw86 (by omega)
                            refine j_castS dX11_replaceTable_113 (z_w 1663 ((lwt_7_5 28).trans rfl) (by decide +kernel)) (z_isA ((h86.pr (t := i599) (by omega)).1 p843 hp843).2) ?_
                            refine j_astore (lo' := [(6, _), (0, _), (1, _), (2, _), (3, _), (4, _), (5, _)]) dX11_replaceTable_116 rfl (by decide) rfl ?_
                            refine j_aload dX11_replaceTable_118 rfl rfl ?_
                            refine j_iconst (v := 1) dX11_replaceTable_120 (by decide) ?_
                            refine j_dup2 dX11_replaceTable_121 rfl rfl ?_
                            refine j_ld dX11_replaceTable_122 (h86.cn (i := 2) (by decide)) (vp_in_nI (n := 1) (by decide) (by decide)) ?_
                            refine j_iconst (v := 1) dX11_replaceTable_123 (by decide) ?_
                            refine j_iadd dX11_replaceTable_124 ?_
                            refine j_sto (w' := _) dX11_replaceTable_125 (h86.cn (i := 2) (by decide)) (vp_in_nI (n := 1) (by decide) (by decide)) rfl ?_
                            refine j_seal (by omega) ?_
                            intro w87 u87
                            have fw87 := u87.fw (ρ := 44 + 2) (by omega) (by omega)
                            have g87_it832 := (fun z => (u87.2.1 it832 (fun z9 => by have h9 := hitb832; rw [z9] at h9; omega)).trans z) git86
                            have h87 := h86.up44 (i0 := 2) (by decide) fw87 u87.1
                            rw [show (1 : Int32).toNatClampNeg = 1 by decide] at h87
                            have R87 := sp_MR.bpTu (k := 1) hb54 hR (by decide)
                            refine j_aload dX11_replaceTable_126 rfl rfl ?_
                            refine j_iconst (v := 2) dX11_replaceTable_128 (by decide) ?_
                            refine j_dup2 dX11_replaceTable_129 rfl rfl ?_
                            refine j_ld dX11_replaceTable_130 (h87.cn (i := 2) (by decide)) (vp_in_nI (n := 2) (by decide) (by decide)) ?_
                            refine j_iconst (v := 1) dX11_replaceTable_131 (by decide) ?_
                            refine j_iadd dX11_replaceTable_132 ?_
                            refine j_sto (w' := _) dX11_replaceTable_133 (h87.cn (i := 2) (by decide)) (vp_in_nI (n := 2) (by decide) (by decide)) rfl ?_
                            refine j_seal (by omega) ?_
                            intro w88 u88
                            have fw88 := u88.fw (ρ := 44 + 2) (by omega) (by omega)
                            have g88_it832 := (fun z => (u88.2.1 it832 (fun z9 => by have h9 := hitb832; rw [z9] at h9; omega)).trans z) g87_it832
                            have h88 := h87.up44 (i0 := 2) (by decide) fw88 u88.1
                            rw [show (2 : Int32).toNatClampNeg = 2 by decide] at h88
                            have R88 := sp_MR.bpTu (k := 2) hb54 R87 (by decide)
                            refine j_iload_n dX11_replaceTable_134 rfl ?_
                            refine j_aload dX11_replaceTable_135 rfl rfl ?_
                            refine j_iconst (v := 0) dX11_replaceTable_137 (by decide) ?_
                            refine j_ld dX11_replaceTable_138 ((h88.pr (t := i599) (by omega)).1 p843 hp843).2 (vp_in_nI (n := 0) (by decide) (by decide)) ?_
                            refine j_top (congrArg Value.int (show _ = nI x.1 from by rw [show (0 : Int32).toNatClampNeg = 0 from by decide]; exact hv0843)) ?_
                            refine j_aload dX11_replaceTable_139 rfl rfl ?_
                            refine j_iconst (v := 1) dX11_replaceTable_141 (by decide) ?_
                            refine j_ld dX11_replaceTable_142 ((h88.pr (t := i599) (by omega)).1 p843 hp843).2 (vp_in_nI (n := 1) (by decide) (by decide)) ?_
                            refine j_top (congrArg Value.int (show _ = x.2 from by rw [show (1 : Int32).toNatClampNeg = 1 from by decide]; exact hv1843)) ?_
                            refine j_iload_n dX11_replaceTable_143 rfl ?_
                            refine j_callS dX11_replaceTable_144 kX11_rule lX11_115 stX11_rule (cm_rule_r hl w88 _ _ _ _ (hv _ List.mem_cons_self).2 (sp_vl (by assumption)).2) (Nat.le_of_ble_eq_true rfl) ⟨(by show _ ≤ 2; omega), (by show _ ≤ 11; omega)⟩ rfl (Nat.le_of_ble_eq_true rfl) rfl rfl (fun _ _ h => h.elim) ?_
                            rintro _ _ ⟨⟨rfl, hq851⟩ | ⟨y851, rfl, hq851, hne851⟩, hw851⟩
                            · refine j_w w88 hw851 ?_
                              refine j_istore (lo' := [(7, _), (6, _), (0, _), (1, _), (2, _), (3, _), (4, _), (5, _)]) dX11_replaceTable_147 (by decide) rfl ?_
                              refine j_iload dX11_replaceTable_149 rfl ?_
                              refine j_ldc dX11_replaceTable_151 kcX11_67 ?_
                              refine j_icmp_ne (tgt := 161) dX11_replaceTable_153 (by decide) (fun c_153_1685 => ?_) (fun c_153_1685 => ?_)
                              · exact absurd c_153_1685 (by decide)
                              · refine j_aload_n dX11_replaceTable_156 rfl rfl ?_
                                refine j_callV (q := (RX11, TX11, 8)) dX11_replaceTable_157 kX11_nine lX11_105 inX11_nine seX11_nine h88.m rfl (cm_nine hl w88 _ h88) (Nat.le_of_ble_eq_true rfl) ⟨(by show _ ≤ 2; omega), (by show _ ≤ 11; omega)⟩ rfl (Nat.le_of_ble_eq_true rfl) rfl rfl (fun _ _ h => h.elim) ?_
                                rintro _ w89 ⟨rfl, fm89, h89⟩
                                have g89_it832 := fm89.g hita832 (by rw [hitb832]; decide) g88_it832
                                have R89 := R88.ni
                                refine j_iret dX11_replaceTable_160 rfl rfl ?_ (by show _ ≤ 2; omega) (by show _ ≤ 11; omega)
                                refine cast (congrFun (congrFun hQ9 _) _) ?_
                                rw [sp_rtN hq851] at he
                                try rw [ei599]
                                refine ⟨_, _, rfl, ((((hfm.tr fm86).tr (fw87.fm (q := 59) (by omega))).tr (fw88.fm (q := 59) (by omega))).tr (fm89.le (q' := 59) (by decide))), h89, sp_X0 ?_ hth (by unfold sp_ctbS; rw [← he]; exact R89) (by rw [← he]; rfl)⟩
                                first | (first | (refine sp_k32_0 ?_ ?_ <;> (first | (with_reducible assumption) | (refine Or.inl ?_; (with_reducible assumption)) | (refine Or.inr ?_; (with_reducible assumption)) | (refine Or.inr (Or.inl ?_); (with_reducible assumption)) | (refine Or.inr (Or.inr ?_); (with_reducible assumption)) | (refine Or.inr (Or.inr (Or.inl ?_)); (with_reducible assumption)) | (refine Or.inr (Or.inr (Or.inr ?_)); (with_reducible assumption)) | (refine fun z => Or.elim z ?_ ?_ <;> (with_reducible assumption)) | (refine fun z => Or.elim z ?_ (fun z => Or.elim z ?_ ?_) <;> (with_reducible assumption)) | (refine fun z => Or.elim z ?_ (fun z => Or.elim z ?_ (fun z => Or.elim z ?_ ?_)) <;> (with_reducible assumption)) | (refine fun z => Or.elim z (fun z9 => z9 ?_) ?_ <;> (first | (with_reducible assumption) | (refine Or.inl ?_; (with_reducible assumption)) | (refine Or.inr (Or.inl ?_); (with_reducible assumption)) | (refine Or.inr (Or.inr ?_); (with_reducible assumption)) | (refine Or.inr (Or.inr (Or.inl ?_)); (with_reducible assumption)) | (refine Or.inr (Or.inr (Or.inr ?_)); (with_reducible assumption)))) | (refine Or.inl (fun z => Or.elim z ?_ (fun z => Or.elim z ?_ ?_)) <;> (with_reducible assumption)) | (refine Or.inl (fun z => Or.elim z ?_ (fun z => Or.elim z ?_ (fun z => Or.elim z ?_ ?_))) <;> (with_reducible assumption))))) | (first | (refine sp_k32_0 ?_ ?_ <;> (first | assumption | (refine Or.inl ?_; assumption) | (refine Or.inr ?_; assumption) | (refine Or.inr (Or.inl ?_); assumption) | (refine Or.inr (Or.inr ?_); assumption) | (refine Or.inr (Or.inr (Or.inl ?_)); assumption) | (refine Or.inr (Or.inr (Or.inr ?_)); assumption) | (refine fun z => Or.elim z ?_ ?_ <;> assumption) | (refine fun z => Or.elim z ?_ (fun z => Or.elim z ?_ ?_) <;> assumption) | (refine fun z => Or.elim z ?_ (fun z => Or.elim z ?_ (fun z => Or.elim z ?_ ?_)) <;> assumption) | (refine fun z => Or.elim z (fun z9 => z9 ?_) ?_ <;> (first | assumption | (refine Or.inl ?_; assumption) | (refine Or.inr (Or.inl ?_); assumption) | (refine Or.inr (Or.inr ?_); assumption) | (refine Or.inr (Or.inr (Or.inl ?_)); assumption) | (refine Or.inr (Or.inr (Or.inr ?_)); assumption))) | (refine Or.inl (fun z => Or.elim z ?_ (fun z => Or.elim z ?_ ?_)) <;> assumption) | (refine Or.inl (fun z => Or.elim z ?_ (fun z => Or.elim z ?_ (fun z => Or.elim z ?_ ?_))) <;> assumption))))
                            · refine j_w w88 hw851 ?_
                              refine j_istore (lo' := [(7, _), (6, _), (0, _), (1, _), (2, _), (3, _), (4, _), (5, _)]) dX11_replaceTable_147 (by decide) rfl ?_
                              refine j_iload dX11_replaceTable_149 rfl ?_
                              refine j_ldc dX11_replaceTable_151 kcX11_67 ?_
                              refine j_icmp_ne (tgt := 161) dX11_replaceTable_153 (by decide) (fun c_153_1702 => ?_) (fun c_153_1702 => ?_)
                              · refine j_aload dX11_replaceTable_161 rfl rfl ?_
                                refine j_iconst (v := 1) dX11_replaceTable_163 (by decide) ?_
                                refine j_iload dX11_replaceTable_164 rfl ?_
                                refine j_sto (w' := _) dX11_replaceTable_166 ((h88.pr (t := i599) (by omega)).1 p843 hp843).2 (vp_in_nI (n := 1) (by decide) (by decide)) rfl ?_
                                have hnd : (sp_ks (A ++ x :: L2)).Nodup := R88.kd h88 (t := i599) (by omega) ((congrFun sp_tcT _).trans z_fu_self)
                                refine j_seal (((h88.pr (t := i599) (by omega)).1 p843 hp843).1.1) ?_
                                intro w90 u90
                                have hpp90 := ((h88.pr (t := i599) (by omega)).1 p843 hp843).1
                                have hpq90 := hpp90.2.1
                                have g90_it832 := (u90.2.1 it832 (by omega)).trans g88_it832
                                have fw90 := u90.fw (ρ := 14 + i599) hpp90.1 hpp90.2.1
                                have h90 := h88.up14 (t0 := i599) (by omega) hp843 u90 (z_ui_ne (by decide))
                                have R90 := R88.uk (t0 := i599) (F := z_ui (z_qk _ p843) ((1 : Int32).toNatClampNeg) y851) (v := y851) h88 (by omega) hp843 (z_ui_ne (by decide)) (by rw [show (1 : Int32).toNatClampNeg = 1 from by decide]; exact z_ui_self)
                                rw [hv0843, z_cla (by omega)] at R90
                                rw [show sp_T (sp_tc (sp_uT S i599 (A ++ x :: L2)) i599 _) i599 = A ++ x :: L2 from (congrFun sp_tcT _).trans z_fu_self, sp_st_mid hnd, sp_tcu, sp_uTT] at R90
                                refine j_aload dX11_replaceTable_167 rfl rfl ?_
                                refine j_iconst (v := 3) dX11_replaceTable_169 (by decide) ?_
                                refine j_dup2 dX11_replaceTable_170 rfl rfl ?_
                                refine j_ld dX11_replaceTable_171 (h90.cn (i := 2) (by decide)) (vp_in_nI (n := 3) (by decide) (by decide)) ?_
                                refine j_iconst (v := 1) dX11_replaceTable_172 (by decide) ?_
                                refine j_iadd dX11_replaceTable_173 ?_
                                refine j_sto (w' := _) dX11_replaceTable_174 (h90.cn (i := 2) (by decide)) (vp_in_nI (n := 3) (by decide) (by decide)) rfl ?_
                                refine j_seal (by omega) ?_
                                intro w91 u91
                                have fw91 := u91.fw (ρ := 44 + 2) (by omega) (by omega)
                                have g91_it832 := (fun z => (u91.2.1 it832 (fun z9 => by have h9 := hitb832; rw [z9] at h9; omega)).trans z) g90_it832
                                have h91 := h90.up44 (i0 := 2) (by decide) fw91 u91.1
                                rw [show (3 : Int32).toNatClampNeg = 3 by decide] at h91
                                have R91 := sp_MR.bpTu (k := 3) hb54 R90 (by decide)
                                refine j_goto (tgt := 96) dX11_replaceTable_175 (by decide) ?_
                                refine j_widen (kc' := 2) (ks' := 11) (by omega) (by omega) ?_
                                exact j_lo2 (ih w91 _ (A ++ [(x.1, y851)]) L2 _ (z_bp (z_bp (z_bp c 1) 2) 3) (by rw [List.length_cons] at hf9; omega) sp_apl (by rw [sp_rtS hq851] at he; exact he) (fun p hp => hv p (List.mem_cons_of_mem _ hp)) (by rw [← sp_mid]; exact R91) (by exact hth) h91 (((((hfm.tr fm86).tr (fw87.fm (q := 59) (by omega))).tr (fw88.fm (q := 59) (by omega))).tr (fw90.fm (q := 59) (by omega))).tr (fw91.fm (q := 59) (by omega))) (by rw [List.length_append]; exact g91_it832)) (z_q1 rfl (z_q1 rfl (z_q1 rfl (z_q1 rfl (z_q1 rfl (z_q1 rfl z_q0))))))
                              · exact absurd c_153_1702 hne851
                      refine j_widen (kc' := 2) (ks' := 11) (by omega) (by omega) ?_
                      exact j_lo2 (loop96 ((sp_T S i599).length + 1) w83 _ [] (sp_T S i599) _ (z_bp (sp_C S 2) 0) (Nat.lt_succ_self _) sp_apl (by exact rfl) (fun p hp => ((ok.2.1 i599 (by omega)).2 p hp).2) (by rw [List.nil_append, sp_uT_id, sp_tc0 hb54]; exact R82) (by exact rfl) h83 (((fm2.le (q' := 59) (by decide)).tr (fw82.fm (q := 59) (by omega))).tr fm83) git832) (z_q1 rfl (z_q1 rfl (z_q1 rfl (z_q1 rfl (z_q1 rfl (z_q1 rfl z_q0))))))
                  · exact absurd c_48_1345 (by decide)
                · exact absurd c_36_1339 (by decide)
def sp_tsm (S : sp_S) : Nat → Int32
  | 0 => 0
  | k + 1 => sp_tsm S k + nI (sp_T S k).length
theorem sp_hsq {S : sp_S} {s : z_Z} {F : Nat → Int32} {q : Nat} (R : sp_MR S s) (hq : q < 5) (h0 : F 0 = nI (sp_R S 0).length + nI (sp_R S 1).length) (h1 : F 1 = sp_tsm S 3) (h2 : F 2 = (z_qh s 0).2.1 + (z_qh s 1).2.1) (h3 : F 3 = s.1.2.1) (h4 : F 4 = s.1.2.2) : F q = sp_hse S (nI q) := by
  have e0 : sp_tsm S 3 = nI (sp_T S 0).length + nI (sp_T S 1).length + nI (sp_T S 2).length := by
    show ((0 + nI (sp_T S 0).length) + nI (sp_T S 1).length) + nI (sp_T S 2).length = _
    rw [Int32.zero_add]
  rw [e0] at h1
  rw [R.h (by decide), R.h (by decide)] at h2
  rw [show s.1.2.1 = S.1.1 from congrArg Prod.fst R.1] at h3
  rw [show s.1.2.2 = S.1.2 from congrArg Prod.snd R.1] at h4
  rcases (by omega : q = 0 ∨ q = 1 ∨ q = 2 ∨ q = 3 ∨ q = 4) with rfl | rfl | rfl | rfl | rfl
  · exact h0
  · exact h1
  · exact h2
  · exact h3
  · exact h4
set_option maxRecDepth 100000 in
set_option maxHeartbeats 8000000 in
theorem cx_houseTold (hl : l.stackTraces = false) (w : z_W) (S : sp_S) (s : z_Z) (q : Nat) (h : z_mst w s) (R : sp_MR S s) (hq : q < 5) : z_Con G l mX11_houseTold 20 2 9 w [.ref 1000, .int (nI q)] (fun v w9 => ∃ (s9 : z_Z), v = some (.int (sp_hse S (nI q))) ∧ z_fm 59 w w9 ∧ z_mst w9 s9 ∧ sp_MR S s9 ∧ s9.1.1 = s.1.1) (fun _ _ => False) := by
  generalize hQ9 : (fun (v : Option Value) (w9 : z_W) => ∃ (s9 : z_Z), v = some (.int (sp_hse S (nI q))) ∧ z_fm 59 w w9 ∧ z_mst w9 s9 ∧ sp_MR S s9 ∧ s9.1.1 = s.1.1) = Q9
  refine z_body hl (by decide) rfl (Nat.le_of_ble_eq_true rfl) ?_
  show z_J G l mX11_houseTold _ 0 [(0, _), (1, _)] [] _ 0 0
  refine j_iconst (v := 0) dX11_houseTold_0 (by decide) ?_
  refine j_istore_n (lo' := [(2, _), (0, _), (1, _)]) dX11_houseTold_1 (by decide) rfl ?_
  refine j_aload_n dX11_houseTold_2 rfl rfl ?_
  refine j_getf dX11_houseTold_3 fX11_34 h.m rfl ?_
  obtain ⟨lv857, -, lg857⟩ := z_li.cell h.tabs
  refine j_callV (q := (RJx4a65c, TJx4a65c, 3)) dX11_houseTold_6 kJx4a65c_iterator_32c93 lX11_162 inJx4a65c_iterator_32c93 seJx4a65c_iterator_32c93 lg857 rfl (cl_iter hl w 58 (47) _ _ _ h.tabs (by decide) (by omega) h.fn) (Nat.le_of_ble_eq_true rfl) ⟨(Nat.le_of_ble_eq_true rfl), (Nat.le_of_ble_eq_true rfl)⟩ rfl (Nat.le_of_ble_eq_true rfl) rfl rfl (fun _ _ h => h.elim) ?_
  rintro _ w1 ⟨it856, rfl, fw1, hita856, hitb856, hitc856, la856, git856⟩
  have hita856 : 1000 ≤ it856 := hita856
  have hitb856 : it856 % 64 = 58 := hitb856
  have fm1 := fw1.fm (q := 59) (by omega)
  have h1 := h.gar fw1 (by omega)
  refine j_astore_n (lo' := [(3, _), (2, _), (0, _), (1, _)]) dX11_houseTold_9 rfl (by decide) rfl ?_
  have loop10 : ∀ (n9 : Nat) (w2 : z_W) (s1 : z_Z) (k : Nat) (la : Int32), (k ≤ 3) → (3 < k + n9) → (sp_MR S s1) → (s1.1.1 = s.1.1) → (z_mst w2 s1) → (z_fm 59 w w2) → (z_g w2 it856 = some (.inr (3, [.int (nI k), .int la, .int (z_qt s1), .ref 1007]))) → z_J G l mX11_houseTold (20, 2, 9, w, Q9, (fun _ _ => False)) 10 [(0, .ref 1000), (1, .int (nI q)), (2, .int (sp_tsm S k)), (3, .ref it856)] [] w2 1 4 := by
    intro n9
    induction n9 with
    | zero => intro w2 s1 k la hj hf9 hR hth hm hfm git; exact absurd hf9 (by omega)
    | succ n9 ih =>
      intro w2 s1 k la hj hf9 hR hth hm hfm git
      refine j_aload_n dX11_houseTold_10 rfl rfl ?_
      refine j_callF (x := ⟨"java/util/Iterator", "hasNext", "()Z"⟩) (q := (RJx35411, TJx35411, 4)) dX11_houseTold_11 kJx35411_hasNext_aae02 ⟨(z_w 1765 ((lwt_8_1 10).trans rfl) (by decide +kernel)), (z_w 1769 ((lwt_8_1 14).trans rfl) (by decide +kernel)), inJx35411_hasNext_aae02, ⟨by decide, by decide⟩, rfl, fun U h => h.2.1⟩ git rfl (cl_hasN hl w2 _ (47) _ (k) _ _ hm.tabs ⟨_, git⟩ (by show _ ≤ 3; omega)) (Nat.le_of_ble_eq_true rfl) ⟨(Nat.le_of_ble_eq_true rfl), (Nat.le_of_ble_eq_true rfl)⟩ rfl (Nat.le_of_ble_eq_true rfl) rfl ?_
      rintro _ _ ⟨⟨x858, rfl, hz858, hp858⟩, hw858⟩
      refine j_w w2 hw858 ?_
      refine j_if_eq (tgt := 41) dX11_houseTold_16 (by decide) (fun c_16_24 => ?_) (fun c_16_24 => ?_)
      · have hk16 : k = 3 := hz858 c_16_24
        refine j_iconst (v := 5) dX11_houseTold_41 (by decide) ?_
        obtain ⟨x1, hx1a, hx1b, hx1c⟩ := z_fresh (57) (by decide) hm.fn
        have n_it856_x1 := z_neF hx1c git
        refine j_newa (kd := 0) (N := 5) (w' := _) (n := x1) dX11_houseTold_42 rfl rfl arc_int ⟨rfl, fun _ _ h => h⟩ (by decide) rfl (by decide) rfl (z_alW hx1c hx1a) (Nat.le_of_ble_eq_true rfl) (Nat.le_of_ble_eq_true rfl) ?_
        refine j_seal hx1a ?_
        intro w3 u3
        have fw3 := u3.fw hx1a hx1b
        have g3_it856 := (u3.2.1 it856 n_it856_x1).trans git
        have g3_x1 := u3.1
        have h3 := hm.gar fw3 (by omega)
        refine j_dup dX11_houseTold_44 rfl ?_
        refine j_iconst (v := 0) dX11_houseTold_45 (by decide) ?_
        refine j_aload_n dX11_houseTold_46 rfl rfl ?_
        refine j_getf dX11_houseTold_47 fX11_21 h3.m rfl ?_
        refine j_iconst (v := 0) dX11_houseTold_50 (by decide) ?_
        obtain ⟨lv861, -, lg861⟩ := z_li.cell h3.rows
        refine j_callV (q := (RJx4a65c, TJx4a65c, 3)) dX11_houseTold_51 kJx4a65c_get_915e3 lX11_82 inJx4a65c_get_915e3 seJx4a65c_get_915e3 lg861 rfl (cl_get hl w3 41 1001 _ _ (0) _ h3.rows (z_two2 (i := 0) (by decide))) (Nat.le_of_ble_eq_true rfl) ⟨(Nat.le_of_ble_eq_true rfl), (Nat.le_of_ble_eq_true rfl)⟩ rfl (Nat.le_of_ble_eq_true rfl) rfl rfl (fun _ _ h => h.elim) ?_
        rintro _ _ ⟨rfl, hw862⟩
        refine j_w w3 hw862 ?_
        refine j_castS dX11_houseTold_54 (z_w 1341 ((lwt_6_3 6).trans rfl) (by decide +kernel)) (z_li.is (h3.rw (i := 0) (by decide)).1) ?_
        obtain ⟨lv864, -, lg864⟩ := z_li.cell (h3.rw (i := 0) (by decide)).1
        refine j_callV (q := (RJx4a65c, TJx4a65c, 3)) dX11_houseTold_57 kJx4a65c_size_8abf5 lX11_86 inJx4a65c_size_8abf5 seJx4a65c_size_8abf5 lg864 rfl (cl_sizeW hl w3 (0) (sp_R S (0)) h3 hR (by decide) rfl) (Nat.le_of_ble_eq_true rfl) ⟨(Nat.le_of_ble_eq_true rfl), (Nat.le_of_ble_eq_true rfl)⟩ rfl (Nat.le_of_ble_eq_true rfl) rfl rfl (fun _ _ h => h.elim) ?_
        rintro _ _ ⟨rfl, hw865⟩
        refine j_w w3 hw865 ?_
        have hz865 : (sp_R S (0)).length ≤ 12 := hR.l12 h3 (i := 0) (by decide) rfl
        refine j_aload_n dX11_houseTold_60 rfl rfl ?_
        refine j_getf dX11_houseTold_61 fX11_21 h3.m rfl ?_
        refine j_iconst (v := 1) dX11_houseTold_64 (by decide) ?_
        obtain ⟨lv867, -, lg867⟩ := z_li.cell h3.rows
        refine j_callV (q := (RJx4a65c, TJx4a65c, 3)) dX11_houseTold_65 kJx4a65c_get_915e3 lX11_82 inJx4a65c_get_915e3 seJx4a65c_get_915e3 lg867 rfl (cl_get hl w3 41 1001 _ _ (1) _ h3.rows (z_two2 (i := 1) (by decide))) (Nat.le_of_ble_eq_true rfl) ⟨(Nat.le_of_ble_eq_true rfl), (Nat.le_of_ble_eq_true rfl)⟩ rfl (Nat.le_of_ble_eq_true rfl) rfl rfl (fun _ _ h => h.elim) ?_
        rintro _ _ ⟨rfl, hw868⟩
        refine j_w w3 hw868 ?_
        refine j_castS dX11_houseTold_68 (z_w 1341 ((lwt_6_3 6).trans rfl) (by decide +kernel)) (z_li.is (h3.rw (i := 1) (by decide)).1) ?_
        obtain ⟨lv870, -, lg870⟩ := z_li.cell (h3.rw (i := 1) (by decide)).1
        refine j_callV (q := (RJx4a65c, TJx4a65c, 3)) dX11_houseTold_71 kJx4a65c_size_8abf5 lX11_86 inJx4a65c_size_8abf5 seJx4a65c_size_8abf5 lg870 rfl (cl_sizeW hl w3 (1) (sp_R S (1)) h3 hR (by decide) rfl) (Nat.le_of_ble_eq_true rfl) ⟨(Nat.le_of_ble_eq_true rfl), (Nat.le_of_ble_eq_true rfl)⟩ rfl (Nat.le_of_ble_eq_true rfl) rfl rfl (fun _ _ h => h.elim) ?_
        rintro _ _ ⟨rfl, hw871⟩
        refine j_w w3 hw871 ?_
        have hz871 : (sp_R S (1)).length ≤ 12 := hR.l12 h3 (i := 1) (by decide) rfl
        refine j_iadd dX11_houseTold_74 ?_
        refine j_sto (w' := _) dX11_houseTold_75 g3_x1 (vp_in_nI (n := 0) (by decide) (by decide)) rfl ?_
        refine j_seal hx1a ?_
        intro w4 u4
        have fw4 := u4.fw hx1a hx1b
        have g4_it856 := (u4.2.1 it856 n_it856_x1).trans g3_it856
        have g4_x1 := u4.1
        have h4 := h3.gar fw4 (by omega)
        refine j_dup dX11_houseTold_76 rfl ?_
        refine j_iconst (v := 1) dX11_houseTold_77 (by decide) ?_
        refine j_iload_n dX11_houseTold_78 rfl ?_
        refine j_sto (w' := _) dX11_houseTold_79 g4_x1 (vp_in_nI (n := 1) (by decide) (by decide)) rfl ?_
        refine j_seal hx1a ?_
        intro w5 u5
        have fw5 := u5.fw hx1a hx1b
        have g5_it856 := (u5.2.1 it856 n_it856_x1).trans g4_it856
        have g5_x1 := u5.1
        have h5 := h4.gar fw5 (by omega)
        refine j_dup dX11_houseTold_80 rfl ?_
        refine j_iconst (v := 2) dX11_houseTold_81 (by decide) ?_
        refine j_aload_n dX11_houseTold_82 rfl rfl ?_
        refine j_getf dX11_houseTold_83 fX11_40 h5.m rfl ?_
        refine j_iconst (v := 0) dX11_houseTold_86 (by decide) ?_
        obtain ⟨fz874, gz874, hz874⟩ := h5.hs
        refine j_aald (v := .ref (1009 + 0)) dX11_houseTold_87 gz874 rfl rfl (vp_in_nI (n := 0) (by decide) (by decide)) (by rw [show (0 : Int32).toNatClampNeg = 0 by decide]; exact hz874 _ (by decide)) ?_
        refine j_getf dX11_houseTold_88 fX11_193 (h5.hd (i := 0) (by decide)) rfl ?_
        refine j_aload_n dX11_houseTold_91 rfl rfl ?_
        refine j_getf dX11_houseTold_92 fX11_40 h5.m rfl ?_
        refine j_iconst (v := 1) dX11_houseTold_95 (by decide) ?_
        obtain ⟨fz875, gz875, hz875⟩ := h5.hs
        refine j_aald (v := .ref (1009 + 1)) dX11_houseTold_96 gz875 rfl rfl (vp_in_nI (n := 1) (by decide) (by decide)) (by rw [show (1 : Int32).toNatClampNeg = 1 by decide]; exact hz875 _ (by decide)) ?_
        refine j_getf dX11_houseTold_97 fX11_193 (h5.hd (i := 1) (by decide)) rfl ?_
        refine j_iadd dX11_houseTold_100 ?_
        refine j_sto (w' := _) dX11_houseTold_101 g5_x1 (vp_in_nI (n := 2) (by decide) (by decide)) rfl ?_
        refine j_seal hx1a ?_
        intro w6 u6
        have fw6 := u6.fw hx1a hx1b
        have g6_it856 := (u6.2.1 it856 n_it856_x1).trans g5_it856
        have g6_x1 := u6.1
        have h6 := h5.gar fw6 (by omega)
        refine j_dup dX11_houseTold_102 rfl ?_
        refine j_iconst (v := 3) dX11_houseTold_103 (by decide) ?_
        refine j_aload_n dX11_houseTold_104 rfl rfl ?_
        refine j_getf dX11_houseTold_105 fX11_56 h6.m rfl ?_
        refine j_sto (w' := _) dX11_houseTold_108 g6_x1 (vp_in_nI (n := 3) (by decide) (by decide)) rfl ?_
        refine j_seal hx1a ?_
        intro w7 u7
        have fw7 := u7.fw hx1a hx1b
        have g7_it856 := (u7.2.1 it856 n_it856_x1).trans g6_it856
        have g7_x1 := u7.1
        have h7 := h6.gar fw7 (by omega)
        refine j_dup dX11_houseTold_109 rfl ?_
        refine j_iconst (v := 4) dX11_houseTold_110 (by decide) ?_
        refine j_aload_n dX11_houseTold_111 rfl rfl ?_
        refine j_getf dX11_houseTold_112 fX11_234 h7.m rfl ?_
        refine j_sto (w' := _) dX11_houseTold_115 g7_x1 (vp_in_nI (n := 4) (by decide) (by decide)) rfl ?_
        refine j_seal hx1a ?_
        intro w8 u8
        have fw8 := u8.fw hx1a hx1b
        have g8_it856 := (u8.2.1 it856 n_it856_x1).trans g7_it856
        have g8_x1 := u8.1
        have h8 := h7.gar fw8 (by omega)
        refine j_astore_n (lo' := [(3, _), (0, _), (1, _), (2, _)]) dX11_houseTold_116 rfl (by decide) rfl ?_
        refine j_aload_n dX11_houseTold_117 rfl rfl ?_
        refine j_iload_n dX11_houseTold_118 rfl ?_
        refine j_ld dX11_houseTold_119 g8_x1 (vp_in_nI (by omega) (by omega)) ?_
        refine j_iret dX11_houseTold_120 rfl rfl ?_ (Nat.le_of_ble_eq_true rfl) (Nat.le_of_ble_eq_true rfl)
        refine cast (congrFun (congrFun hQ9 _) _) ?_
        exact ⟨_, by rw [z_cla (by omega)]; exact congrArg (fun z => some (Value.int z)) (sp_hsq hR hq rfl (congrArg (sp_tsm S) (by omega : k = 3)) rfl rfl rfl), ((((((hfm.tr (fw3.fm (q := 59) (by omega))).tr (fw4.fm (q := 59) (by omega))).tr (fw5.fm (q := 59) (by omega))).tr (fw6.fm (q := 59) (by omega))).tr (fw7.fm (q := 59) (by omega))).tr (fw8.fm (q := 59) (by omega))), h8, hR, hth⟩
      · have hk16 : k < 3 := hp858 c_16_24
        refine j_aload_n dX11_houseTold_19 rfl rfl ?_
        refine j_callF (x := ⟨"java/util/Iterator", "next", "()Ljava/lang/Object;"⟩) (q := (RJx35411, TJx35411, 4)) dX11_houseTold_20 kJx35411_next_0502b ⟨(z_w 1775 ((lwt_8_1 20).trans rfl) (by decide +kernel)), (z_w 1778 ((lwt_8_1 23).trans rfl) (by decide +kernel)), inJx35411_next_0502b, ⟨by decide, by decide⟩, rfl, fun U h => h.2.2.1⟩ git rfl (cl_next hl w2 58 it856 (47) _ (k) _ _ _ hm.tabs ⟨_, git⟩ (z_thr3 (t := k) (by omega)) hita856 hitb856 (by omega)) (Nat.le_of_ble_eq_true rfl) ⟨(Nat.le_of_ble_eq_true rfl), (Nat.le_of_ble_eq_true rfl)⟩ rfl (Nat.le_of_ble_eq_true rfl) rfl ?_
        rintro _ w9 ⟨rfl, fw9, la9, git9⟩
        have fm9 := fw9.fm (q := 59) (by omega)
        have h9 := hm.gar fw9 (by omega)
        refine j_castS dX11_houseTold_25 (z_w 1341 ((lwt_6_3 6).trans rfl) (by decide +kernel)) (z_li.is (h9.tb (t := k) (by omega))) ?_
        refine j_astore (lo' := [(4, _), (0, _), (1, _), (2, _), (3, _)]) dX11_houseTold_28 rfl (by decide) rfl ?_
        refine j_iload_n dX11_houseTold_30 rfl ?_
        refine j_aload dX11_houseTold_31 rfl rfl ?_
        obtain ⟨lv882, -, lg882⟩ := z_li.cell (h9.tb (t := k) (by omega))
        refine j_callV (q := (RJx4a65c, TJx4a65c, 3)) dX11_houseTold_33 kJx4a65c_size_8abf5 lX11_86 inJx4a65c_size_8abf5 seJx4a65c_size_8abf5 lg882 rfl (cl_sizeT hl w9 (k) (sp_T S (k)) h9 hR (by omega) rfl) (Nat.le_of_ble_eq_true rfl) ⟨(Nat.le_of_ble_eq_true rfl), (Nat.le_of_ble_eq_true rfl)⟩ rfl (Nat.le_of_ble_eq_true rfl) rfl rfl (fun _ _ h => h.elim) ?_
        rintro _ _ ⟨rfl, hw883⟩
        refine j_w w9 hw883 ?_
        have hz883 : (sp_T S (k)).length ≤ 20 := hR.l20 h9 (t := k) (by omega) rfl
        refine j_iadd dX11_houseTold_36 ?_
        refine j_istore_n (lo' := [(2, _), (4, _), (0, _), (1, _), (3, _)]) dX11_houseTold_37 (by decide) rfl ?_
        refine j_goto (tgt := 10) dX11_houseTold_38 (by decide) ?_
        exact j_lo2 (ih w9 _ (k + 1) _ (by omega) (by omega) hR (by exact hth) h9 (hfm.tr fm9) git9) (z_q1 rfl (z_q1 rfl (z_q1 rfl (z_q1 rfl z_q0))))
  exact j_lo2 (loop10 4 w1 _ 0 _ (by omega) (by omega) R (by exact rfl) h1 fm1 git856) (z_q1 rfl (z_q1 rfl (z_q1 rfl (z_q1 rfl z_q0))))
set_option maxRecDepth 100000 in
set_option maxHeartbeats 8000000 in
theorem cx_house (hl : l.stackTraces = false) (w : z_W) (S : sp_S) (s : z_Z) (w0 : Int32) (h : z_mst w s) (R : sp_MR S s)  : z_Con G l mX11_house 22 2 9 w [.ref 1000, .int w0] (fun v w9 => ∃ (r9 : Int32) (s9 : z_Z), v = some (.int r9) ∧ z_fm 59 w w9 ∧ z_mst w9 s9 ∧ s9.1.1 = q_k1 (w0 < 0 ∨ 4 < w0) ∧ sp_MR (if q_k1 (w0 < 0 ∨ 4 < w0) = 0 then S else S) s9 ∧ (q_k1 (w0 < 0 ∨ 4 < w0) = 0 → r9 = sp_hse S w0)) (fun _ _ => False) := by
  generalize hQ9 : (fun (v : Option Value) (w9 : z_W) => ∃ (r9 : Int32) (s9 : z_Z), v = some (.int r9) ∧ z_fm 59 w w9 ∧ z_mst w9 s9 ∧ s9.1.1 = q_k1 (w0 < 0 ∨ 4 < w0) ∧ sp_MR (if q_k1 (w0 < 0 ∨ 4 < w0) = 0 then S else S) s9 ∧ (q_k1 (w0 < 0 ∨ 4 < w0) = 0 → r9 = sp_hse S w0)) = Q9
  refine z_body hl (by decide) rfl (Nat.le_of_ble_eq_true rfl) ?_
  show z_J G l mX11_house _ 0 [(0, _), (1, _)] [] _ 0 0
  refine j_aload_n dX11_house_0 rfl rfl ?_
  refine j_iload_n dX11_house_1 rfl ?_
  refine j_iconst (v := 0) dX11_house_2 (by decide) ?_
  refine j_iconst (v := 4) dX11_house_3 (by decide) ?_
  refine j_callS dX11_house_4 kX11_isIn lX11_59 stX11_isIn (cm_isIn_r hl w _ (0) (4)) (Nat.le_of_ble_eq_true rfl) ⟨(Nat.le_of_ble_eq_true rfl), (Nat.le_of_ble_eq_true rfl)⟩ rfl (Nat.le_of_ble_eq_true rfl) rfl rfl (fun _ _ h => h.elim) ?_
  rintro _ _ ⟨⟨rfl, hi884⟩ | ⟨rfl, hno884⟩, hw884⟩
  · refine j_w w hw884 ?_
    obtain ⟨i884, hq884, rfl⟩ := sp_nt (m := 4) rfl (by omega) hi884
    have ei884 : sp_i (nI i884) = i884 := sp_in' (by omega)
    refine j_if_ne (tgt := 14) dX11_house_7 (by decide) (fun c_7_11 => ?_) (fun c_7_11 => ?_)
    · refine j_iconst (v := 0) dX11_house_14 (by decide) ?_
      refine j_iconst (v := 1) dX11_house_15 (by decide) ?_
      refine j_callV (q := (RX11, TX11, 8)) dX11_house_16 kX11_start lX11_76 inX11_start seX11_start h.m rfl (cm_start0 hl w _ _ h) (Nat.le_of_ble_eq_true rfl) ⟨(Nat.le_of_ble_eq_true rfl), (Nat.le_of_ble_eq_true rfl)⟩ rfl (Nat.le_of_ble_eq_true rfl) rfl rfl (fun _ _ h => h.elim) ?_
      rintro _ w1 ⟨rfl, fm1, h1⟩
      have R1 := R.th (k := 0)
      refine j_if_eq (tgt := 26) dX11_house_19 (by decide) (fun c_19_17 => ?_) (fun c_19_17 => ?_)
      · refine j_aload_n dX11_house_26 rfl rfl ?_
        refine j_iload_n dX11_house_27 rfl ?_
        refine j_callV (q := (RX11, TX11, 8)) dX11_house_28 kX11_houseTold lX11_237 inX11_houseTold seX11_houseTold h1.m rfl (cx_houseTold hl w1 S _ (i884) h1 R1 (by omega)) (Nat.le_of_ble_eq_true rfl) ⟨(Nat.le_of_ble_eq_true rfl), (Nat.le_of_ble_eq_true rfl)⟩ rfl (Nat.le_of_ble_eq_true rfl) rfl rfl (fun _ _ h => h.elim) ?_
        rintro _ w2 ⟨s2, rfl, fm2, h2, R2, th2⟩
        have tx2 := th2.trans rfl
        refine j_iret dX11_house_31 rfl rfl ?_ (Nat.le_of_ble_eq_true rfl) (Nat.le_of_ble_eq_true rfl)
        refine cast (congrFun (congrFun hQ9 _) _) ?_
        try rw [ei884]
        refine ⟨_, _, rfl, ((fm1.le (q' := 59) (by decide)).tr (fm2.le (q' := 59) (by decide))), h2, sp_X0 ?_ tx2 R2 rfl⟩
        (first | (refine if_neg ?_ <;> (first | assumption | (refine Or.inl ?_; assumption) | (refine Or.inr ?_; assumption) | (refine Or.inr (Or.inl ?_); assumption) | (refine Or.inr (Or.inr ?_); assumption) | (refine Or.inr (Or.inr (Or.inl ?_)); assumption) | (refine Or.inr (Or.inr (Or.inr ?_)); assumption) | (refine fun z => Or.elim z ?_ ?_ <;> assumption) | (refine fun z => Or.elim z ?_ (fun z => Or.elim z ?_ ?_) <;> assumption) | (refine fun z => Or.elim z ?_ (fun z => Or.elim z ?_ (fun z => Or.elim z ?_ ?_)) <;> assumption) | (refine fun z => Or.elim z (fun z9 => z9 ?_) ?_ <;> (first | assumption | (refine Or.inl ?_; assumption) | (refine Or.inr (Or.inl ?_); assumption) | (refine Or.inr (Or.inr ?_); assumption) | (refine Or.inr (Or.inr (Or.inl ?_)); assumption) | (refine Or.inr (Or.inr (Or.inr ?_)); assumption))) | (refine Or.inl (fun z => Or.elim z ?_ (fun z => Or.elim z ?_ ?_)) <;> assumption) | (refine Or.inl (fun z => Or.elim z ?_ (fun z => Or.elim z ?_ (fun z => Or.elim z ?_ ?_))) <;> assumption))))
      · exact absurd c_19_17 (by decide)
    · exact absurd c_7_11 (by decide)
  · refine j_w w hw884 ?_
    refine j_if_ne (tgt := 14) dX11_house_7 (by decide) (fun c_7_31 => ?_) (fun c_7_31 => ?_)
    · exact absurd c_7_31 (by decide)
    · refine j_iconst (v := 1) dX11_house_10 (by decide) ?_
      refine j_goto (tgt := 15) dX11_house_11 (by decide) ?_
      refine j_iconst (v := 1) dX11_house_15 (by decide) ?_
      refine j_callV (q := (RX11, TX11, 8)) dX11_house_16 kX11_start lX11_76 inX11_start seX11_start h.m rfl (cm_start1 hl w _ _ h (by decide)) (Nat.le_of_ble_eq_true rfl) ⟨(Nat.le_of_ble_eq_true rfl), (Nat.le_of_ble_eq_true rfl)⟩ rfl (Nat.le_of_ble_eq_true rfl) rfl rfl (fun _ _ h => h.elim) ?_
      rintro _ w3 ⟨rfl, fm3, h3⟩
      have R3 := R.th (k := 1)
      refine j_if_eq (tgt := 26) dX11_house_19 (by decide) (fun c_19_39 => ?_) (fun c_19_39 => ?_)
      · exact absurd c_19_39 (by decide)
      · refine j_iconst (v := 0) dX11_house_22 (by decide) ?_
        refine j_goto (tgt := 31) dX11_house_23 (by decide) ?_
        refine j_iret dX11_house_31 rfl rfl ?_ (Nat.le_of_ble_eq_true rfl) (Nat.le_of_ble_eq_true rfl)
        refine cast (congrFun (congrFun hQ9 _) _) ?_
        refine ⟨_, _, rfl, (fm3.le (q' := 59) (by decide)), h3, sp_X1 (k := 1) ?_ (by decide) rfl R3⟩
        (first | (refine if_pos ?_ <;> (first | assumption | (refine Or.inl ?_; assumption) | (refine Or.inr ?_; assumption) | (refine Or.inr (Or.inl ?_); assumption) | (refine Or.inr (Or.inr ?_); assumption) | (refine Or.inr (Or.inr (Or.inl ?_)); assumption) | (refine Or.inr (Or.inr (Or.inr ?_)); assumption) | (refine fun z => Or.elim z ?_ ?_ <;> assumption) | (refine fun z => Or.elim z ?_ (fun z => Or.elim z ?_ ?_) <;> assumption) | (refine fun z => Or.elim z ?_ (fun z => Or.elim z ?_ (fun z => Or.elim z ?_ ?_)) <;> assumption) | (refine fun z => Or.elim z (fun z9 => z9 ?_) ?_ <;> (first | assumption | (refine Or.inl ?_; assumption) | (refine Or.inr (Or.inl ?_); assumption) | (refine Or.inr (Or.inr ?_); assumption) | (refine Or.inr (Or.inr (Or.inl ?_)); assumption) | (refine Or.inr (Or.inr (Or.inr ?_)); assumption))) | (refine Or.inl (fun z => Or.elim z ?_ (fun z => Or.elim z ?_ ?_)) <;> assumption) | (refine Or.inl (fun z => Or.elim z ?_ (fun z => Or.elim z ?_ (fun z => Or.elim z ?_ ?_))) <;> assumption))))
def sp_cz (S : sp_S) (k j : Nat) : Nat → Nat → Int32 := fun i => if i < k then q_zr (sp_C S i) 7 else if i = k then q_zr (sp_C S i) j else sp_C S i
abbrev sp_czS (S : sp_S) (k j : Nat) : sp_S := (S.1, S.2.1, S.2.2.1, sp_cz S k j, S.2.2.2.2)
def sp_sz (S : sp_S) : Nat → Int32
  | 0 => 0
  | k + 1 => sp_sz S k + q_sm (sp_C S k) 7
theorem sp_MR.z0 {S : sp_S} {s : z_Z} (R : sp_MR S s) : sp_MR (sp_czS S 0 0) s := R.cong (fun i _ j _ => by
  unfold sp_cz
  rw [if_neg (Nat.not_lt_zero _)]
  split <;> rfl)
theorem sp_MR.zk {S : sp_S} {s : z_Z} {k : Nat} (R : sp_MR (sp_czS S k 7) s) : sp_MR (sp_czS S (k + 1) 0) s := R.cong (fun i _ j _ => by
  show sp_cz S k 7 i j = sp_cz S (k + 1) 0 i j
  unfold sp_cz
  by_cases h1 : i < k
  · rw [if_pos h1, if_pos (by omega)]
  · rw [if_neg h1]
    by_cases h2 : i = k
    · rw [if_pos h2, if_pos (by omega)]
    · rw [if_neg h2, if_neg (by omega)]
      split <;> rfl)
theorem sp_MR.zj {S : sp_S} {s : z_Z} {k j : Nat} (R : sp_MR (sp_czS S k j) s) (hk : k < 3) (hj : j < 7) : sp_MR (sp_czS S k (j + 1)) (z_tc s (z_fu (z_qc s) k (z_ui (z_qc s k) j 0))) := by
  have e : ∀ x, x < 7 → z_qc s k x = q_zr (sp_C S k) j x := fun x hx => by
    rw [R.c hk hx]
    show sp_cz S k j k x = _
    unfold sp_cz
    rw [if_neg (Nat.lt_irrefl _), if_pos rfl]
  have h1 := R.uc (i := k) (F := z_ui (z_qc s k) j 0) (c := q_zr (sp_C S k) (j + 1)) (fun x hx => by
    show z_ui (z_qc s k) j 0 x = z_ui (q_zr (sp_C S k) j) j 0 x
    by_cases hxj : x = j
    · rw [hxj, z_ui_self, z_ui_self]
    · rw [z_ui_ne hxj, z_ui_ne hxj, e x hx])
  refine h1.cong (fun i hi x hx => ?_)
  show z_fu (sp_cz S k j) k (q_zr (sp_C S k) (j + 1)) i x = sp_cz S k (j + 1) i x
  by_cases hik : i = k
  · rw [hik, z_fu_self]; unfold sp_cz; rw [if_neg (Nat.lt_irrefl _), if_pos rfl]
  · rw [z_fu_ne hik]; unfold sp_cz; rw [if_neg hik, if_neg hik]
theorem sp_MR.zr {S : sp_S} {s : z_Z} {k j : Nat} (R : sp_MR (sp_czS S k j) s) (hk : k < 3) (hj : j < 7) : z_qc s k j = sp_C S k j := by
  rw [R.c hk hj]
  show sp_cz S k j k j = _
  unfold sp_cz
  rw [if_neg (Nat.lt_irrefl _), if_pos rfl, q_zr_ge (Nat.le_refl _)]
theorem sp_MR.zend {S : sp_S} {s : z_Z} (R : sp_MR (sp_czS S 3 0) s) : sp_MR (sp_csS S) s := by
  refine R.cong (C := sp_C (sp_csS S)) (fun i hi x hx => ?_)
  show sp_cz S 3 0 i x = z_fu (z_fu (z_fu (sp_C S) 2 (q_zr (sp_C S 2) 7)) 0 (q_zr (sp_C S 0) 7)) 1 (q_zr (sp_C S 1) 7) i x
  unfold sp_cz
  rw [if_pos hi]
  rcases (by omega : i = 0 ∨ i = 1 ∨ i = 2) with rfl | rfl | rfl <;> rfl
theorem sp_sz3 {S : sp_S} : sp_sz S 3 = sp_cs S := by
  show ((0 + q_sm (sp_C S 0) 7) + q_sm (sp_C S 1) 7) + q_sm (sp_C S 2) 7 = q_sm (sp_C S 2) 7 + q_sm (sp_C S 0) 7 + q_sm (sp_C S 1) 7
  rw [Int32.zero_add, Int32.add_comm, ← Int32.add_assoc]
set_option maxRecDepth 100000 in
set_option maxHeartbeats 8000000 in
theorem cx_forgetCounts (hl : l.stackTraces = false) (w : z_W) (S : sp_S) (s : z_Z)  (h : z_mst w s) (R : sp_MR S s)  : z_Con G l mX11_forgetCounts 20 0 0 w [.ref 1000] (fun v w9 => ∃ (r9 : Int32) (s9 : z_Z), v = some (.int r9) ∧ z_fm 59 w w9 ∧ z_mst w9 s9 ∧ s9.1.1 = 0 ∧ sp_MR (sp_csS S) s9 ∧ r9 = sp_cs S) (fun _ _ => False) := by
  generalize hQ9 : (fun (v : Option Value) (w9 : z_W) => ∃ (r9 : Int32) (s9 : z_Z), v = some (.int r9) ∧ z_fm 59 w w9 ∧ z_mst w9 s9 ∧ s9.1.1 = 0 ∧ sp_MR (sp_csS S) s9 ∧ r9 = sp_cs S) = Q9
  refine z_body hl (by decide) rfl (Nat.le_of_ble_eq_true rfl) ?_
  show z_J G l mX11_forgetCounts _ 0 [(0, _)] [] _ 0 0
  refine j_aload_n dX11_forgetCounts_0 rfl rfl ?_
  refine j_iconst (v := 0) dX11_forgetCounts_1 (by decide) ?_
  refine j_put (w' := _) dX11_forgetCounts_2 fX11_48 tX11_0 h.m ⟨rfl, rfl⟩ rfl ?_
  refine j_seal (by omega) ?_
  intro w1 u1
  have fw1 := u1.fw (ρ := 40) (by omega) (by omega)
  have h1 := h.up40 fw1 u1.1
  have R1 := R.th (k := 0)
  refine j_iconst (v := 0) dX11_forgetCounts_5 (by decide) ?_
  refine j_istore_n (lo' := [(1, _), (0, _)]) dX11_forgetCounts_6 (by decide) rfl ?_
  refine j_aload_n dX11_forgetCounts_7 rfl rfl ?_
  refine j_getf dX11_forgetCounts_8 fX11_31 h1.m rfl ?_
  refine j_astore_n (lo' := [(2, _), (1, _), (0, _)]) dX11_forgetCounts_11 rfl (by decide) rfl ?_
  refine j_aload_n dX11_forgetCounts_12 rfl rfl ?_
  obtain ⟨fz885, gz885, hz885⟩ := h1.co
  refine j_alen dX11_forgetCounts_13 gz885 rfl rfl ?_
  refine j_istore_n (lo' := [(3, _), (2, _), (1, _), (0, _)]) dX11_forgetCounts_14 (by decide) rfl ?_
  refine j_iconst (v := 0) dX11_forgetCounts_15 (by decide) ?_
  refine j_istore (lo' := [(4, _), (3, _), (2, _), (1, _), (0, _)]) dX11_forgetCounts_16 (by decide) rfl ?_
  have loop18 : ∀ (n9 : Nat) (w2 : z_W) (s1 : z_Z) (k : Nat) (m : Int32), (k ≤ 3) → (3 < k + n9) → (m = sp_sz S k) → (sp_MR (sp_czS S k 0) s1) → (s1.1.1 = 0) → (z_mst w2 s1) → (z_fm 59 w w2) → z_J G l mX11_forgetCounts (20, 0, 0, w, Q9, (fun _ _ => False)) 18 [(0, .ref 1000), (1, .int m), (2, .ref 1003), (3, .int (nI 3)), (4, .int (nI k))] [] w2 0 0 := by
    intro n9
    induction n9 with
    | zero => intro w2 s1 k m hj hf9 hmm hR hth hm hfm; exact absurd hf9 (by omega)
    | succ n9 ih =>
      intro w2 s1 k m hj hf9 hmm hR hth hm hfm
      refine j_iload dX11_forgetCounts_18 rfl ?_
      refine j_iload_n dX11_forgetCounts_20 rfl ?_
      refine j_icmp_ge (tgt := 67) dX11_forgetCounts_21 (by decide) (fun c_21_29 => ?_) (fun c_21_29 => ?_)
      · have hb21 : 3 ≤ k := (nI_leI (a := 3) (b := k) (by omega) (by omega)).mp c_21_29
        refine j_iload_n dX11_forgetCounts_67 rfl ?_
        refine j_iret dX11_forgetCounts_68 rfl rfl ?_ (Nat.le_of_ble_eq_true rfl) (Nat.le_of_ble_eq_true rfl)
        refine cast (congrFun (congrFun hQ9 _) _) ?_
        exact ⟨_, _, rfl, hfm, hm, hth, (by have e9 : k = 3 := (by omega); have e := hR; rw [e9] at e; exact e.zend), (by have e9 : k = 3 := (by omega); rw [hmm, e9]; exact sp_sz3)⟩
      · have hb21 : k < 3 := Nat.not_le.mp (fun z => c_21_29 ((nI_leI (a := 3) (b := k) (by omega) (by omega)).mpr z))
        refine j_aload_n dX11_forgetCounts_24 rfl rfl ?_
        refine j_iload dX11_forgetCounts_25 rfl ?_
        obtain ⟨fz886, gz886, hz886⟩ := hm.co
        refine j_aald (v := .ref (1004 + k)) dX11_forgetCounts_27 gz886 rfl rfl (vp_in_nI (by omega) (by omega)) (by rw [z_cla (by omega)]; exact hz886 _ (by omega)) ?_
        refine j_astore (lo' := [(5, _), (0, _), (1, _), (2, _), (3, _), (4, _)]) dX11_forgetCounts_28 rfl (by decide) rfl ?_
        refine j_iconst (v := 0) dX11_forgetCounts_30 (by decide) ?_
        refine j_istore (lo' := [(6, _), (5, _), (0, _), (1, _), (2, _), (3, _), (4, _)]) dX11_forgetCounts_31 (by decide) rfl ?_
        have loop33 : ∀ (n8 : Nat) (w3 : z_W) (s1 : z_Z) (j : Nat) (m : Int32), (j ≤ 7) → (7 < j + n8) → (m = sp_sz S k + q_sm (sp_C S k) j) → (sp_MR (sp_czS S k j) s1) → (s1.1.1 = 0) → (z_mst w3 s1) → (z_fm 59 w w3) → z_J G l mX11_forgetCounts (20, 0, 0, w, Q9, (fun _ _ => False)) 33 [(0, .ref 1000), (1, .int m), (2, .ref 1003), (3, .int (nI 3)), (4, .int (nI k)), (5, .ref (1004 + k)), (6, .int (nI j))] [] w3 0 0 := by
          intro n8
          induction n8 with
          | zero => intro w3 s1 j m hj hf8 hmm hR hth hm hfm; exact absurd hf8 (by omega)
          | succ n8 ih8 =>
            intro w3 s1 j m hj hf8 hmm hR hth hm hfm
            refine j_iload dX11_forgetCounts_33 rfl ?_
            refine j_aload dX11_forgetCounts_35 rfl rfl ?_
            refine j_alen dX11_forgetCounts_37 (hm.cn (i := k) (by omega)) rfl rfl ?_
            refine j_icmp_ge (tgt := 61) dX11_forgetCounts_38 (by decide) (fun c_38_52 => ?_) (fun c_38_52 => ?_)
            · have hb38 : 7 ≤ j := (nI_leI (a := 7) (b := j) (by omega) (by omega)).mp c_38_52
              refine j_iinc (lo' := [(4, _), (0, _), (1, _), (2, _), (3, _), (5, _), (6, _)]) dX11_forgetCounts_61 rfl (z_inc _) (by decide) rfl ?_
              refine j_goto (tgt := 18) dX11_forgetCounts_64 (by decide) ?_
              exact j_lo2 (ih w3 _ (k + 1) _ (by omega) (by omega) (by have e9 : j = 7 := (by omega); rw [hmm, e9]; rfl) (by have e9 : j = 7 := (by omega); have e := hR; rw [e9] at e; exact e.zk) (by exact hth) hm hfm) (z_q1 rfl (z_q1 rfl (z_q1 rfl (z_q1 rfl (z_q1 rfl z_q0)))))
            · have hb38 : j < 7 := Nat.not_le.mp (fun z => c_38_52 ((nI_leI (a := 7) (b := j) (by omega) (by omega)).mpr z))
              refine j_iload_n dX11_forgetCounts_41 rfl ?_
              refine j_aload dX11_forgetCounts_42 rfl rfl ?_
              refine j_iload dX11_forgetCounts_44 rfl ?_
              refine j_ld dX11_forgetCounts_46 (hm.cn (i := k) (by omega)) (vp_in_nI (by omega) (by omega)) ?_
              refine j_iadd dX11_forgetCounts_47 ?_
              refine j_istore_n (lo' := [(1, _), (0, _), (2, _), (3, _), (4, _), (5, _), (6, _)]) dX11_forgetCounts_48 (by decide) rfl ?_
              refine j_aload dX11_forgetCounts_49 rfl rfl ?_
              refine j_iload dX11_forgetCounts_51 rfl ?_
              refine j_iconst (v := 0) dX11_forgetCounts_53 (by decide) ?_
              refine j_sto (w' := _) dX11_forgetCounts_54 (hm.cn (i := k) (by omega)) (vp_in_nI (by omega) (by omega)) rfl ?_
              refine j_seal (by omega) ?_
              intro w4 u4
              have fw4 := u4.fw (ρ := 44 + k) (by omega) (by omega)
              have h4 := hm.up44 (i0 := k) (by omega) fw4 u4.1
              rw [z_cla (by omega)] at h4
              have R4 := hR.zj (by omega) (by omega)
              refine j_iinc (lo' := [(6, _), (1, _), (0, _), (2, _), (3, _), (4, _), (5, _)]) dX11_forgetCounts_55 rfl (z_inc _) (by decide) rfl ?_
              refine j_goto (tgt := 33) dX11_forgetCounts_58 (by decide) ?_
              exact j_lo2 (ih8 w4 _ (j + 1) _ (by omega) (by omega) (by rw [z_cla (by omega), hR.zr (by omega) (by omega), hmm, Int32.add_assoc]; rfl) R4 (by exact hth) h4 (hfm.tr (fw4.fm (q := 59) (by omega)))) (z_q1 rfl (z_q1 rfl (z_q1 rfl (z_q1 rfl (z_q1 rfl (z_q1 rfl (z_q1 rfl z_q0)))))))
        exact j_lo2 (loop33 8 w2 _ 0 _ (by omega) (by omega) (by rw [hmm]; exact (Int32.add_zero _).symm) hR (by exact hth) hm hfm) (z_q1 rfl (z_q1 rfl (z_q1 rfl (z_q1 rfl (z_q1 rfl (z_q1 rfl (z_q1 rfl z_q0)))))))
  exact j_lo2 (loop18 4 w1 _ 0 _ (by omega) (by omega) (by exact rfl) R1.z0 (by exact rfl) h1 (fw1.fm (q := 59) (by omega))) (z_q1 rfl (z_q1 rfl (z_q1 rfl (z_q1 rfl (z_q1 rfl z_q0)))))
end ZMe7
