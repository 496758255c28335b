section ZM0
section ZMe7
variable {G : z_G} {l : Launch}
set_option maxRecDepth 100000 in
set_option maxHeartbeats 8000000 in
theorem cx_hearTable (hl : l.stackTraces = false) (w : z_W) (S : sp_S) (s : z_Z) (t : Int32) (g : Int32) (h : z_mst w s) (R : sp_MR S s)  : z_Con G l mX11_hearTable 22 42 631 w [.ref 1000, .int t, .int g] (fun v w9 => ∃ (r9 : Int32) (s9 : z_Z), v = some (.int r9) ∧ z_fm 59 w w9 ∧ z_mst w9 s9 ∧ s9.1.1 = sp_k3b t g ∧ sp_MR (if sp_k3b t g = 0 then sp_htbS S (sp_i t) (sp_i g) else S) s9 ∧ (sp_k3b t g = 0 → r9 = sp_an (sp_htb S (sp_i t) (sp_i g)).1)) (fun _ _ => False) := by
  generalize hQ9 : (fun (v : Option Value) (w9 : z_W) => ∃ (r9 : Int32) (s9 : z_Z), v = some (.int r9) ∧ z_fm 59 w w9 ∧ z_mst w9 s9 ∧ s9.1.1 = sp_k3b t g ∧ sp_MR (if sp_k3b t g = 0 then sp_htbS S (sp_i t) (sp_i g) else S) s9 ∧ (sp_k3b t g = 0 → r9 = sp_an (sp_htb S (sp_i t) (sp_i g)).1)) = Q9
  refine z_body hl (by decide) rfl (Nat.le_of_ble_eq_true rfl) ?_
  show z_J G l mX11_hearTable _ 0 [(0, _), (1, _), (2, _)] [] _ 0 0
  refine j_aload_n dX11_hearTable_0 rfl rfl ?_
  refine j_iload_n dX11_hearTable_1 rfl ?_
  refine j_callS dX11_hearTable_2 kX11_isNoTable lX11_136 stX11_isNoTable (cm_isNoTable_r hl w _) (Nat.le_of_ble_eq_true rfl) ⟨(by show _ ≤ 42; omega), (by show _ ≤ 631; omega)⟩ rfl (Nat.le_of_ble_eq_true rfl) rfl rfl (fun _ _ h => h.elim) ?_
  rintro _ _ ⟨⟨rfl, hno555⟩ | ⟨rfl, i555, hi555, ht555, rfl⟩, hw555⟩
  · refine j_w w hw555 ?_
    refine j_if_ne (tgt := 15) dX11_hearTable_5 (by decide) (fun c_5_7 => ?_) (fun c_5_7 => ?_)
    · refine j_iconst (v := 1) dX11_hearTable_15 (by decide) ?_
      refine j_goto (tgt := 20) dX11_hearTable_16 (by decide) ?_
      refine j_iconst (v := 1) dX11_hearTable_20 (by decide) ?_
      refine j_callV (q := (RX11, TX11, 8)) dX11_hearTable_21 kX11_start lX11_76 inX11_start seX11_start h.m rfl (cm_start1 hl w _ _ h (by decide)) (Nat.le_of_ble_eq_true rfl) ⟨(by show _ ≤ 42; omega), (by show _ ≤ 631; omega)⟩ rfl (Nat.le_of_ble_eq_true rfl) rfl rfl (fun _ _ h => h.elim) ?_
      rintro _ w1 ⟨rfl, fm1, h1⟩
      have R1 := R.th (k := 1)
      refine j_if_eq (tgt := 29) dX11_hearTable_24 (by decide) (fun c_24_14 => ?_) (fun c_24_14 => ?_)
      · exact absurd c_24_14 (by decide)
      · refine j_iconst (v := 0) dX11_hearTable_27 (by decide) ?_
        refine j_iret dX11_hearTable_28 rfl rfl ?_ (by show _ ≤ 42; omega) (by show _ ≤ 631; omega)
        refine cast (congrFun (congrFun hQ9 _) _) ?_
        refine ⟨_, _, rfl, (fm1.le (q' := 59) (by decide)), h1, sp_X1 (k := 1) ?_ (by decide) rfl R1⟩
        first | (first | (refine sp_k3b_1 ?_ <;> (first | (with_reducible assumption) | (refine Or.inl ?_; (with_reducible assumption)) | (refine Or.inr ?_; (with_reducible assumption)) | (refine Or.inr (Or.inl ?_); (with_reducible assumption)) | (refine Or.inr (Or.inr ?_); (with_reducible assumption)) | (refine Or.inr (Or.inr (Or.inl ?_)); (with_reducible assumption)) | (refine Or.inr (Or.inr (Or.inr ?_)); (with_reducible assumption)) | (refine fun z => Or.elim z ?_ ?_ <;> (with_reducible assumption)) | (refine fun z => Or.elim z ?_ (fun z => Or.elim z ?_ ?_) <;> (with_reducible assumption)) | (refine fun z => Or.elim z ?_ (fun z => Or.elim z ?_ (fun z => Or.elim z ?_ ?_)) <;> (with_reducible assumption)) | (refine fun z => Or.elim z (fun z9 => z9 ?_) ?_ <;> (first | (with_reducible assumption) | (refine Or.inl ?_; (with_reducible assumption)) | (refine Or.inr (Or.inl ?_); (with_reducible assumption)) | (refine Or.inr (Or.inr ?_); (with_reducible assumption)) | (refine Or.inr (Or.inr (Or.inl ?_)); (with_reducible assumption)) | (refine Or.inr (Or.inr (Or.inr ?_)); (with_reducible assumption)))) | (refine Or.inl (fun z => Or.elim z ?_ (fun z => Or.elim z ?_ ?_)) <;> (with_reducible assumption)) | (refine Or.inl (fun z => Or.elim z ?_ (fun z => Or.elim z ?_ (fun z => Or.elim z ?_ ?_))) <;> (with_reducible assumption)))) | (refine sp_k3b_1' ?_ <;> (first | (with_reducible assumption) | (refine Or.inl ?_; (with_reducible assumption)) | (refine Or.inr ?_; (with_reducible assumption)) | (refine Or.inr (Or.inl ?_); (with_reducible assumption)) | (refine Or.inr (Or.inr ?_); (with_reducible assumption)) | (refine Or.inr (Or.inr (Or.inl ?_)); (with_reducible assumption)) | (refine Or.inr (Or.inr (Or.inr ?_)); (with_reducible assumption)) | (refine fun z => Or.elim z ?_ ?_ <;> (with_reducible assumption)) | (refine fun z => Or.elim z ?_ (fun z => Or.elim z ?_ ?_) <;> (with_reducible assumption)) | (refine fun z => Or.elim z ?_ (fun z => Or.elim z ?_ (fun z => Or.elim z ?_ ?_)) <;> (with_reducible assumption)) | (refine fun z => Or.elim z (fun z9 => z9 ?_) ?_ <;> (first | (with_reducible assumption) | (refine Or.inl ?_; (with_reducible assumption)) | (refine Or.inr (Or.inl ?_); (with_reducible assumption)) | (refine Or.inr (Or.inr ?_); (with_reducible assumption)) | (refine Or.inr (Or.inr (Or.inl ?_)); (with_reducible assumption)) | (refine Or.inr (Or.inr (Or.inr ?_)); (with_reducible assumption)))) | (refine Or.inl (fun z => Or.elim z ?_ (fun z => Or.elim z ?_ ?_)) <;> (with_reducible assumption)) | (refine Or.inl (fun z => Or.elim z ?_ (fun z => Or.elim z ?_ (fun z => Or.elim z ?_ ?_))) <;> (with_reducible assumption))))) | (first | (refine sp_k3b_1 ?_ <;> (first | assumption | (refine Or.inl ?_; assumption) | (refine Or.inr ?_; assumption) | (refine Or.inr (Or.inl ?_); assumption) | (refine Or.inr (Or.inr ?_); assumption) | (refine Or.inr (Or.inr (Or.inl ?_)); assumption) | (refine Or.inr (Or.inr (Or.inr ?_)); assumption) | (refine fun z => Or.elim z ?_ ?_ <;> assumption) | (refine fun z => Or.elim z ?_ (fun z => Or.elim z ?_ ?_) <;> assumption) | (refine fun z => Or.elim z ?_ (fun z => Or.elim z ?_ (fun z => Or.elim z ?_ ?_)) <;> assumption) | (refine fun z => Or.elim z (fun z9 => z9 ?_) ?_ <;> (first | assumption | (refine Or.inl ?_; assumption) | (refine Or.inr (Or.inl ?_); assumption) | (refine Or.inr (Or.inr ?_); assumption) | (refine Or.inr (Or.inr (Or.inl ?_)); assumption) | (refine Or.inr (Or.inr (Or.inr ?_)); assumption))) | (refine Or.inl (fun z => Or.elim z ?_ (fun z => Or.elim z ?_ ?_)) <;> assumption) | (refine Or.inl (fun z => Or.elim z ?_ (fun z => Or.elim z ?_ (fun z => Or.elim z ?_ ?_))) <;> assumption))) | (refine sp_k3b_1' ?_ <;> (first | assumption | (refine Or.inl ?_; assumption) | (refine Or.inr ?_; assumption) | (refine Or.inr (Or.inl ?_); assumption) | (refine Or.inr (Or.inr ?_); assumption) | (refine Or.inr (Or.inr (Or.inl ?_)); assumption) | (refine Or.inr (Or.inr (Or.inr ?_)); assumption) | (refine fun z => Or.elim z ?_ ?_ <;> assumption) | (refine fun z => Or.elim z ?_ (fun z => Or.elim z ?_ ?_) <;> assumption) | (refine fun z => Or.elim z ?_ (fun z => Or.elim z ?_ (fun z => Or.elim z ?_ ?_)) <;> assumption) | (refine fun z => Or.elim z (fun z9 => z9 ?_) ?_ <;> (first | assumption | (refine Or.inl ?_; assumption) | (refine Or.inr (Or.inl ?_); assumption) | (refine Or.inr (Or.inr ?_); assumption) | (refine Or.inr (Or.inr (Or.inl ?_)); assumption) | (refine Or.inr (Or.inr (Or.inr ?_)); assumption))) | (refine Or.inl (fun z => Or.elim z ?_ (fun z => Or.elim z ?_ ?_)) <;> assumption) | (refine Or.inl (fun z => Or.elim z ?_ (fun z => Or.elim z ?_ (fun z => Or.elim z ?_ ?_))) <;> assumption))))
    · exact absurd c_5_7 (by decide)
  · refine j_w w hw555 ?_
    have ei555 : sp_i (nI i555) = i555 := sp_in' (by omega)
    refine j_if_ne (tgt := 15) dX11_hearTable_5 (by decide) (fun c_5_24 => ?_) (fun c_5_24 => ?_)
    · exact absurd c_5_24 (by decide)
    · refine j_iload_n dX11_hearTable_8 rfl ?_
      refine j_callS dX11_hearTable_9 kX11_isNoTwo lX11_72 stX11_isNoTwo (cm_isNoTwo_r hl w _) (Nat.le_of_ble_eq_true rfl) ⟨(by show _ ≤ 42; omega), (by show _ ≤ 631; omega)⟩ rfl (Nat.le_of_ble_eq_true rfl) rfl rfl (fun _ _ h => h.elim) ?_
      rintro _ _ ⟨⟨rfl, hno556⟩ | ⟨rfl, i556, hi556, ht556, rfl⟩, hw556⟩
      · refine j_w w hw556 ?_
        refine j_if_eq (tgt := 19) dX11_hearTable_12 (by decide) (fun c_12_30 => ?_) (fun c_12_30 => ?_)
        · exact absurd c_12_30 (by decide)
        · refine j_iconst (v := 1) dX11_hearTable_15 (by decide) ?_
          refine j_goto (tgt := 20) dX11_hearTable_16 (by decide) ?_
          refine j_iconst (v := 1) dX11_hearTable_20 (by decide) ?_
          refine j_callV (q := (RX11, TX11, 8)) dX11_hearTable_21 kX11_start lX11_76 inX11_start seX11_start h.m rfl (cm_start1 hl w _ _ h (by decide)) (Nat.le_of_ble_eq_true rfl) ⟨(by show _ ≤ 42; omega), (by show _ ≤ 631; omega)⟩ rfl (Nat.le_of_ble_eq_true rfl) rfl rfl (fun _ _ h => h.elim) ?_
          rintro _ w2 ⟨rfl, fm2, h2⟩
          have R2 := R.th (k := 1)
          refine j_if_eq (tgt := 29) dX11_hearTable_24 (by decide) (fun c_24_38 => ?_) (fun c_24_38 => ?_)
          · exact absurd c_24_38 (by decide)
          · refine j_iconst (v := 0) dX11_hearTable_27 (by decide) ?_
            refine j_iret dX11_hearTable_28 rfl rfl ?_ (by show _ ≤ 42; omega) (by show _ ≤ 631; omega)
            refine cast (congrFun (congrFun hQ9 _) _) ?_
            try rw [ei555]
            refine ⟨_, _, rfl, (fm2.le (q' := 59) (by decide)), h2, sp_X1 (k := 1) ?_ (by decide) rfl R2⟩
            first | (first | (refine sp_k3b_1 ?_ <;> (first | (with_reducible assumption) | (refine Or.inl ?_; (with_reducible assumption)) | (refine Or.inr ?_; (with_reducible assumption)) | (refine Or.inr (Or.inl ?_); (with_reducible assumption)) | (refine Or.inr (Or.inr ?_); (with_reducible assumption)) | (refine Or.inr (Or.inr (Or.inl ?_)); (with_reducible assumption)) | (refine Or.inr (Or.inr (Or.inr ?_)); (with_reducible assumption)) | (refine fun z => Or.elim z ?_ ?_ <;> (with_reducible assumption)) | (refine fun z => Or.elim z ?_ (fun z => Or.elim z ?_ ?_) <;> (with_reducible assumption)) | (refine fun z => Or.elim z ?_ (fun z => Or.elim z ?_ (fun z => Or.elim z ?_ ?_)) <;> (with_reducible assumption)) | (refine fun z => Or.elim z (fun z9 => z9 ?_) ?_ <;> (first | (with_reducible assumption) | (refine Or.inl ?_; (with_reducible assumption)) | (refine Or.inr (Or.inl ?_); (with_reducible assumption)) | (refine Or.inr (Or.inr ?_); (with_reducible assumption)) | (refine Or.inr (Or.inr (Or.inl ?_)); (with_reducible assumption)) | (refine Or.inr (Or.inr (Or.inr ?_)); (with_reducible assumption)))) | (refine Or.inl (fun z => Or.elim z ?_ (fun z => Or.elim z ?_ ?_)) <;> (with_reducible assumption)) | (refine Or.inl (fun z => Or.elim z ?_ (fun z => Or.elim z ?_ (fun z => Or.elim z ?_ ?_))) <;> (with_reducible assumption)))) | (refine sp_k3b_1' ?_ <;> (first | (with_reducible assumption) | (refine Or.inl ?_; (with_reducible assumption)) | (refine Or.inr ?_; (with_reducible assumption)) | (refine Or.inr (Or.inl ?_); (with_reducible assumption)) | (refine Or.inr (Or.inr ?_); (with_reducible assumption)) | (refine Or.inr (Or.inr (Or.inl ?_)); (with_reducible assumption)) | (refine Or.inr (Or.inr (Or.inr ?_)); (with_reducible assumption)) | (refine fun z => Or.elim z ?_ ?_ <;> (with_reducible assumption)) | (refine fun z => Or.elim z ?_ (fun z => Or.elim z ?_ ?_) <;> (with_reducible assumption)) | (refine fun z => Or.elim z ?_ (fun z => Or.elim z ?_ (fun z => Or.elim z ?_ ?_)) <;> (with_reducible assumption)) | (refine fun z => Or.elim z (fun z9 => z9 ?_) ?_ <;> (first | (with_reducible assumption) | (refine Or.inl ?_; (with_reducible assumption)) | (refine Or.inr (Or.inl ?_); (with_reducible assumption)) | (refine Or.inr (Or.inr ?_); (with_reducible assumption)) | (refine Or.inr (Or.inr (Or.inl ?_)); (with_reducible assumption)) | (refine Or.inr (Or.inr (Or.inr ?_)); (with_reducible assumption)))) | (refine Or.inl (fun z => Or.elim z ?_ (fun z => Or.elim z ?_ ?_)) <;> (with_reducible assumption)) | (refine Or.inl (fun z => Or.elim z ?_ (fun z => Or.elim z ?_ (fun z => Or.elim z ?_ ?_))) <;> (with_reducible assumption))))) | (first | (refine sp_k3b_1 ?_ <;> (first | assumption | (refine Or.inl ?_; assumption) | (refine Or.inr ?_; assumption) | (refine Or.inr (Or.inl ?_); assumption) | (refine Or.inr (Or.inr ?_); assumption) | (refine Or.inr (Or.inr (Or.inl ?_)); assumption) | (refine Or.inr (Or.inr (Or.inr ?_)); assumption) | (refine fun z => Or.elim z ?_ ?_ <;> assumption) | (refine fun z => Or.elim z ?_ (fun z => Or.elim z ?_ ?_) <;> assumption) | (refine fun z => Or.elim z ?_ (fun z => Or.elim z ?_ (fun z => Or.elim z ?_ ?_)) <;> assumption) | (refine fun z => Or.elim z (fun z9 => z9 ?_) ?_ <;> (first | assumption | (refine Or.inl ?_; assumption) | (refine Or.inr (Or.inl ?_); assumption) | (refine Or.inr (Or.inr ?_); assumption) | (refine Or.inr (Or.inr (Or.inl ?_)); assumption) | (refine Or.inr (Or.inr (Or.inr ?_)); assumption))) | (refine Or.inl (fun z => Or.elim z ?_ (fun z => Or.elim z ?_ ?_)) <;> assumption) | (refine Or.inl (fun z => Or.elim z ?_ (fun z => Or.elim z ?_ (fun z => Or.elim z ?_ ?_))) <;> assumption))) | (refine sp_k3b_1' ?_ <;> (first | assumption | (refine Or.inl ?_; assumption) | (refine Or.inr ?_; assumption) | (refine Or.inr (Or.inl ?_); assumption) | (refine Or.inr (Or.inr ?_); assumption) | (refine Or.inr (Or.inr (Or.inl ?_)); assumption) | (refine Or.inr (Or.inr (Or.inr ?_)); assumption) | (refine fun z => Or.elim z ?_ ?_ <;> assumption) | (refine fun z => Or.elim z ?_ (fun z => Or.elim z ?_ ?_) <;> assumption) | (refine fun z => Or.elim z ?_ (fun z => Or.elim z ?_ (fun z => Or.elim z ?_ ?_)) <;> assumption) | (refine fun z => Or.elim z (fun z9 => z9 ?_) ?_ <;> (first | assumption | (refine Or.inl ?_; assumption) | (refine Or.inr (Or.inl ?_); assumption) | (refine Or.inr (Or.inr ?_); assumption) | (refine Or.inr (Or.inr (Or.inl ?_)); assumption) | (refine Or.inr (Or.inr (Or.inr ?_)); assumption))) | (refine Or.inl (fun z => Or.elim z ?_ (fun z => Or.elim z ?_ ?_)) <;> assumption) | (refine Or.inl (fun z => Or.elim z ?_ (fun z => Or.elim z ?_ (fun z => Or.elim z ?_ ?_))) <;> assumption))))
      · refine j_w w hw556 ?_
        have ei556 : sp_i (nI i556) = i556 := sp_in' (by omega)
        refine j_if_eq (tgt := 19) dX11_hearTable_12 (by decide) (fun c_12_48 => ?_) (fun c_12_48 => ?_)
        · refine j_iconst (v := 0) dX11_hearTable_19 (by decide) ?_
          refine j_iconst (v := 1) dX11_hearTable_20 (by decide) ?_
          refine j_callV (q := (RX11, TX11, 8)) dX11_hearTable_21 kX11_start lX11_76 inX11_start seX11_start h.m rfl (cm_start0 hl w _ _ h) (Nat.le_of_ble_eq_true rfl) ⟨(by show _ ≤ 42; omega), (by show _ ≤ 631; omega)⟩ rfl (Nat.le_of_ble_eq_true rfl) rfl rfl (fun _ _ h => h.elim) ?_
          rintro _ w3 ⟨rfl, fm3, h3⟩
          have R3 := R.th (k := 0)
          refine j_if_eq (tgt := 29) dX11_hearTable_24 (by decide) (fun c_24_54 => ?_) (fun c_24_54 => ?_)
          · refine j_iload_n dX11_hearTable_29 rfl ?_
            refine j_if_ne (tgt := 42) dX11_hearTable_30 (by decide) (fun c_30_56 => ?_) (fun c_30_56 => ?_)
            · have hb30 : ¬ i555 = 0 := fun z => c_30_56 (show nI i555 = nI 0 by rw [z])
              refine j_bipush (v := 7) dX11_hearTable_42 (by decide) ?_
              obtain ⟨x1, hx1a, hx1b, hx1c⟩ := z_fresh (57) (by decide) h3.fn
              refine j_newa (kd := 0) (N := 7) (w' := _) (n := x1) dX11_hearTable_44 rfl rfl arc_int ⟨rfl, fun _ _ h => h⟩ (by decide) rfl (by decide) rfl (z_alW hx1c hx1a) (Nat.le_of_ble_eq_true rfl) (Nat.le_of_ble_eq_true rfl) ?_
              refine j_seal hx1a ?_
              intro w4 u4
              have fw4 := u4.fw hx1a hx1b
              have g4_x1 := u4.1
              have h4 := h3.gar fw4 (by omega)
              refine j_astore_n (lo' := [(3, _), (0, _), (1, _), (2, _)]) dX11_hearTable_46 rfl (by decide) rfl ?_
              refine j_aload_n dX11_hearTable_47 rfl rfl ?_
              refine j_iconst (v := 0) dX11_hearTable_48 (by decide) ?_
              refine j_dup2 dX11_hearTable_49 rfl rfl ?_
              refine j_ld dX11_hearTable_50 g4_x1 (vp_in_nI (n := 0) (by decide) (by decide)) ?_
              refine j_iconst (v := 1) dX11_hearTable_51 (by decide) ?_
              refine j_iadd dX11_hearTable_52 ?_
              refine j_sto (w' := _) dX11_hearTable_53 g4_x1 (vp_in_nI (n := 0) (by decide) (by decide)) rfl ?_
              refine j_seal hx1a ?_
              intro w5 u5
              have fw5 := u5.fw hx1a hx1b
              have g5_x1 := u5.1
              have h5 := h4.gar fw5 (by omega)
              refine j_iconst (v := 0) dX11_hearTable_54 (by decide) ?_
              refine j_istore (lo' := [(4, _), (3, _), (0, _), (1, _), (2, _)]) dX11_hearTable_55 (by decide) rfl ?_
              refine j_aload_n dX11_hearTable_57 rfl rfl ?_
              refine j_getf dX11_hearTable_58 fX11_34 h5.m rfl ?_
              refine j_iload_n dX11_hearTable_61 rfl ?_
              obtain ⟨lv561, -, lg561⟩ := z_li.cell h5.tabs
              refine j_callV (q := (RJx4a65c, TJx4a65c, 3)) dX11_hearTable_62 kJx4a65c_get_915e3 lX11_82 inJx4a65c_get_915e3 seJx4a65c_get_915e3 lg561 rfl (cl_get hl w5 47 1007 _ _ (i555) _ h5.tabs (z_thr3 (t := i555) (by omega))) (Nat.le_of_ble_eq_true rfl) ⟨(by show _ ≤ 42; omega), (by show _ ≤ 631; omega)⟩ rfl (Nat.le_of_ble_eq_true rfl) rfl rfl (fun _ _ h => h.elim) ?_
              rintro _ _ ⟨rfl, hw562⟩
              refine j_w w5 hw562 ?_
              refine j_castS dX11_hearTable_65 (z_w 1341 ((lwt_6_3 6).trans rfl) (by decide +kernel)) (z_li.is (h5.tb (t := i555) (by omega))) ?_
              obtain ⟨lv565, -, lg565⟩ := z_li.cell (h5.tb (t := i555) (by omega))
              refine j_callV (q := (RJx4a65c, TJx4a65c, 3)) dX11_hearTable_68 kJx4a65c_iterator_32c93 lX11_162 inJx4a65c_iterator_32c93 seJx4a65c_iterator_32c93 lg565 rfl (cl_iter hl w5 58 (51 + i555) _ _ _ (h5.tb (t := i555) (by omega)) (by decide) (by omega) h5.fn) (Nat.le_of_ble_eq_true rfl) ⟨(by show _ ≤ 42; omega), (by show _ ≤ 631; omega)⟩ rfl (Nat.le_of_ble_eq_true rfl) rfl rfl (fun _ _ h => h.elim) ?_
              rintro _ w6 ⟨it564, rfl, fw6, hita564, hitb564, hitc564, la564, git564⟩
              have hita564 : 1000 ≤ it564 := hita564
              have hitb564 : it564 % 64 = 58 := hitb564
              have n_x1_it564 := z_neF hitc564 g5_x1
              have g6_x1 := fw6.g (Or.inr (by omega)) g5_x1
              have fm6 := fw6.fm (q := 59) (by omega)
              have h6 := h5.gar fw6 (by omega)
              refine j_astore (lo' := [(5, _), (4, _), (3, _), (0, _), (1, _), (2, _)]) dX11_hearTable_71 rfl (by decide) rfl ?_
              have hT20 : (sp_T S i555).length ≤ 20 := R.l20 h (t := i555) (by omega) rfl
              have loop73 : ∀ (n9 : Nat) (w7 : z_W) (s1 : z_Z) (k mm : Nat) (la : Int32) (c : Nat → Int32) (hh : sp_H) (F : Nat → Int32), (k ≤ (sp_T S i555).length) → ((sp_T S i555).length < k + n9) → (sp_ho c hh mm ((sp_prs (sp_T S i555)).drop k) = sp_htb S i555 i556) → (sp_MR (sp_uE (sp_tc S i555 c) i556 hh) s1) → (s1.1.1 = 0) → (z_mst w7 s1) → (z_fm 59 w w7) → (z_g w7 it564 = some (.inr (3, [.int (nI k), .int la, .int (z_qp s1 i555).1, .ref (1011 + i555)]))) → (z_g w7 x1 = some (.inl (0, 7, fun j => .int (F j)))) → z_J G l mX11_hearTable (22, 42, 631, w, Q9, (fun _ _ => False)) 73 [(0, .ref 1000), (1, .int (nI i555)), (2, .int (nI i556)), (3, .ref x1), (4, .int (nI mm)), (5, .ref it564)] [] w7 (2 + 2 * k) (11 + 31 * k) := by
                intro n9
                induction n9 with
                | zero => intro w7 s1 k mm la c hh F hkl hf9 he hR hth hm hfm git gx; exact absurd hf9 (by omega)
                | succ n9 ih =>
                  intro w7 s1 k mm la c hh F hkl hf9 he hR hth hm hfm git gx
                  refine j_aload dX11_hearTable_73 rfl rfl ?_
                  refine j_callF (x := ⟨"java/util/Iterator", "hasNext", "()Z"⟩) (q := (RJx35411, TJx35411, 4)) dX11_hearTable_75 kJx35411_hasNext_aae02 ⟨(z_w 1765 ((lwt_8_1 10).trans rfl) (by decide +kernel)), (z_w 1769 ((lwt_8_1 14).trans rfl) (by decide +kernel)), inJx35411_hasNext_aae02, ⟨by decide, by decide⟩, rfl, fun U h => h.2.1⟩ git rfl (cl_hasN hl w7 _ (51 + i555) _ (k) _ _ (hm.tb (t := i555) (by omega)) ⟨_, git⟩ (by rw [z_rs_len, hR.tlB (by omega) (congrFun sp_tcT _)]; omega)) (Nat.le_of_ble_eq_true rfl) ⟨(by show _ ≤ 42; omega), (by show _ ≤ 631; omega)⟩ rfl (Nat.le_of_ble_eq_true rfl) rfl ?_
                  rintro _ _ ⟨⟨x566, rfl, hz566, hp566⟩, hw566⟩
                  refine j_w w7 hw566 ?_
                  rw [z_rs_len, hR.tlB (by omega) (congrFun sp_tcT _)] at hz566 hp566
                  refine j_if_eq (tgt := 145) dX11_hearTable_80 (by decide) (fun c_80_111 => ?_) (fun c_80_111 => ?_)
                  · have hk80 : k = ((sp_T S i555)).length := hz566 c_80_111
                    refine j_aload_n dX11_hearTable_145 rfl rfl ?_
                    refine j_iconst (v := 1) dX11_hearTable_146 (by decide) ?_
                    refine j_dup2 dX11_hearTable_147 rfl rfl ?_
                    refine j_ld dX11_hearTable_148 gx (vp_in_nI (n := 1) (by decide) (by decide)) ?_
                    refine j_iconst (v := 1) dX11_hearTable_149 (by decide) ?_
                    refine j_iadd dX11_hearTable_150 ?_
                    refine j_sto (w' := _) dX11_hearTable_151 gx (vp_in_nI (n := 1) (by decide) (by decide)) rfl ?_
                    refine j_seal hx1a ?_
                    intro w8 u8
                    have fw8 := u8.fw hx1a hx1b
                    have g8_it564 := (u8.2.1 it564 (Ne.symm n_x1_it564)).trans git
                    have g8_x1 := u8.1
                    have h8 := hm.gar fw8 (by omega)
                    refine j_iload dX11_hearTable_152 rfl ?_
                    refine j_iret dX11_hearTable_154 rfl rfl ?_ (by show _ ≤ 42; omega) (by show _ ≤ 631; omega)
                    refine cast (congrFun (congrFun hQ9 _) _) ?_
                    rw [List.drop_eq_nil_of_le (by rw [sp_prl]; omega)] at he
                    try rw [ei555]
                    try rw [ei556]
                    refine ⟨_, _, rfl, (hfm.tr (fw8.fm (q := 59) (by omega))), h8, sp_X0 ?_ hth (by unfold sp_htbS; rw [← he]; have e := hR; rw [sp_tcn hb30] at e; show sp_MR (sp_uE (sp_tc S _ _) _ _) _; rw [sp_tcn hb30]; exact e) (by rw [← he]; rfl)⟩
                    first | (first | (refine sp_k3b_0 ?_ ?_ <;> (first | (with_reducible assumption) | (refine Or.inl ?_; (with_reducible assumption)) | (refine Or.inr ?_; (with_reducible assumption)) | (refine Or.inr (Or.inl ?_); (with_reducible assumption)) | (refine Or.inr (Or.inr ?_); (with_reducible assumption)) | (refine Or.inr (Or.inr (Or.inl ?_)); (with_reducible assumption)) | (refine Or.inr (Or.inr (Or.inr ?_)); (with_reducible assumption)) | (refine fun z => Or.elim z ?_ ?_ <;> (with_reducible assumption)) | (refine fun z => Or.elim z ?_ (fun z => Or.elim z ?_ ?_) <;> (with_reducible assumption)) | (refine fun z => Or.elim z ?_ (fun z => Or.elim z ?_ (fun z => Or.elim z ?_ ?_)) <;> (with_reducible assumption)) | (refine fun z => Or.elim z (fun z9 => z9 ?_) ?_ <;> (first | (with_reducible assumption) | (refine Or.inl ?_; (with_reducible assumption)) | (refine Or.inr (Or.inl ?_); (with_reducible assumption)) | (refine Or.inr (Or.inr ?_); (with_reducible assumption)) | (refine Or.inr (Or.inr (Or.inl ?_)); (with_reducible assumption)) | (refine Or.inr (Or.inr (Or.inr ?_)); (with_reducible assumption)))) | (refine Or.inl (fun z => Or.elim z ?_ (fun z => Or.elim z ?_ ?_)) <;> (with_reducible assumption)) | (refine Or.inl (fun z => Or.elim z ?_ (fun z => Or.elim z ?_ (fun z => Or.elim z ?_ ?_))) <;> (with_reducible assumption))))) | (first | (refine sp_k3b_0 ?_ ?_ <;> (first | assumption | (refine Or.inl ?_; assumption) | (refine Or.inr ?_; assumption) | (refine Or.inr (Or.inl ?_); assumption) | (refine Or.inr (Or.inr ?_); assumption) | (refine Or.inr (Or.inr (Or.inl ?_)); assumption) | (refine Or.inr (Or.inr (Or.inr ?_)); assumption) | (refine fun z => Or.elim z ?_ ?_ <;> assumption) | (refine fun z => Or.elim z ?_ (fun z => Or.elim z ?_ ?_) <;> assumption) | (refine fun z => Or.elim z ?_ (fun z => Or.elim z ?_ (fun z => Or.elim z ?_ ?_)) <;> assumption) | (refine fun z => Or.elim z (fun z9 => z9 ?_) ?_ <;> (first | assumption | (refine Or.inl ?_; assumption) | (refine Or.inr (Or.inl ?_); assumption) | (refine Or.inr (Or.inr ?_); assumption) | (refine Or.inr (Or.inr (Or.inl ?_)); assumption) | (refine Or.inr (Or.inr (Or.inr ?_)); assumption))) | (refine Or.inl (fun z => Or.elim z ?_ (fun z => Or.elim z ?_ ?_)) <;> assumption) | (refine Or.inl (fun z => Or.elim z ?_ (fun z => Or.elim z ?_ (fun z => Or.elim z ?_ ?_))) <;> assumption))))
                  · have hk80 : k < ((sp_T S i555)).length := hp566 c_80_111
                    refine j_aload dX11_hearTable_83 rfl rfl ?_
                    obtain ⟨e569, he569⟩ : ∃ e, ((sp_T S i555))[k]? = some e := ⟨_, List.getElem?_eq_getElem (show k < ((sp_T S i555)).length by omega)⟩
                    obtain ⟨p569, hp569, hq569, hk569, hv0569, hv1569, hv2569⟩ := hR.prB hm (t := i555) (k := k) (by omega) (congrFun sp_tcT _) he569
                    refine j_callF (x := ⟨"java/util/Iterator", "next", "()Ljava/lang/Object;"⟩) (q := (RJx35411, TJx35411, 4)) dX11_hearTable_85 kJx35411_next_0502b ⟨(z_w 1775 ((lwt_8_1 20).trans rfl) (by decide +kernel)), (z_w 1778 ((lwt_8_1 23).trans rfl) (by decide +kernel)), inJx35411_next_0502b, ⟨by decide, by decide⟩, rfl, fun U h => h.2.2.1⟩ git rfl (cl_next hl w7 58 it564 (51 + i555) _ (k) _ _ _ (hm.tb (t := i555) (by omega)) ⟨_, git⟩ hq569 hita564 hitb564 (by omega)) (Nat.le_of_ble_eq_true rfl) ⟨(by show _ ≤ 42; omega), (by show _ ≤ 631; omega)⟩ rfl (Nat.le_of_ble_eq_true rfl) rfl ?_
                    rintro _ w9 ⟨rfl, fw9, la9, git9⟩
                    have g9_x1 := fw9.g (Or.inr (by omega)) gx
                    have fm9 := fw9.fm (q := 59) (by omega)
                    have h9 := hm.gar fw9 (by omega)
                    refine j_castS dX11_hearTable_90 (z_w 1663 ((lwt_7_5 28).trans rfl) (by decide +kernel)) (z_isA ((h9.pr (t := i555) (by omega)).1 p569 hp569).2) ?_
                    refine j_astore (lo' := [(6, _), (0, _), (1, _), (2, _), (3, _), (4, _), (5, _)]) dX11_hearTable_93 rfl (by decide) rfl ?_
                    refine j_aload_n dX11_hearTable_95 rfl rfl ?_
                    refine j_iconst (v := 1) dX11_hearTable_96 (by decide) ?_
                    refine j_dup2 dX11_hearTable_97 rfl rfl ?_
                    refine j_ld dX11_hearTable_98 g9_x1 (vp_in_nI (n := 1) (by decide) (by decide)) ?_
                    refine j_iconst (v := 1) dX11_hearTable_99 (by decide) ?_
                    refine j_iadd dX11_hearTable_100 ?_
                    refine j_sto (w' := _) dX11_hearTable_101 g9_x1 (vp_in_nI (n := 1) (by decide) (by decide)) rfl ?_
                    refine j_seal hx1a ?_
                    intro w10 u10
                    have fw10 := u10.fw hx1a hx1b
                    have g10_it564 := (u10.2.1 it564 (Ne.symm n_x1_it564)).trans git9
                    have g10_x1 := u10.1
                    have h10 := h9.gar fw10 (by omega)
                    refine j_aload_n dX11_hearTable_102 rfl rfl ?_
                    refine j_iconst (v := 2) dX11_hearTable_103 (by decide) ?_
                    refine j_dup2 dX11_hearTable_104 rfl rfl ?_
                    refine j_ld dX11_hearTable_105 g10_x1 (vp_in_nI (n := 2) (by decide) (by decide)) ?_
                    refine j_iconst (v := 1) dX11_hearTable_106 (by decide) ?_
                    refine j_iadd dX11_hearTable_107 ?_
                    refine j_sto (w' := _) dX11_hearTable_108 g10_x1 (vp_in_nI (n := 2) (by decide) (by decide)) rfl ?_
                    refine j_seal hx1a ?_
                    intro w11 u11
                    have fw11 := u11.fw hx1a hx1b
                    have g11_it564 := (u11.2.1 it564 (Ne.symm n_x1_it564)).trans g10_it564
                    have g11_x1 := u11.1
                    have h11 := h10.gar fw11 (by omega)
                    refine j_aload_n dX11_hearTable_109 rfl rfl ?_
                    refine j_getf dX11_hearTable_110 fX11_40 h11.m rfl ?_
                    refine j_iload_n dX11_hearTable_113 rfl ?_
                    obtain ⟨fz575, gz575, hz575⟩ := h11.hs
                    refine j_aald (v := .ref (1009 + i556)) dX11_hearTable_114 gz575 rfl rfl (vp_in_nI (by omega) (by omega)) (by rw [z_cla (by omega)]; exact hz575 _ (by omega)) ?_
                    refine j_sipush (v := 1000) dX11_hearTable_115 (by decide) ?_
                    refine j_aload dX11_hearTable_118 rfl rfl ?_
                    refine j_iconst (v := 0) dX11_hearTable_120 (by decide) ?_
                    refine j_ld dX11_hearTable_121 ((h11.pr (t := i555) (by omega)).1 p569 hp569).2 (vp_in_nI (n := 0) (by decide) (by decide)) ?_
                    refine j_top (congrArg Value.int (show _ = nI e569.1 from by rw [show (0 : Int32).toNatClampNeg = 0 from by decide]; exact hv0569)) ?_
                    refine j_imul dX11_hearTable_122 ?_
                    refine j_aload dX11_hearTable_123 rfl rfl ?_
                    refine j_iconst (v := 1) dX11_hearTable_125 (by decide) ?_
                    refine j_ld dX11_hearTable_126 ((h11.pr (t := i555) (by omega)).1 p569 hp569).2 (vp_in_nI (n := 1) (by decide) (by decide)) ?_
                    refine j_top (congrArg Value.int (show _ = e569.2 from by rw [show (1 : Int32).toNatClampNeg = 1 from by decide]; exact hv1569)) ?_
                    refine j_iadd dX11_hearTable_127 ?_
                    refine j_callVN (q := (RX10, TX10, 5)) dX11_hearTable_128 kX10_refuses lX11_102 inX10_refuses seX10_refuses (h11.hd (i := i556) (by omega)) rfl (cm_refuses_r hl w11 (sp_tc S i555 c) hh _ (i556) _ h11 hR (by omega)) (Nat.le_of_ble_eq_true rfl) ⟨(by show _ ≤ 42; omega), (by show _ ≤ 631; omega)⟩ rfl (Nat.le_of_ble_eq_true rfl) rfl rfl (fun _ _ h => h.elim) ?_
                    rintro _ w12 (⟨rfl, hin12, hw12⟩ | ⟨rfl, h212, s12, hin12, fm12, h12, R12, ht12, hqp12⟩)
                    · refine j_w w11 hw12 ?_
                      refine j_if_eq (tgt := 139) dX11_hearTable_131 (by decide) (fun c_131_190 => ?_) (fun c_131_190 => ?_)
                      · exact absurd c_131_190 (by decide)
                      · refine j_aload_n dX11_hearTable_134 rfl rfl ?_
                        refine j_callV (q := (RX11, TX11, 8)) dX11_hearTable_135 kX11_nine lX11_105 inX11_nine seX11_nine h11.m rfl (cm_nine hl w11 _ h11) (Nat.le_of_ble_eq_true rfl) ⟨(by show _ ≤ 42; omega), (by show _ ≤ 631; omega)⟩ rfl (Nat.le_of_ble_eq_true rfl) rfl rfl (fun _ _ h => h.elim) ?_
                        rintro _ w13 ⟨rfl, fm13, h13⟩
                        have g13_it564 := fm13.g hita564 (by rw [hitb564]; decide) g11_it564
                        have g13_x1 := fm13.g hx1a (by rw [hx1b]; decide) g11_x1
                        have R13 := hR.ni
                        refine j_iret dX11_hearTable_138 rfl rfl ?_ (by show _ ≤ 42; omega) (by show _ ≤ 631; omega)
                        refine cast (congrFun (congrFun hQ9 _) _) ?_
                        rw [sp_prd he569, sp_hoN hin12] at he
                        try rw [ei555]
                        try rw [ei556]
                        refine ⟨_, _, rfl, ((((hfm.tr fm9).tr (fw10.fm (q := 59) (by omega))).tr (fw11.fm (q := 59) (by omega))).tr (fm13.le (q' := 59) (by decide))), h13, sp_X0 ?_ hth (by unfold sp_htbS; rw [← he]; have e := R13; rw [sp_tcn hb30] at e; show sp_MR (sp_nine (sp_uE (sp_tc S _ _) _ _)) _; rw [sp_tcn hb30]; exact e) (by rw [← he]; rfl)⟩
                        first | (first | (refine sp_k3b_0 ?_ ?_ <;> (first | (with_reducible assumption) | (refine Or.inl ?_; (with_reducible assumption)) | (refine Or.inr ?_; (with_reducible assumption)) | (refine Or.inr (Or.inl ?_); (with_reducible assumption)) | (refine Or.inr (Or.inr ?_); (with_reducible assumption)) | (refine Or.inr (Or.inr (Or.inl ?_)); (with_reducible assumption)) | (refine Or.inr (Or.inr (Or.inr ?_)); (with_reducible assumption)) | (refine fun z => Or.elim z ?_ ?_ <;> (with_reducible assumption)) | (refine fun z => Or.elim z ?_ (fun z => Or.elim z ?_ ?_) <;> (with_reducible assumption)) | (refine fun z => Or.elim z ?_ (fun z => Or.elim z ?_ (fun z => Or.elim z ?_ ?_)) <;> (with_reducible assumption)) | (refine fun z => Or.elim z (fun z9 => z9 ?_) ?_ <;> (first | (with_reducible assumption) | (refine Or.inl ?_; (with_reducible assumption)) | (refine Or.inr (Or.inl ?_); (with_reducible assumption)) | (refine Or.inr (Or.inr ?_); (with_reducible assumption)) | (refine Or.inr (Or.inr (Or.inl ?_)); (with_reducible assumption)) | (refine Or.inr (Or.inr (Or.inr ?_)); (with_reducible assumption)))) | (refine Or.inl (fun z => Or.elim z ?_ (fun z => Or.elim z ?_ ?_)) <;> (with_reducible assumption)) | (refine Or.inl (fun z => Or.elim z ?_ (fun z => Or.elim z ?_ (fun z => Or.elim z ?_ ?_))) <;> (with_reducible assumption))))) | (first | (refine sp_k3b_0 ?_ ?_ <;> (first | assumption | (refine Or.inl ?_; assumption) | (refine Or.inr ?_; assumption) | (refine Or.inr (Or.inl ?_); assumption) | (refine Or.inr (Or.inr ?_); assumption) | (refine Or.inr (Or.inr (Or.inl ?_)); assumption) | (refine Or.inr (Or.inr (Or.inr ?_)); assumption) | (refine fun z => Or.elim z ?_ ?_ <;> assumption) | (refine fun z => Or.elim z ?_ (fun z => Or.elim z ?_ ?_) <;> assumption) | (refine fun z => Or.elim z ?_ (fun z => Or.elim z ?_ (fun z => Or.elim z ?_ ?_)) <;> assumption) | (refine fun z => Or.elim z (fun z9 => z9 ?_) ?_ <;> (first | assumption | (refine Or.inl ?_; assumption) | (refine Or.inr (Or.inl ?_); assumption) | (refine Or.inr (Or.inr ?_); assumption) | (refine Or.inr (Or.inr (Or.inl ?_)); assumption) | (refine Or.inr (Or.inr (Or.inr ?_)); assumption))) | (refine Or.inl (fun z => Or.elim z ?_ (fun z => Or.elim z ?_ ?_)) <;> assumption) | (refine Or.inl (fun z => Or.elim z ?_ (fun z => Or.elim z ?_ (fun z => Or.elim z ?_ ?_))) <;> assumption))))
                    · have g12_it564 := fm12.g hita564 (by rw [hitb564]; decide) g11_it564
                      have g12_x1 := fm12.g hx1a (by rw [hx1b]; decide) g11_x1
                      have th12 := (congrArg Prod.fst ht12).trans hth
                      refine j_if_eq (tgt := 139) dX11_hearTable_131 (by decide) (fun c_131_208 => ?_) (fun c_131_208 => ?_)
                      · refine j_iinc (lo' := [(4, _), (6, _), (0, _), (1, _), (2, _), (3, _), (5, _)]) dX11_hearTable_139 rfl (z_inc _) (by decide) rfl ?_
                        refine j_goto (tgt := 73) dX11_hearTable_142 (by decide) ?_
                        refine j_widen (kc' := (2 + 2 * (k + 1))) (ks' := (11 + 31 * (k + 1))) (by omega) (by omega) ?_
                        exact j_lo2 (ih w12 _ (k + 1) (mm + 1) _ (z_bp (z_bp c 1) 2) _ _ (by omega) (by omega) (by rw [sp_prd he569, sp_hoS hin12] at he; exact he) (sp_MR.bpX hb30 R12) (by exact th12) h12 ((((hfm.tr fm9).tr (fw10.fm (q := 59) (by omega))).tr (fw11.fm (q := 59) (by omega))).tr (fm12.le (q' := 59) (by decide))) (by rw [hqp12]; exact g12_it564) g12_x1) (z_q1 rfl (z_q1 rfl (z_q1 rfl (z_q1 rfl (z_q1 rfl (z_q1 rfl z_q0))))))
                      · exact absurd c_131_208 (by decide)
              refine j_widen (kc' := (2 + 2 * 0)) (ks' := (11 + 31 * 0)) (by omega) (by omega) ?_
              exact j_lo2 (loop73 ((sp_T S i555).length + 1) w6 _ 0 0 _ (z_bp (sp_C S 2) 0) _ _ (Nat.zero_le _) (by omega) (by exact rfl) (by rw [sp_tcn hb30, sp_uE_id]; exact R3) (by exact rfl) h6 ((((fm3.le (q' := 59) (by decide)).tr (fw4.fm (q := 59) (by omega))).tr (fw5.fm (q := 59) (by omega))).tr fm6) git564 g6_x1) (z_q1 rfl (z_q1 rfl (z_q1 rfl (z_q1 rfl (z_q1 rfl (z_q1 rfl z_q0))))))
            · have hb30 : i555 = 0 := nI_inj (a := i555) (b := 0) c_30_56 (by omega) (by omega)
              refine j_aload_n dX11_hearTable_33 rfl rfl ?_
              refine j_getf dX11_hearTable_34 fX11_31 h3.m rfl ?_
              refine j_iconst (v := 2) dX11_hearTable_37 (by decide) ?_
              obtain ⟨fz578, gz578, hz578⟩ := h3.co
              refine j_aald (v := .ref (1004 + 2)) dX11_hearTable_38 gz578 rfl rfl (vp_in_nI (n := 2) (by decide) (by decide)) (by rw [show (2 : Int32).toNatClampNeg = 2 by decide]; exact hz578 _ (by decide)) ?_
              refine j_goto (tgt := 46) dX11_hearTable_39 (by decide) ?_
              refine j_astore_n (lo' := [(3, _), (0, _), (1, _), (2, _)]) dX11_hearTable_46 rfl (by decide) rfl ?_
              refine j_aload_n dX11_hearTable_47 rfl rfl ?_
              refine j_iconst (v := 0) dX11_hearTable_48 (by decide) ?_
              refine j_dup2 dX11_hearTable_49 rfl rfl ?_
              refine j_ld dX11_hearTable_50 (h3.cn (i := 2) (by decide)) (vp_in_nI (n := 0) (by decide) (by decide)) ?_
              refine j_iconst (v := 1) dX11_hearTable_51 (by decide) ?_
              refine j_iadd dX11_hearTable_52 ?_
              refine j_sto (w' := _) dX11_hearTable_53 (h3.cn (i := 2) (by decide)) (vp_in_nI (n := 0) (by decide) (by decide)) rfl ?_
              refine j_seal (by omega) ?_
              intro w14 u14
              have fw14 := u14.fw (ρ := 44 + 2) (by omega) (by omega)
              have h14 := h3.up44 (i0 := 2) (by decide) fw14 u14.1
              rw [show (0 : Int32).toNatClampNeg = 0 by decide] at h14
              have R14 := R3.bp (i := 2) (k := 0) (by omega) (by decide)
              refine j_iconst (v := 0) dX11_hearTable_54 (by decide) ?_
              refine j_istore (lo' := [(4, _), (3, _), (0, _), (1, _), (2, _)]) dX11_hearTable_55 (by decide) rfl ?_
              refine j_aload_n dX11_hearTable_57 rfl rfl ?_
              refine j_getf dX11_hearTable_58 fX11_34 h14.m rfl ?_
              refine j_iload_n dX11_hearTable_61 rfl ?_
              obtain ⟨lv582, -, lg582⟩ := z_li.cell h14.tabs
              refine j_callV (q := (RJx4a65c, TJx4a65c, 3)) dX11_hearTable_62 kJx4a65c_get_915e3 lX11_82 inJx4a65c_get_915e3 seJx4a65c_get_915e3 lg582 rfl (cl_get hl w14 47 1007 _ _ (i555) _ h14.tabs (z_thr3 (t := i555) (by omega))) (Nat.le_of_ble_eq_true rfl) ⟨(by show _ ≤ 42; omega), (by show _ ≤ 631; omega)⟩ rfl (Nat.le_of_ble_eq_true rfl) rfl rfl (fun _ _ h => h.elim) ?_
              rintro _ _ ⟨rfl, hw583⟩
              refine j_w w14 hw583 ?_
              refine j_castS dX11_hearTable_65 (z_w 1341 ((lwt_6_3 6).trans rfl) (by decide +kernel)) (z_li.is (h14.tb (t := i555) (by omega))) ?_
              obtain ⟨lv586, -, lg586⟩ := z_li.cell (h14.tb (t := i555) (by omega))
              refine j_callV (q := (RJx4a65c, TJx4a65c, 3)) dX11_hearTable_68 kJx4a65c_iterator_32c93 lX11_162 inJx4a65c_iterator_32c93 seJx4a65c_iterator_32c93 lg586 rfl (cl_iter hl w14 58 (51 + i555) _ _ _ (h14.tb (t := i555) (by omega)) (by decide) (by omega) h14.fn) (Nat.le_of_ble_eq_true rfl) ⟨(by show _ ≤ 42; omega), (by show _ ≤ 631; omega)⟩ rfl (Nat.le_of_ble_eq_true rfl) rfl rfl (fun _ _ h => h.elim) ?_
              rintro _ w15 ⟨it585, rfl, fw15, hita585, hitb585, hitc585, la585, git585⟩
              have hita585 : 1000 ≤ it585 := hita585
              have hitb585 : it585 % 64 = 58 := hitb585
              have fm15 := fw15.fm (q := 59) (by omega)
              have h15 := h14.gar fw15 (by omega)
              refine j_astore (lo' := [(5, _), (4, _), (3, _), (0, _), (1, _), (2, _)]) dX11_hearTable_71 rfl (by decide) rfl ?_
              have hT20 : (sp_T S i555).length ≤ 20 := R.l20 h (t := i555) (by omega) rfl
              have loop73 : ∀ (n9 : Nat) (w16 : z_W) (s1 : z_Z) (k mm : Nat) (la : Int32) (c : Nat → Int32) (hh : sp_H), (k ≤ (sp_T S i555).length) → ((sp_T S i555).length < k + n9) → (sp_ho c hh mm ((sp_prs (sp_T S i555)).drop k) = sp_htb S i555 i556) → (sp_MR (sp_uE (sp_tc S i555 c) i556 hh) s1) → (s1.1.1 = 0) → (z_mst w16 s1) → (z_fm 59 w w16) → (z_g w16 it585 = some (.inr (3, [.int (nI k), .int la, .int (z_qp s1 i555).1, .ref (1011 + i555)]))) → z_J G l mX11_hearTable (22, 42, 631, w, Q9, (fun _ _ => False)) 73 [(0, .ref 1000), (1, .int (nI i555)), (2, .int (nI i556)), (3, .ref (1004 + 2)), (4, .int (nI mm)), (5, .ref it585)] [] w16 (2 + 2 * k) (11 + 31 * k) := by
                intro n9
                induction n9 with
                | zero => intro w16 s1 k mm la c hh hkl hf9 he hR hth hm hfm git; exact absurd hf9 (by omega)
                | succ n9 ih =>
                  intro w16 s1 k mm la c hh hkl hf9 he hR hth hm hfm git
                  refine j_aload dX11_hearTable_73 rfl rfl ?_
                  refine j_callF (x := ⟨"java/util/Iterator", "hasNext", "()Z"⟩) (q := (RJx35411, TJx35411, 4)) dX11_hearTable_75 kJx35411_hasNext_aae02 ⟨(z_w 1765 ((lwt_8_1 10).trans rfl) (by decide +kernel)), (z_w 1769 ((lwt_8_1 14).trans rfl) (by decide +kernel)), inJx35411_hasNext_aae02, ⟨by decide, by decide⟩, rfl, fun U h => h.2.1⟩ git rfl (cl_hasN hl w16 _ (51 + i555) _ (k) _ _ (hm.tb (t := i555) (by omega)) ⟨_, git⟩ (by rw [z_rs_len, hR.tlB (by omega) (congrFun sp_tcT _)]; omega)) (Nat.le_of_ble_eq_true rfl) ⟨(by show _ ≤ 42; omega), (by show _ ≤ 631; omega)⟩ rfl (Nat.le_of_ble_eq_true rfl) rfl ?_
                  rintro _ _ ⟨⟨x587, rfl, hz587, hp587⟩, hw587⟩
                  refine j_w w16 hw587 ?_
                  rw [z_rs_len, hR.tlB (by omega) (congrFun sp_tcT _)] at hz587 hp587
                  refine j_if_eq (tgt := 145) dX11_hearTable_80 (by decide) (fun c_80_267 => ?_) (fun c_80_267 => ?_)
                  · have hk80 : k = ((sp_T S i555)).length := hz587 c_80_267
                    refine j_aload_n dX11_hearTable_145 rfl rfl ?_
                    refine j_iconst (v := 1) dX11_hearTable_146 (by decide) ?_
                    refine j_dup2 dX11_hearTable_147 rfl rfl ?_
                    refine j_ld dX11_hearTable_148 (hm.cn (i := 2) (by decide)) (vp_in_nI (n := 1) (by decide) (by decide)) ?_
                    refine j_iconst (v := 1) dX11_hearTable_149 (by decide) ?_
                    refine j_iadd dX11_hearTable_150 ?_
                    refine j_sto (w' := _) dX11_hearTable_151 (hm.cn (i := 2) (by decide)) (vp_in_nI (n := 1) (by decide) (by decide)) rfl ?_
                    refine j_seal (by omega) ?_
                    intro w17 u17
                    have fw17 := u17.fw (ρ := 44 + 2) (by omega) (by omega)
                    have g17_it585 := (fun z => (u17.2.1 it585 (fun z9 => by have h9 := hitb585; rw [z9] at h9; omega)).trans z) git
                    have h17 := hm.up44 (i0 := 2) (by decide) fw17 u17.1
                    rw [show (1 : Int32).toNatClampNeg = 1 by decide] at h17
                    have R17 := sp_MR.bpT (k := 1) hb30 hR (by decide)
                    refine j_iload dX11_hearTable_152 rfl ?_
                    refine j_iret dX11_hearTable_154 rfl rfl ?_ (by show _ ≤ 42; omega) (by show _ ≤ 631; omega)
                    refine cast (congrFun (congrFun hQ9 _) _) ?_
                    rw [List.drop_eq_nil_of_le (by rw [sp_prl]; omega)] at he
                    try rw [ei555]
                    try rw [ei556]
                    refine ⟨_, _, rfl, (hfm.tr (fw17.fm (q := 59) (by omega))), h17, sp_X0 ?_ hth (by unfold sp_htbS; rw [← he]; exact R17) (by rw [← he]; rfl)⟩
                    first | (first | (refine sp_k3b_0 ?_ ?_ <;> (first | (with_reducible assumption) | (refine Or.inl ?_; (with_reducible assumption)) | (refine Or.inr ?_; (with_reducible assumption)) | (refine Or.inr (Or.inl ?_); (with_reducible assumption)) | (refine Or.inr (Or.inr ?_); (with_reducible assumption)) | (refine Or.inr (Or.inr (Or.inl ?_)); (with_reducible assumption)) | (refine Or.inr (Or.inr (Or.inr ?_)); (with_reducible assumption)) | (refine fun z => Or.elim z ?_ ?_ <;> (with_reducible assumption)) | (refine fun z => Or.elim z ?_ (fun z => Or.elim z ?_ ?_) <;> (with_reducible assumption)) | (refine fun z => Or.elim z ?_ (fun z => Or.elim z ?_ (fun z => Or.elim z ?_ ?_)) <;> (with_reducible assumption)) | (refine fun z => Or.elim z (fun z9 => z9 ?_) ?_ <;> (first | (with_reducible assumption) | (refine Or.inl ?_; (with_reducible assumption)) | (refine Or.inr (Or.inl ?_); (with_reducible assumption)) | (refine Or.inr (Or.inr ?_); (with_reducible assumption)) | (refine Or.inr (Or.inr (Or.inl ?_)); (with_reducible assumption)) | (refine Or.inr (Or.inr (Or.inr ?_)); (with_reducible assumption)))) | (refine Or.inl (fun z => Or.elim z ?_ (fun z => Or.elim z ?_ ?_)) <;> (with_reducible assumption)) | (refine Or.inl (fun z => Or.elim z ?_ (fun z => Or.elim z ?_ (fun z => Or.elim z ?_ ?_))) <;> (with_reducible assumption))))) | (first | (refine sp_k3b_0 ?_ ?_ <;> (first | assumption | (refine Or.inl ?_; assumption) | (refine Or.inr ?_; assumption) | (refine Or.inr (Or.inl ?_); assumption) | (refine Or.inr (Or.inr ?_); assumption) | (refine Or.inr (Or.inr (Or.inl ?_)); assumption) | (refine Or.inr (Or.inr (Or.inr ?_)); assumption) | (refine fun z => Or.elim z ?_ ?_ <;> assumption) | (refine fun z => Or.elim z ?_ (fun z => Or.elim z ?_ ?_) <;> assumption) | (refine fun z => Or.elim z ?_ (fun z => Or.elim z ?_ (fun z => Or.elim z ?_ ?_)) <;> assumption) | (refine fun z => Or.elim z (fun z9 => z9 ?_) ?_ <;> (first | assumption | (refine Or.inl ?_; assumption) | (refine Or.inr (Or.inl ?_); assumption) | (refine Or.inr (Or.inr ?_); assumption) | (refine Or.inr (Or.inr (Or.inl ?_)); assumption) | (refine Or.inr (Or.inr (Or.inr ?_)); assumption))) | (refine Or.inl (fun z => Or.elim z ?_ (fun z => Or.elim z ?_ ?_)) <;> assumption) | (refine Or.inl (fun z => Or.elim z ?_ (fun z => Or.elim z ?_ (fun z => Or.elim z ?_ ?_))) <;> assumption))))
                  · have hk80 : k < ((sp_T S i555)).length := hp587 c_80_267
                    refine j_aload dX11_hearTable_83 rfl rfl ?_
                    obtain ⟨e590, he590⟩ : ∃ e, ((sp_T S i555))[k]? = some e := ⟨_, List.getElem?_eq_getElem (show k < ((sp_T S i555)).length by omega)⟩
                    obtain ⟨p590, hp590, hq590, hk590, hv0590, hv1590, hv2590⟩ := hR.prB hm (t := i555) (k := k) (by omega) (congrFun sp_tcT _) he590
                    refine j_callF (x := ⟨"java/util/Iterator", "next", "()Ljava/lang/Object;"⟩) (q := (RJx35411, TJx35411, 4)) dX11_hearTable_85 kJx35411_next_0502b ⟨(z_w 1775 ((lwt_8_1 20).trans rfl) (by decide +kernel)), (z_w 1778 ((lwt_8_1 23).trans rfl) (by decide +kernel)), inJx35411_next_0502b, ⟨by decide, by decide⟩, rfl, fun U h => h.2.2.1⟩ git rfl (cl_next hl w16 58 it585 (51 + i555) _ (k) _ _ _ (hm.tb (t := i555) (by omega)) ⟨_, git⟩ hq590 hita585 hitb585 (by omega)) (Nat.le_of_ble_eq_true rfl) ⟨(by show _ ≤ 42; omega), (by show _ ≤ 631; omega)⟩ rfl (Nat.le_of_ble_eq_true rfl) rfl ?_
                    rintro _ w18 ⟨rfl, fw18, la18, git18⟩
                    have fm18 := fw18.fm (q := 59) (by omega)
                    have h18 := hm.gar fw18 (by omega)
                    refine j_castS dX11_hearTable_90 (z_w 1663 ((lwt_7_5 28).trans rfl) (by decide +kernel)) (z_isA ((h18.pr (t := i555) (by omega)).1 p590 hp590).2) ?_
                    refine j_astore (lo' := [(6, _), (0, _), (1, _), (2, _), (3, _), (4, _), (5, _)]) dX11_hearTable_93 rfl (by decide) rfl ?_
                    refine j_aload_n dX11_hearTable_95 rfl rfl ?_
                    refine j_iconst (v := 1) dX11_hearTable_96 (by decide) ?_
                    refine j_dup2 dX11_hearTable_97 rfl rfl ?_
                    refine j_ld dX11_hearTable_98 (h18.cn (i := 2) (by decide)) (vp_in_nI (n := 1) (by decide) (by decide)) ?_
                    refine j_iconst (v := 1) dX11_hearTable_99 (by decide) ?_
                    refine j_iadd dX11_hearTable_100 ?_
                    refine j_sto (w' := _) dX11_hearTable_101 (h18.cn (i := 2) (by decide)) (vp_in_nI (n := 1) (by decide) (by decide)) rfl ?_
                    refine j_seal (by omega) ?_
                    intro w19 u19
                    have fw19 := u19.fw (ρ := 44 + 2) (by omega) (by omega)
                    have g19_it585 := (fun z => (u19.2.1 it585 (fun z9 => by have h9 := hitb585; rw [z9] at h9; omega)).trans z) git18
                    have h19 := h18.up44 (i0 := 2) (by decide) fw19 u19.1
                    rw [show (1 : Int32).toNatClampNeg = 1 by decide] at h19
                    have R19 := sp_MR.bpT (k := 1) hb30 hR (by decide)
                    refine j_aload_n dX11_hearTable_102 rfl rfl ?_
                    refine j_iconst (v := 2) dX11_hearTable_103 (by decide) ?_
                    refine j_dup2 dX11_hearTable_104 rfl rfl ?_
                    refine j_ld dX11_hearTable_105 (h19.cn (i := 2) (by decide)) (vp_in_nI (n := 2) (by decide) (by decide)) ?_
                    refine j_iconst (v := 1) dX11_hearTable_106 (by decide) ?_
                    refine j_iadd dX11_hearTable_107 ?_
                    refine j_sto (w' := _) dX11_hearTable_108 (h19.cn (i := 2) (by decide)) (vp_in_nI (n := 2) (by decide) (by decide)) rfl ?_
                    refine j_seal (by omega) ?_
                    intro w20 u20
                    have fw20 := u20.fw (ρ := 44 + 2) (by omega) (by omega)
                    have g20_it585 := (fun z => (u20.2.1 it585 (fun z9 => by have h9 := hitb585; rw [z9] at h9; omega)).trans z) g19_it585
                    have h20 := h19.up44 (i0 := 2) (by decide) fw20 u20.1
                    rw [show (2 : Int32).toNatClampNeg = 2 by decide] at h20
                    have R20 := sp_MR.bpT (k := 2) hb30 R19 (by decide)
                    refine j_aload_n dX11_hearTable_109 rfl rfl ?_
                    refine j_getf dX11_hearTable_110 fX11_40 h20.m rfl ?_
                    refine j_iload_n dX11_hearTable_113 rfl ?_
                    obtain ⟨fz596, gz596, hz596⟩ := h20.hs
                    refine j_aald (v := .ref (1009 + i556)) dX11_hearTable_114 gz596 rfl rfl (vp_in_nI (by omega) (by omega)) (by rw [z_cla (by omega)]; exact hz596 _ (by omega)) ?_
                    refine j_sipush (v := 1000) dX11_hearTable_115 (by decide) ?_
                    refine j_aload dX11_hearTable_118 rfl rfl ?_
                    refine j_iconst (v := 0) dX11_hearTable_120 (by decide) ?_
                    refine j_ld dX11_hearTable_121 ((h20.pr (t := i555) (by omega)).1 p590 hp590).2 (vp_in_nI (n := 0) (by decide) (by decide)) ?_
                    refine j_top (congrArg Value.int (show _ = nI e590.1 from by rw [show (0 : Int32).toNatClampNeg = 0 from by decide]; exact hv0590)) ?_
                    refine j_imul dX11_hearTable_122 ?_
                    refine j_aload dX11_hearTable_123 rfl rfl ?_
                    refine j_iconst (v := 1) dX11_hearTable_125 (by decide) ?_
                    refine j_ld dX11_hearTable_126 ((h20.pr (t := i555) (by omega)).1 p590 hp590).2 (vp_in_nI (n := 1) (by decide) (by decide)) ?_
                    refine j_top (congrArg Value.int (show _ = e590.2 from by rw [show (1 : Int32).toNatClampNeg = 1 from by decide]; exact hv1590)) ?_
                    refine j_iadd dX11_hearTable_127 ?_
                    refine j_callVN (q := (RX10, TX10, 5)) dX11_hearTable_128 kX10_refuses lX11_102 inX10_refuses seX10_refuses (h20.hd (i := i556) (by omega)) rfl (cm_refuses_r hl w20 (sp_tc S i555 (z_bp (z_bp c 1) 2)) hh _ (i556) _ h20 R20 (by omega)) (Nat.le_of_ble_eq_true rfl) ⟨(by show _ ≤ 42; omega), (by show _ ≤ 631; omega)⟩ rfl (Nat.le_of_ble_eq_true rfl) rfl rfl (fun _ _ h => h.elim) ?_
                    rintro _ w21 (⟨rfl, hin21, hw21⟩ | ⟨rfl, h221, s21, hin21, fm21, h21, R21, ht21, hqp21⟩)
                    · refine j_w w20 hw21 ?_
                      refine j_if_eq (tgt := 139) dX11_hearTable_131 (by decide) (fun c_131_348 => ?_) (fun c_131_348 => ?_)
                      · exact absurd c_131_348 (by decide)
                      · refine j_aload_n dX11_hearTable_134 rfl rfl ?_
                        refine j_callV (q := (RX11, TX11, 8)) dX11_hearTable_135 kX11_nine lX11_105 inX11_nine seX11_nine h20.m rfl (cm_nine hl w20 _ h20) (Nat.le_of_ble_eq_true rfl) ⟨(by show _ ≤ 42; omega), (by show _ ≤ 631; omega)⟩ rfl (Nat.le_of_ble_eq_true rfl) rfl rfl (fun _ _ h => h.elim) ?_
                        rintro _ w22 ⟨rfl, fm22, h22⟩
                        have g22_it585 := fm22.g hita585 (by rw [hitb585]; decide) g20_it585
                        have R22 := R20.ni
                        refine j_iret dX11_hearTable_138 rfl rfl ?_ (by show _ ≤ 42; omega) (by show _ ≤ 631; omega)
                        refine cast (congrFun (congrFun hQ9 _) _) ?_
                        rw [sp_prd he590, sp_hoN hin21] at he
                        try rw [ei555]
                        try rw [ei556]
                        refine ⟨_, _, rfl, ((((hfm.tr fm18).tr (fw19.fm (q := 59) (by omega))).tr (fw20.fm (q := 59) (by omega))).tr (fm22.le (q' := 59) (by decide))), h22, sp_X0 ?_ hth (by unfold sp_htbS; rw [← he]; exact R22) (by rw [← he]; rfl)⟩
                        first | (first | (refine sp_k3b_0 ?_ ?_ <;> (first | (with_reducible assumption) | (refine Or.inl ?_; (with_reducible assumption)) | (refine Or.inr ?_; (with_reducible assumption)) | (refine Or.inr (Or.inl ?_); (with_reducible assumption)) | (refine Or.inr (Or.inr ?_); (with_reducible assumption)) | (refine Or.inr (Or.inr (Or.inl ?_)); (with_reducible assumption)) | (refine Or.inr (Or.inr (Or.inr ?_)); (with_reducible assumption)) | (refine fun z => Or.elim z ?_ ?_ <;> (with_reducible assumption)) | (refine fun z => Or.elim z ?_ (fun z => Or.elim z ?_ ?_) <;> (with_reducible assumption)) | (refine fun z => Or.elim z ?_ (fun z => Or.elim z ?_ (fun z => Or.elim z ?_ ?_)) <;> (with_reducible assumption)) | (refine fun z => Or.elim z (fun z9 => z9 ?_) ?_ <;> (first | (with_reducible assumption) | (refine Or.inl ?_; (with_reducible assumption)) | (refine Or.inr (Or.inl ?_); (with_reducible assumption)) | (refine Or.inr (Or.inr ?_); (with_reducible assumption)) | (refine Or.inr (Or.inr (Or.inl ?_)); (with_reducible assumption)) | (refine Or.inr (Or.inr (Or.inr ?_)); (with_reducible assumption)))) | (refine Or.inl (fun z => Or.elim z ?_ (fun z => Or.elim z ?_ ?_)) <;> (with_reducible assumption)) | (refine Or.inl (fun z => Or.elim z ?_ (fun z => Or.elim z ?_ (fun z => Or.elim z ?_ ?_))) <;> (with_reducible assumption))))) | (first | (refine sp_k3b_0 ?_ ?_ <;> (first | assumption | (refine Or.inl ?_; assumption) | (refine Or.inr ?_; assumption) | (refine Or.inr (Or.inl ?_); assumption) | (refine Or.inr (Or.inr ?_); assumption) | (refine Or.inr (Or.inr (Or.inl ?_)); assumption) | (refine Or.inr (Or.inr (Or.inr ?_)); assumption) | (refine fun z => Or.elim z ?_ ?_ <;> assumption) | (refine fun z => Or.elim z ?_ (fun z => Or.elim z ?_ ?_) <;> assumption) | (refine fun z => Or.elim z ?_ (fun z => Or.elim z ?_ (fun z => Or.elim z ?_ ?_)) <;> assumption) | (refine fun z => Or.elim z (fun z9 => z9 ?_) ?_ <;> (first | assumption | (refine Or.inl ?_; assumption) | (refine Or.inr (Or.inl ?_); assumption) | (refine Or.inr (Or.inr ?_); assumption) | (refine Or.inr (Or.inr (Or.inl ?_)); assumption) | (refine Or.inr (Or.inr (Or.inr ?_)); assumption))) | (refine Or.inl (fun z => Or.elim z ?_ (fun z => Or.elim z ?_ ?_)) <;> assumption) | (refine Or.inl (fun z => Or.elim z ?_ (fun z => Or.elim z ?_ (fun z => Or.elim z ?_ ?_))) <;> assumption))))
                    · have g21_it585 := fm21.g hita585 (by rw [hitb585]; decide) g20_it585
                      have th21 := (congrArg Prod.fst ht21).trans hth
                      refine j_if_eq (tgt := 139) dX11_hearTable_131 (by decide) (fun c_131_364 => ?_) (fun c_131_364 => ?_)
                      · refine j_iinc (lo' := [(4, _), (6, _), (0, _), (1, _), (2, _), (3, _), (5, _)]) dX11_hearTable_139 rfl (z_inc _) (by decide) rfl ?_
                        refine j_goto (tgt := 73) dX11_hearTable_142 (by decide) ?_
                        refine j_widen (kc' := (2 + 2 * (k + 1))) (ks' := (11 + 31 * (k + 1))) (by omega) (by omega) ?_
                        exact j_lo2 (ih w21 _ (k + 1) (mm + 1) _ (z_bp (z_bp c 1) 2) _ (by omega) (by omega) (by rw [sp_prd he590, sp_hoS hin21] at he; exact he) R21 (by exact th21) h21 ((((hfm.tr fm18).tr (fw19.fm (q := 59) (by omega))).tr (fw20.fm (q := 59) (by omega))).tr (fm21.le (q' := 59) (by decide))) (by rw [hqp21]; exact g21_it585)) (z_q1 rfl (z_q1 rfl (z_q1 rfl (z_q1 rfl (z_q1 rfl (z_q1 rfl z_q0))))))
                      · exact absurd c_131_364 (by decide)
              refine j_widen (kc' := (2 + 2 * 0)) (ks' := (11 + 31 * 0)) (by omega) (by omega) ?_
              exact j_lo2 (loop73 ((sp_T S i555).length + 1) w15 _ 0 0 _ (z_bp (sp_C S 2) 0) _ (Nat.zero_le _) (by omega) (by exact rfl) (by rw [sp_tc0 hb30, show sp_uE (sp_uC S 2 (z_bp (sp_C S 2) 0)) i556 (sp_E S i556) = sp_uC S 2 (z_bp (sp_C S 2) 0) from sp_uE_id]; exact R14) (by exact rfl) h15 (((fm3.le (q' := 59) (by decide)).tr (fw14.fm (q := 59) (by omega))).tr fm15) git585) (z_q1 rfl (z_q1 rfl (z_q1 rfl (z_q1 rfl (z_q1 rfl (z_q1 rfl z_q0))))))
          · exact absurd c_24_54 (by decide)
        · exact absurd c_12_48 (by decide)
set_option maxRecDepth 100000 in
set_option maxHeartbeats 8000000 in
theorem cx_replaceTable (hl : l.stackTraces = false) (w : z_W) (S : sp_S) (s : z_Z) (t : Int32) (r : Int32) (n : Int32) (h : z_mst w s) (R : sp_MR S s) (ok : sp_ok S) : z_Con G l mX11_replaceTable 22 2 11 w [.ref 1000, .int t, .int r, .int n] (fun v w9 => ∃ (r9 : Int32) (s9 : z_Z), v = some (.int r9) ∧ z_fm 59 w w9 ∧ z_mst w9 s9 ∧ s9.1.1 = sp_k32 t (¬ (r = 0 ∨ r = 1 ∨ r = 4 ∨ r = 5) ∨ sp_bv n) ∧ sp_MR (if sp_k32 t (¬ (r = 0 ∨ r = 1 ∨ r = 4 ∨ r = 5) ∨ sp_bv n) = 0 then sp_ctbS S (sp_i t) r n else S) s9 ∧ (sp_k32 t (¬ (r = 0 ∨ r = 1 ∨ r = 4 ∨ r = 5) ∨ sp_bv n) = 0 → r9 = cond (sp_ctb S (sp_i t) r n).1 (nI (sp_ctb S (sp_i t) r n).2.2.length) (-9))) (fun _ _ => False) := by
  generalize hQ9 : (fun (v : Option Value) (w9 : z_W) => ∃ (r9 : Int32) (s9 : z_Z), v = some (.int r9) ∧ z_fm 59 w w9 ∧ z_mst w9 s9 ∧ s9.1.1 = sp_k32 t (¬ (r = 0 ∨ r = 1 ∨ r = 4 ∨ r = 5) ∨ sp_bv n) ∧ sp_MR (if sp_k32 t (¬ (r = 0 ∨ r = 1 ∨ r = 4 ∨ r = 5) ∨ sp_bv n) = 0 then sp_ctbS S (sp_i t) r n else S) s9 ∧ (sp_k32 t (¬ (r = 0 ∨ r = 1 ∨ r = 4 ∨ r = 5) ∨ sp_bv n) = 0 → r9 = cond (sp_ctb S (sp_i t) r n).1 (nI (sp_ctb S (sp_i t) r n).2.2.length) (-9))) = Q9
  refine z_body hl (by decide) rfl (Nat.le_of_ble_eq_true rfl) ?_
  show z_J G l mX11_replaceTable _ 0 [(0, _), (1, _), (2, _), (3, _)] [] _ 0 0
  refine j_aload_n dX11_replaceTable_0 rfl rfl ?_
  refine j_iload_n dX11_replaceTable_1 rfl ?_
  refine j_callS dX11_replaceTable_2 kX11_isNoTable lX11_136 stX11_isNoTable (cm_isNoTable_r hl w _) (Nat.le_of_ble_eq_true rfl) ⟨(by show _ ≤ 2; omega), (by show _ ≤ 11; omega)⟩ rfl (Nat.le_of_ble_eq_true rfl) rfl rfl (fun _ _ h => h.elim) ?_
  rintro _ _ ⟨⟨rfl, hno599⟩ | ⟨rfl, i599, hi599, ht599, rfl⟩, hw599⟩
  · refine j_w w hw599 ?_
    refine j_iconst (v := 1) dX11_replaceTable_5 (by decide) ?_
    refine j_callV (q := (RX11, TX11, 8)) dX11_replaceTable_6 kX11_start lX11_76 inX11_start seX11_start h.m rfl (cm_start1 hl w _ _ h (by decide)) (Nat.le_of_ble_eq_true rfl) ⟨(by show _ ≤ 2; omega), (by show _ ≤ 11; omega)⟩ rfl (Nat.le_of_ble_eq_true rfl) rfl rfl (fun _ _ h => h.elim) ?_
    rintro _ w1 ⟨rfl, fm1, h1⟩
    have R1 := R.th (k := 1)
    refine j_if_ne (tgt := 51) dX11_replaceTable_9 (by decide) (fun c_9_11 => ?_) (fun c_9_11 => ?_)
    · refine j_iconst (v := 0) dX11_replaceTable_51 (by decide) ?_
      refine j_iret dX11_replaceTable_52 rfl rfl ?_ (by show _ ≤ 2; omega) (by show _ ≤ 11; omega)
      refine cast (congrFun (congrFun hQ9 _) _) ?_
      refine ⟨_, _, rfl, (fm1.le (q' := 59) (by decide)), h1, sp_X1 (k := 1) ?_ (by decide) rfl R1⟩
      first | (first | (refine sp_k32_1 ?_ <;> (first | (with_reducible assumption) | (refine Or.inl ?_; (with_reducible assumption)) | (refine Or.inr ?_; (with_reducible assumption)) | (refine Or.inr (Or.inl ?_); (with_reducible assumption)) | (refine Or.inr (Or.inr ?_); (with_reducible assumption)) | (refine Or.inr (Or.inr (Or.inl ?_)); (with_reducible assumption)) | (refine Or.inr (Or.inr (Or.inr ?_)); (with_reducible assumption)) | (refine fun z => Or.elim z ?_ ?_ <;> (with_reducible assumption)) | (refine fun z => Or.elim z ?_ (fun z => Or.elim z ?_ ?_) <;> (with_reducible assumption)) | (refine fun z => Or.elim z ?_ (fun z => Or.elim z ?_ (fun z => Or.elim z ?_ ?_)) <;> (with_reducible assumption)) | (refine fun z => Or.elim z (fun z9 => z9 ?_) ?_ <;> (first | (with_reducible assumption) | (refine Or.inl ?_; (with_reducible assumption)) | (refine Or.inr (Or.inl ?_); (with_reducible assumption)) | (refine Or.inr (Or.inr ?_); (with_reducible assumption)) | (refine Or.inr (Or.inr (Or.inl ?_)); (with_reducible assumption)) | (refine Or.inr (Or.inr (Or.inr ?_)); (with_reducible assumption)))) | (refine Or.inl (fun z => Or.elim z ?_ (fun z => Or.elim z ?_ ?_)) <;> (with_reducible assumption)) | (refine Or.inl (fun z => Or.elim z ?_ (fun z => Or.elim z ?_ (fun z => Or.elim z ?_ ?_))) <;> (with_reducible assumption))))) | (first | (refine sp_k32_1 ?_ <;> (first | assumption | (refine Or.inl ?_; assumption) | (refine Or.inr ?_; assumption) | (refine Or.inr (Or.inl ?_); assumption) | (refine Or.inr (Or.inr ?_); assumption) | (refine Or.inr (Or.inr (Or.inl ?_)); assumption) | (refine Or.inr (Or.inr (Or.inr ?_)); assumption) | (refine fun z => Or.elim z ?_ ?_ <;> assumption) | (refine fun z => Or.elim z ?_ (fun z => Or.elim z ?_ ?_) <;> assumption) | (refine fun z => Or.elim z ?_ (fun z => Or.elim z ?_ (fun z => Or.elim z ?_ ?_)) <;> assumption) | (refine fun z => Or.elim z (fun z9 => z9 ?_) ?_ <;> (first | assumption | (refine Or.inl ?_; assumption) | (refine Or.inr (Or.inl ?_); assumption) | (refine Or.inr (Or.inr ?_); assumption) | (refine Or.inr (Or.inr (Or.inl ?_)); assumption) | (refine Or.inr (Or.inr (Or.inr ?_)); assumption))) | (refine Or.inl (fun z => Or.elim z ?_ (fun z => Or.elim z ?_ ?_)) <;> assumption) | (refine Or.inl (fun z => Or.elim z ?_ (fun z => Or.elim z ?_ (fun z => Or.elim z ?_ ?_))) <;> assumption))))
    · exact absurd c_9_11 (by decide)
  · refine j_w w hw599 ?_
    have ei599 : sp_i (nI i599) = i599 := sp_in' (by omega)
    refine j_iconst (v := 1) dX11_replaceTable_5 (by decide) ?_
    refine j_callV (q := (RX11, TX11, 8)) dX11_replaceTable_6 kX11_start lX11_76 inX11_start seX11_start h.m rfl (cm_start0 hl w _ _ h) (Nat.le_of_ble_eq_true rfl) ⟨(by show _ ≤ 2; omega), (by show _ ≤ 11; omega)⟩ rfl (Nat.le_of_ble_eq_true rfl) rfl rfl (fun _ _ h => h.elim) ?_
    rintro _ w2 ⟨rfl, fm2, h2⟩
    have R2 := R.th (k := 0)
    refine j_if_ne (tgt := 51) dX11_replaceTable_9 (by decide) (fun c_9_24 => ?_) (fun c_9_24 => ?_)
    · exact absurd c_9_24 (by decide)
    · refine j_aload_n dX11_replaceTable_12 rfl rfl ?_
      refine j_iload_n dX11_replaceTable_13 rfl ?_
      refine j_if_eq (tgt := 32) dX11_replaceTable_14 (by decide) (fun c_14_28 => ?_) (fun c_14_28 => ?_)
      · refine j_iload_n dX11_replaceTable_32 rfl ?_
        refine j_callS dX11_replaceTable_33 kX11_isNoValue lX11_79 stX11_isNoValue (cm_isNoValue_r hl w2 _) (Nat.le_of_ble_eq_true rfl) ⟨(by show _ ≤ 2; omega), (by show _ ≤ 11; omega)⟩ rfl (Nat.le_of_ble_eq_true rfl) rfl rfl (fun _ _ h => h.elim) ?_
        rintro _ _ ⟨⟨rfl, hno600⟩ | ⟨rfl, hye600⟩, hw600⟩
        · refine j_w w2 hw600 ?_
          refine j_if_eq (tgt := 43) dX11_replaceTable_36 (by decide) (fun c_36_33 => ?_) (fun c_36_33 => ?_)
          · exact absurd c_36_33 (by decide)
          · refine j_iconst (v := 1) dX11_replaceTable_39 (by decide) ?_
            refine j_goto (tgt := 44) dX11_replaceTable_40 (by decide) ?_
            refine j_iconst (v := 2) dX11_replaceTable_44 (by decide) ?_
            refine j_callV (q := (RX11, TX11, 8)) dX11_replaceTable_45 kX11_refuse lX11_52 inX11_refuse seX11_refuse h2.m rfl (cm_refuse1 hl w2 _ _ h2 rfl (by decide)) (Nat.le_of_ble_eq_true rfl) ⟨(by show _ ≤ 2; omega), (by show _ ≤ 11; omega)⟩ rfl (Nat.le_of_ble_eq_true rfl) rfl rfl (fun _ _ h => h.elim) ?_
            rintro _ w3 ⟨rfl, fm3, h3⟩
            have R3 := R2.th (k := 2)
            refine j_if_eq (tgt := 53) dX11_replaceTable_48 (by decide) (fun c_48_41 => ?_) (fun c_48_41 => ?_)
            · exact absurd c_48_41 (by decide)
            · refine j_iconst (v := 0) dX11_replaceTable_51 (by decide) ?_
              refine j_iret dX11_replaceTable_52 rfl rfl ?_ (by show _ ≤ 2; omega) (by show _ ≤ 11; omega)
              refine cast (congrFun (congrFun hQ9 _) _) ?_
              try rw [ei599]
              refine ⟨_, _, rfl, ((fm2.le (q' := 59) (by decide)).tr (fm3.le (q' := 59) (by decide))), h3, sp_X1 (k := 2) ?_ (by decide) rfl R3⟩
              first | (first | (refine sp_k32_2 ?_ ?_ <;> (first | (with_reducible assumption) | (refine Or.inl ?_; (with_reducible assumption)) | (refine Or.inr ?_; (with_reducible assumption)) | (refine Or.inr (Or.inl ?_); (with_reducible assumption)) | (refine Or.inr (Or.inr ?_); (with_reducible assumption)) | (refine Or.inr (Or.inr (Or.inl ?_)); (with_reducible assumption)) | (refine Or.inr (Or.inr (Or.inr ?_)); (with_reducible assumption)) | (refine fun z => Or.elim z ?_ ?_ <;> (with_reducible assumption)) | (refine fun z => Or.elim z ?_ (fun z => Or.elim z ?_ ?_) <;> (with_reducible assumption)) | (refine fun z => Or.elim z ?_ (fun z => Or.elim z ?_ (fun z => Or.elim z ?_ ?_)) <;> (with_reducible assumption)) | (refine fun z => Or.elim z (fun z9 => z9 ?_) ?_ <;> (first | (with_reducible assumption) | (refine Or.inl ?_; (with_reducible assumption)) | (refine Or.inr (Or.inl ?_); (with_reducible assumption)) | (refine Or.inr (Or.inr ?_); (with_reducible assumption)) | (refine Or.inr (Or.inr (Or.inl ?_)); (with_reducible assumption)) | (refine Or.inr (Or.inr (Or.inr ?_)); (with_reducible assumption)))) | (refine Or.inl (fun z => Or.elim z ?_ (fun z => Or.elim z ?_ ?_)) <;> (with_reducible assumption)) | (refine Or.inl (fun z => Or.elim z ?_ (fun z => Or.elim z ?_ (fun z => Or.elim z ?_ ?_))) <;> (with_reducible assumption))))) | (first | (refine sp_k32_2 ?_ ?_ <;> (first | assumption | (refine Or.inl ?_; assumption) | (refine Or.inr ?_; assumption) | (refine Or.inr (Or.inl ?_); assumption) | (refine Or.inr (Or.inr ?_); assumption) | (refine Or.inr (Or.inr (Or.inl ?_)); assumption) | (refine Or.inr (Or.inr (Or.inr ?_)); assumption) | (refine fun z => Or.elim z ?_ ?_ <;> assumption) | (refine fun z => Or.elim z ?_ (fun z => Or.elim z ?_ ?_) <;> assumption) | (refine fun z => Or.elim z ?_ (fun z => Or.elim z ?_ (fun z => Or.elim z ?_ ?_)) <;> assumption) | (refine fun z => Or.elim z (fun z9 => z9 ?_) ?_ <;> (first | assumption | (refine Or.inl ?_; assumption) | (refine Or.inr (Or.inl ?_); assumption) | (refine Or.inr (Or.inr ?_); assumption) | (refine Or.inr (Or.inr (Or.inl ?_)); assumption) | (refine Or.inr (Or.inr (Or.inr ?_)); assumption))) | (refine Or.inl (fun z => Or.elim z ?_ (fun z => Or.elim z ?_ ?_)) <;> assumption) | (refine Or.inl (fun z => Or.elim z ?_ (fun z => Or.elim z ?_ (fun z => Or.elim z ?_ ?_))) <;> assumption))))
        · refine j_w w2 hw600 ?_
          refine j_if_eq (tgt := 43) dX11_replaceTable_36 (by decide) (fun c_36_50 => ?_) (fun c_36_50 => ?_)
          · refine j_iconst (v := 0) dX11_replaceTable_43 (by decide) ?_
            refine j_iconst (v := 2) dX11_replaceTable_44 (by decide) ?_
            refine j_callV (q := (RX11, TX11, 8)) dX11_replaceTable_45 kX11_refuse lX11_52 inX11_refuse seX11_refuse h2.m rfl (cm_refuse0 hl w2 _ _ h2 rfl) (Nat.le_of_ble_eq_true rfl) ⟨(by show _ ≤ 2; omega), (by show _ ≤ 11; omega)⟩ rfl (Nat.le_of_ble_eq_true rfl) rfl rfl (fun _ _ h => h.elim) ?_
            rintro _ _ ⟨rfl, hw601⟩
            refine j_w w2 hw601 ?_
            refine j_if_eq (tgt := 53) dX11_replaceTable_48 (by decide) (fun c_48_56 => ?_) (fun c_48_56 => ?_)
            · refine j_iload_n dX11_replaceTable_53 rfl ?_
              refine j_if_ne (tgt := 66) dX11_replaceTable_54 (by decide) (fun c_54_58 => ?_) (fun c_54_58 => ?_)
              · have hb54 : ¬ i599 = 0 := fun z => c_54_58 (show nI i599 = nI 0 by rw [z])
                refine j_bipush (v := 7) dX11_replaceTable_66 (by decide) ?_
                obtain ⟨x1, hx1a, hx1b, hx1c⟩ := z_fresh (57) (by decide) h2.fn
                refine j_newa (kd := 0) (N := 7) (w' := _) (n := x1) dX11_replaceTable_68 rfl rfl arc_int ⟨rfl, fun _ _ h => h⟩ (by decide) rfl (by decide) rfl (z_alW hx1c hx1a) (Nat.le_of_ble_eq_true rfl) (Nat.le_of_ble_eq_true rfl) ?_
                refine j_seal hx1a ?_
                intro w4 u4
                have fw4 := u4.fw hx1a hx1b
                have g4_x1 := u4.1
                have h4 := h2.gar fw4 (by omega)
                refine j_astore (lo' := [(4, _), (0, _), (1, _), (2, _), (3, _)]) dX11_replaceTable_70 rfl (by decide) rfl ?_
                refine j_aload dX11_replaceTable_72 rfl rfl ?_
                refine j_iconst (v := 0) dX11_replaceTable_74 (by decide) ?_
                refine j_dup2 dX11_replaceTable_75 rfl rfl ?_
                refine j_ld dX11_replaceTable_76 g4_x1 (vp_in_nI (n := 0) (by decide) (by decide)) ?_
                refine j_iconst (v := 1) dX11_replaceTable_77 (by decide) ?_
                refine j_iadd dX11_replaceTable_78 ?_
                refine j_sto (w' := _) dX11_replaceTable_79 g4_x1 (vp_in_nI (n := 0) (by decide) (by decide)) rfl ?_
                refine j_seal hx1a ?_
                intro w5 u5
                have fw5 := u5.fw hx1a hx1b
                have g5_x1 := u5.1
                have h5 := h4.gar fw5 (by omega)
                refine j_aload_n dX11_replaceTable_80 rfl rfl ?_
                refine j_getf dX11_replaceTable_81 fX11_34 h5.m rfl ?_
                refine j_iload_n dX11_replaceTable_84 rfl ?_
                obtain ⟨lv606, -, lg606⟩ := z_li.cell h5.tabs
                refine j_callV (q := (RJx4a65c, TJx4a65c, 3)) dX11_replaceTable_85 kJx4a65c_get_915e3 lX11_82 inJx4a65c_get_915e3 seJx4a65c_get_915e3 lg606 rfl (cl_get hl w5 47 1007 _ _ (i599) _ h5.tabs (z_thr3 (t := i599) (by omega))) (Nat.le_of_ble_eq_true rfl) ⟨(by show _ ≤ 2; omega), (by show _ ≤ 11; omega)⟩ rfl (Nat.le_of_ble_eq_true rfl) rfl rfl (fun _ _ h => h.elim) ?_
                rintro _ _ ⟨rfl, hw607⟩
                refine j_w w5 hw607 ?_
                refine j_castS dX11_replaceTable_88 (z_w 1341 ((lwt_6_3 6).trans rfl) (by decide +kernel)) (z_li.is (h5.tb (t := i599) (by omega))) ?_
                obtain ⟨lv610, -, lg610⟩ := z_li.cell (h5.tb (t := i599) (by omega))
                refine j_callV (q := (RJx4a65c, TJx4a65c, 3)) dX11_replaceTable_91 kJx4a65c_iterator_32c93 lX11_162 inJx4a65c_iterator_32c93 seJx4a65c_iterator_32c93 lg610 rfl (cl_iter hl w5 58 (51 + i599) _ _ _ (h5.tb (t := i599) (by omega)) (by decide) (by omega) h5.fn) (Nat.le_of_ble_eq_true rfl) ⟨(by show _ ≤ 2; omega), (by show _ ≤ 11; omega)⟩ rfl (Nat.le_of_ble_eq_true rfl) rfl rfl (fun _ _ h => h.elim) ?_
                rintro _ w6 ⟨it609, rfl, fw6, hita609, hitb609, hitc609, la609, git609⟩
                have hita609 : 1000 ≤ it609 := hita609
                have hitb609 : it609 % 64 = 58 := hitb609
                have n_x1_it609 := z_neF hitc609 g5_x1
                have g6_x1 := fw6.g (Or.inr (by omega)) g5_x1
                have fm6 := fw6.fm (q := 59) (by omega)
                have h6 := h5.gar fw6 (by omega)
                refine j_astore (lo' := [(5, _), (4, _), (0, _), (1, _), (2, _), (3, _)]) dX11_replaceTable_94 rfl (by decide) rfl ?_
                have loop96 : ∀ (n9 : Nat) (w7 : z_W) (s1 : z_Z) (A L : List (Nat × Int32)) (la : Int32) (c : Nat → Int32) (F : Nat → Int32), (L.length < n9) → (A.length ≤ (A ++ L).length) → (sp_rt r n c A L = sp_ctb S i599 r n) → (∀ p ∈ L, z_vl p.2) → (sp_MR (sp_tc (sp_uT S i599 (A ++ L)) i599 c) s1) → (s1.1.1 = 0) → (z_mst w7 s1) → (z_fm 59 w w7) → (z_g w7 it609 = some (.inr (3, [.int (nI A.length), .int la, .int (z_qp s1 i599).1, .ref (1011 + i599)]))) → (z_g w7 x1 = some (.inl (0, 7, fun j => .int (F j)))) → z_J G l mX11_replaceTable (22, 2, 11, w, Q9, (fun _ _ => False)) 96 [(0, .ref 1000), (1, .int (nI i599)), (2, .int r), (3, .int n), (4, .ref x1), (5, .ref it609)] [] w7 2 11 := by
                  intro n9
                  induction n9 with
                  | zero => intro w7 s1 A L la c F hf9 hAl he hv hR hth hm hfm git gx; exact absurd hf9 (Nat.not_lt_zero _)
                  | succ n9 ih =>
                    intro w7 s1 A L la c F hf9 hAl he hv hR hth hm hfm git gx
                    refine j_aload dX11_replaceTable_96 rfl rfl ?_
                    refine j_callF (x := ⟨"java/util/Iterator", "hasNext", "()Z"⟩) (q := (RJx35411, TJx35411, 4)) dX11_replaceTable_98 kJx35411_hasNext_aae02 ⟨(z_w 1765 ((lwt_8_1 10).trans rfl) (by decide +kernel)), (z_w 1769 ((lwt_8_1 14).trans rfl) (by decide +kernel)), inJx35411_hasNext_aae02, ⟨by decide, by decide⟩, rfl, fun U h => h.2.1⟩ git rfl (cl_hasN hl w7 _ (51 + i599) _ (A.length) _ _ (hm.tb (t := i599) (by omega)) ⟨_, git⟩ (by rw [z_rs_len, hR.tlB (by omega) ((congrFun sp_tcT _).trans z_fu_self)]; omega)) (Nat.le_of_ble_eq_true rfl) ⟨(by show _ ≤ 2; omega), (by show _ ≤ 11; omega)⟩ rfl (Nat.le_of_ble_eq_true rfl) rfl ?_
                    rintro _ _ ⟨⟨x611, rfl, hz611, hp611⟩, hw611⟩
                    refine j_w w7 hw611 ?_
                    rw [z_rs_len, hR.tlB (by omega) ((congrFun sp_tcT _).trans z_fu_self)] at hz611 hp611
                    refine j_if_eq (tgt := 178) dX11_replaceTable_103 (by decide) (fun c_103_110 => ?_) (fun c_103_110 => ?_)
                    · have hk103 : A.length = (A ++ L).length := hz611 c_103_110
                      obtain rfl : L = [] := List.eq_nil_of_length_eq_zero (by rw [List.length_append] at hk103; omega)
                      refine j_aload dX11_replaceTable_178 rfl rfl ?_
                      refine j_iconst (v := 1) dX11_replaceTable_180 (by decide) ?_
                      refine j_dup2 dX11_replaceTable_181 rfl rfl ?_
                      refine j_ld dX11_replaceTable_182 gx (vp_in_nI (n := 1) (by decide) (by decide)) ?_
                      refine j_iconst (v := 1) dX11_replaceTable_183 (by decide) ?_
                      refine j_iadd dX11_replaceTable_184 ?_
                      refine j_sto (w' := _) dX11_replaceTable_185 gx (vp_in_nI (n := 1) (by decide) (by decide)) rfl ?_
                      refine j_seal hx1a ?_
                      intro w8 u8
                      have fw8 := u8.fw hx1a hx1b
                      have g8_it609 := (u8.2.1 it609 (Ne.symm n_x1_it609)).trans git
                      have g8_x1 := u8.1
                      have h8 := hm.gar fw8 (by omega)
                      refine j_aload_n dX11_replaceTable_186 rfl rfl ?_
                      refine j_getf dX11_replaceTable_187 fX11_34 h8.m rfl ?_
                      refine j_iload_n dX11_replaceTable_190 rfl ?_
                      obtain ⟨lv615, -, lg615⟩ := z_li.cell h8.tabs
                      refine j_callV (q := (RJx4a65c, TJx4a65c, 3)) dX11_replaceTable_191 kJx4a65c_get_915e3 lX11_82 inJx4a65c_get_915e3 seJx4a65c_get_915e3 lg615 rfl (cl_get hl w8 47 1007 _ _ (i599) _ h8.tabs (z_thr3 (t := i599) (by omega))) (Nat.le_of_ble_eq_true rfl) ⟨(by show _ ≤ 2; omega), (by show _ ≤ 11; omega)⟩ rfl (Nat.le_of_ble_eq_true rfl) rfl rfl (fun _ _ h => h.elim) ?_
                      rintro _ _ ⟨rfl, hw616⟩
                      refine j_w w8 hw616 ?_
                      refine j_castS dX11_replaceTable_194 (z_w 1341 ((lwt_6_3 6).trans rfl) (by decide +kernel)) (z_li.is (h8.tb (t := i599) (by omega))) ?_
                      obtain ⟨lv618, -, lg618⟩ := z_li.cell (h8.tb (t := i599) (by omega))
                      refine j_callV (q := (RJx4a65c, TJx4a65c, 3)) dX11_replaceTable_197 kJx4a65c_size_8abf5 lX11_86 inJx4a65c_size_8abf5 seJx4a65c_size_8abf5 lg618 rfl (cl_sizeT hl w8 (i599) ((A ++ [])) h8 hR (by omega) ((congrFun sp_tcT _).trans z_fu_self)) (Nat.le_of_ble_eq_true rfl) ⟨(by show _ ≤ 2; omega), (by show _ ≤ 11; omega)⟩ rfl (Nat.le_of_ble_eq_true rfl) rfl rfl (fun _ _ h => h.elim) ?_
                      rintro _ _ ⟨rfl, hw619⟩
                      refine j_w w8 hw619 ?_
                      have hz619 : ((A ++ [])).length ≤ 20 := hR.l20 h8 (t := i599) (by omega) ((congrFun sp_tcT _).trans z_fu_self)
                      refine j_iret dX11_replaceTable_200 rfl rfl ?_ (by show _ ≤ 2; omega) (by show _ ≤ 11; omega)
                      refine cast (congrFun (congrFun hQ9 _) _) ?_
                      rw [List.append_nil] at hR
                      try rw [ei599]
                      refine ⟨_, _, rfl, (hfm.tr (fw8.fm (q := 59) (by omega))), h8, sp_X0 ?_ hth (by unfold sp_ctbS; rw [← he]; have e := hR; rw [sp_tcn hb54] at e; show sp_MR (sp_tc (sp_uT S _ _) _ _) _; rw [sp_tcn hb54]; exact e) (by rw [← he, List.append_nil]; rfl)⟩
                      first | (first | (refine sp_k32_0 ?_ ?_ <;> (first | (with_reducible assumption) | (refine Or.inl ?_; (with_reducible assumption)) | (refine Or.inr ?_; (with_reducible assumption)) | (refine Or.inr (Or.inl ?_); (with_reducible assumption)) | (refine Or.inr (Or.inr ?_); (with_reducible assumption)) | (refine Or.inr (Or.inr (Or.inl ?_)); (with_reducible assumption)) | (refine Or.inr (Or.inr (Or.inr ?_)); (with_reducible assumption)) | (refine fun z => Or.elim z ?_ ?_ <;> (with_reducible assumption)) | (refine fun z => Or.elim z ?_ (fun z => Or.elim z ?_ ?_) <;> (with_reducible assumption)) | (refine fun z => Or.elim z ?_ (fun z => Or.elim z ?_ (fun z => Or.elim z ?_ ?_)) <;> (with_reducible assumption)) | (refine fun z => Or.elim z (fun z9 => z9 ?_) ?_ <;> (first | (with_reducible assumption) | (refine Or.inl ?_; (with_reducible assumption)) | (refine Or.inr (Or.inl ?_); (with_reducible assumption)) | (refine Or.inr (Or.inr ?_); (with_reducible assumption)) | (refine Or.inr (Or.inr (Or.inl ?_)); (with_reducible assumption)) | (refine Or.inr (Or.inr (Or.inr ?_)); (with_reducible assumption)))) | (refine Or.inl (fun z => Or.elim z ?_ (fun z => Or.elim z ?_ ?_)) <;> (with_reducible assumption)) | (refine Or.inl (fun z => Or.elim z ?_ (fun z => Or.elim z ?_ (fun z => Or.elim z ?_ ?_))) <;> (with_reducible assumption))))) | (first | (refine sp_k32_0 ?_ ?_ <;> (first | assumption | (refine Or.inl ?_; assumption) | (refine Or.inr ?_; assumption) | (refine Or.inr (Or.inl ?_); assumption) | (refine Or.inr (Or.inr ?_); assumption) | (refine Or.inr (Or.inr (Or.inl ?_)); assumption) | (refine Or.inr (Or.inr (Or.inr ?_)); assumption) | (refine fun z => Or.elim z ?_ ?_ <;> assumption) | (refine fun z => Or.elim z ?_ (fun z => Or.elim z ?_ ?_) <;> assumption) | (refine fun z => Or.elim z ?_ (fun z => Or.elim z ?_ (fun z => Or.elim z ?_ ?_)) <;> assumption) | (refine fun z => Or.elim z (fun z9 => z9 ?_) ?_ <;> (first | assumption | (refine Or.inl ?_; assumption) | (refine Or.inr (Or.inl ?_); assumption) | (refine Or.inr (Or.inr ?_); assumption) | (refine Or.inr (Or.inr (Or.inl ?_)); assumption) | (refine Or.inr (Or.inr (Or.inr ?_)); assumption))) | (refine Or.inl (fun z => Or.elim z ?_ (fun z => Or.elim z ?_ ?_)) <;> assumption) | (refine Or.inl (fun z => Or.elim z ?_ (fun z => Or.elim z ?_ (fun z => Or.elim z ?_ ?_))) <;> assumption))))
                    · have hk103 : A.length < (A ++ L).length := hp611 c_103_110
                      obtain ⟨x, L2, rfl⟩ : ∃ x L2, L = x :: L2 := by
                        cases L with
                        | nil => rw [List.append_nil] at hk103; exact absurd hk103 (Nat.lt_irrefl _)
                        | cons x L2 => exact ⟨x, L2, rfl⟩
                      refine j_aload dX11_replaceTable_106 rfl rfl ?_
                      obtain ⟨p620, hp620, hq620, hk620, hv0620, hv1620, hv2620⟩ := hR.prB hm (t := i599) (k := A.length) (by omega) ((congrFun sp_tcT _).trans z_fu_self) sp_mid?
                      refine j_callF (x := ⟨"java/util/Iterator", "next", "()Ljava/lang/Object;"⟩) (q := (RJx35411, TJx35411, 4)) dX11_replaceTable_108 kJx35411_next_0502b ⟨(z_w 1775 ((lwt_8_1 20).trans rfl) (by decide +kernel)), (z_w 1778 ((lwt_8_1 23).trans rfl) (by decide +kernel)), inJx35411_next_0502b, ⟨by decide, by decide⟩, rfl, fun U h => h.2.2.1⟩ git rfl (cl_next hl w7 58 it609 (51 + i599) _ (A.length) _ _ _ (hm.tb (t := i599) (by omega)) ⟨_, git⟩ hq620 hita609 hitb609 (by omega)) (Nat.le_of_ble_eq_true rfl) ⟨(by show _ ≤ 2; omega), (by show _ ≤ 11; omega)⟩ rfl (Nat.le_of_ble_eq_true rfl) rfl ?_
                      rintro _ w9 ⟨rfl, fw9, la9, git9⟩
                      have g9_x1 := fw9.g (Or.inr (by omega)) gx
                      have fm9 := fw9.fm (q := 59) (by omega)
                      have h9 := hm.gar fw9 (by omega)
                      refine j_castS dX11_replaceTable_113 (z_w 1663 ((lwt_7_5 28).trans rfl) (by decide +kernel)) (z_isA ((h9.pr (t := i599) (by omega)).1 p620 hp620).2) ?_
                      refine j_astore (lo' := [(6, _), (0, _), (1, _), (2, _), (3, _), (4, _), (5, _)]) dX11_replaceTable_116 rfl (by decide) rfl ?_
                      refine j_aload dX11_replaceTable_118 rfl rfl ?_
                      refine j_iconst (v := 1) dX11_replaceTable_120 (by decide) ?_
                      refine j_dup2 dX11_replaceTable_121 rfl rfl ?_
                      refine j_ld dX11_replaceTable_122 g9_x1 (vp_in_nI (n := 1) (by decide) (by decide)) ?_
                      refine j_iconst (v := 1) dX11_replaceTable_123 (by decide) ?_
                      refine j_iadd dX11_replaceTable_124 ?_
                      refine j_sto (w' := _) dX11_replaceTable_125 g9_x1 (vp_in_nI (n := 1) (by decide) (by decide)) rfl ?_
                      refine j_seal hx1a ?_
                      intro w10 u10
                      have fw10 := u10.fw hx1a hx1b
                      have g10_it609 := (u10.2.1 it609 (Ne.symm n_x1_it609)).trans git9
                      have g10_x1 := u10.1
                      have h10 := h9.gar fw10 (by omega)
                      refine j_aload dX11_replaceTable_126 rfl rfl ?_
                      refine j_iconst (v := 2) dX11_replaceTable_128 (by decide) ?_
                      refine j_dup2 dX11_replaceTable_129 rfl rfl ?_
                      refine j_ld dX11_replaceTable_130 g10_x1 (vp_in_nI (n := 2) (by decide) (by decide)) ?_
                      refine j_iconst (v := 1) dX11_replaceTable_131 (by decide) ?_
                      refine j_iadd dX11_replaceTable_132 ?_
                      refine j_sto (w' := _) dX11_replaceTable_133 g10_x1 (vp_in_nI (n := 2) (by decide) (by decide)) rfl ?_
                      refine j_seal hx1a ?_
                      intro w11 u11
                      have fw11 := u11.fw hx1a hx1b
                      have g11_it609 := (u11.2.1 it609 (Ne.symm n_x1_it609)).trans g10_it609
                      have g11_x1 := u11.1
                      have h11 := h10.gar fw11 (by omega)
                      refine j_iload_n dX11_replaceTable_134 rfl ?_
                      refine j_aload dX11_replaceTable_135 rfl rfl ?_
                      refine j_iconst (v := 0) dX11_replaceTable_137 (by decide) ?_
                      refine j_ld dX11_replaceTable_138 ((h11.pr (t := i599) (by omega)).1 p620 hp620).2 (vp_in_nI (n := 0) (by decide) (by decide)) ?_
                      refine j_top (congrArg Value.int (show _ = nI x.1 from by rw [show (0 : Int32).toNatClampNeg = 0 from by decide]; exact hv0620)) ?_
                      refine j_aload dX11_replaceTable_139 rfl rfl ?_
                      refine j_iconst (v := 1) dX11_replaceTable_141 (by decide) ?_
                      refine j_ld dX11_replaceTable_142 ((h11.pr (t := i599) (by omega)).1 p620 hp620).2 (vp_in_nI (n := 1) (by decide) (by decide)) ?_
                      refine j_top (congrArg Value.int (show _ = x.2 from by rw [show (1 : Int32).toNatClampNeg = 1 from by decide]; exact hv1620)) ?_
                      refine j_iload_n dX11_replaceTable_143 rfl ?_
                      refine j_callS dX11_replaceTable_144 kX11_rule lX11_115 stX11_rule (cm_rule_r hl w11 _ _ _ _ (hv _ List.mem_cons_self).2 (sp_vl (by assumption)).2) (Nat.le_of_ble_eq_true rfl) ⟨(by show _ ≤ 2; omega), (by show _ ≤ 11; omega)⟩ rfl (Nat.le_of_ble_eq_true rfl) rfl rfl (fun _ _ h => h.elim) ?_
                      rintro _ _ ⟨⟨rfl, hq628⟩ | ⟨y628, rfl, hq628, hne628⟩, hw628⟩
                      · refine j_w w11 hw628 ?_
                        refine j_istore (lo' := [(7, _), (6, _), (0, _), (1, _), (2, _), (3, _), (4, _), (5, _)]) dX11_replaceTable_147 (by decide) rfl ?_
                        refine j_iload dX11_replaceTable_149 rfl ?_
                        refine j_ldc dX11_replaceTable_151 kcX11_67 ?_
                        refine j_icmp_ne (tgt := 161) dX11_replaceTable_153 (by decide) (fun c_153_201 => ?_) (fun c_153_201 => ?_)
                        · exact absurd c_153_201 (by decide)
                        · refine j_aload_n dX11_replaceTable_156 rfl rfl ?_
                          refine j_callV (q := (RX11, TX11, 8)) dX11_replaceTable_157 kX11_nine lX11_105 inX11_nine seX11_nine h11.m rfl (cm_nine hl w11 _ h11) (Nat.le_of_ble_eq_true rfl) ⟨(by show _ ≤ 2; omega), (by show _ ≤ 11; omega)⟩ rfl (Nat.le_of_ble_eq_true rfl) rfl rfl (fun _ _ h => h.elim) ?_
                          rintro _ w12 ⟨rfl, fm12, h12⟩
                          have g12_it609 := fm12.g hita609 (by rw [hitb609]; decide) g11_it609
                          have g12_x1 := fm12.g hx1a (by rw [hx1b]; decide) g11_x1
                          have R12 := hR.ni
                          refine j_iret dX11_replaceTable_160 rfl rfl ?_ (by show _ ≤ 2; omega) (by show _ ≤ 11; omega)
                          refine cast (congrFun (congrFun hQ9 _) _) ?_
                          rw [sp_rtN hq628] at he
                          try rw [ei599]
                          refine ⟨_, _, rfl, ((((hfm.tr fm9).tr (fw10.fm (q := 59) (by omega))).tr (fw11.fm (q := 59) (by omega))).tr (fm12.le (q' := 59) (by decide))), h12, sp_X0 ?_ hth (by unfold sp_ctbS; rw [← he]; have e := R12; rw [sp_tcn hb54] at e; show sp_MR (sp_nine (sp_tc (sp_uT S _ _) _ _)) _; rw [sp_tcn hb54]; exact e) (by rw [← he]; rfl)⟩
                          first | (first | (refine sp_k32_0 ?_ ?_ <;> (first | (with_reducible assumption) | (refine Or.inl ?_; (with_reducible assumption)) | (refine Or.inr ?_; (with_reducible assumption)) | (refine Or.inr (Or.inl ?_); (with_reducible assumption)) | (refine Or.inr (Or.inr ?_); (with_reducible assumption)) | (refine Or.inr (Or.inr (Or.inl ?_)); (with_reducible assumption)) | (refine Or.inr (Or.inr (Or.inr ?_)); (with_reducible assumption)) | (refine fun z => Or.elim z ?_ ?_ <;> (with_reducible assumption)) | (refine fun z => Or.elim z ?_ (fun z => Or.elim z ?_ ?_) <;> (with_reducible assumption)) | (refine fun z => Or.elim z ?_ (fun z => Or.elim z ?_ (fun z => Or.elim z ?_ ?_)) <;> (with_reducible assumption)) | (refine fun z => Or.elim z (fun z9 => z9 ?_) ?_ <;> (first | (with_reducible assumption) | (refine Or.inl ?_; (with_reducible assumption)) | (refine Or.inr (Or.inl ?_); (with_reducible assumption)) | (refine Or.inr (Or.inr ?_); (with_reducible assumption)) | (refine Or.inr (Or.inr (Or.inl ?_)); (with_reducible assumption)) | (refine Or.inr (Or.inr (Or.inr ?_)); (with_reducible assumption)))) | (refine Or.inl (fun z => Or.elim z ?_ (fun z => Or.elim z ?_ ?_)) <;> (with_reducible assumption)) | (refine Or.inl (fun z => Or.elim z ?_ (fun z => Or.elim z ?_ (fun z => Or.elim z ?_ ?_))) <;> (with_reducible assumption))))) | (first | (refine sp_k32_0 ?_ ?_ <;> (first | assumption | (refine Or.inl ?_; assumption) | (refine Or.inr ?_; assumption) | (refine Or.inr (Or.inl ?_); assumption) | (refine Or.inr (Or.inr ?_); assumption) | (refine Or.inr (Or.inr (Or.inl ?_)); assumption) | (refine Or.inr (Or.inr (Or.inr ?_)); assumption) | (refine fun z => Or.elim z ?_ ?_ <;> assumption) | (refine fun z => Or.elim z ?_ (fun z => Or.elim z ?_ ?_) <;> assumption) | (refine fun z => Or.elim z ?_ (fun z => Or.elim z ?_ (fun z => Or.elim z ?_ ?_)) <;> assumption) | (refine fun z => Or.elim z (fun z9 => z9 ?_) ?_ <;> (first | assumption | (refine Or.inl ?_; assumption) | (refine Or.inr (Or.inl ?_); assumption) | (refine Or.inr (Or.inr ?_); assumption) | (refine Or.inr (Or.inr (Or.inl ?_)); assumption) | (refine Or.inr (Or.inr (Or.inr ?_)); assumption))) | (refine Or.inl (fun z => Or.elim z ?_ (fun z => Or.elim z ?_ ?_)) <;> assumption) | (refine Or.inl (fun z => Or.elim z ?_ (fun z => Or.elim z ?_ (fun z => Or.elim z ?_ ?_))) <;> assumption))))
                      · refine j_w w11 hw628 ?_
                        refine j_istore (lo' := [(7, _), (6, _), (0, _), (1, _), (2, _), (3, _), (4, _), (5, _)]) dX11_replaceTable_147 (by decide) rfl ?_
                        refine j_iload dX11_replaceTable_149 rfl ?_
                        refine j_ldc dX11_replaceTable_151 kcX11_67 ?_
                        refine j_icmp_ne (tgt := 161) dX11_replaceTable_153 (by decide) (fun c_153_219 => ?_) (fun c_153_219 => ?_)
                        · refine j_aload dX11_replaceTable_161 rfl rfl ?_
                          refine j_iconst (v := 1) dX11_replaceTable_163 (by decide) ?_
                          refine j_iload dX11_replaceTable_164 rfl ?_
                          refine j_sto (w' := _) dX11_replaceTable_166 ((h11.pr (t := i599) (by omega)).1 p620 hp620).2 (vp_in_nI (n := 1) (by decide) (by decide)) rfl ?_
                          have hnd : (sp_ks (A ++ x :: L2)).Nodup := hR.kd h11 (t := i599) (by omega) ((congrFun sp_tcT _).trans z_fu_self)
                          refine j_seal (((h11.pr (t := i599) (by omega)).1 p620 hp620).1.1) ?_
                          intro w13 u13
                          have hpp13 := ((h11.pr (t := i599) (by omega)).1 p620 hp620).1
                          have hpq13 := hpp13.2.1
                          have g13_it609 := (u13.2.1 it609 (by omega)).trans g11_it609
                          have g13_x1 := (u13.2.1 x1 (by omega)).trans g11_x1
                          have fw13 := u13.fw (ρ := 14 + i599) hpp13.1 hpp13.2.1
                          have h13 := h11.up14 (t0 := i599) (by omega) hp620 u13 (z_ui_ne (by decide))
                          have R13 := hR.uk (t0 := i599) (F := z_ui (z_qk _ p620) ((1 : Int32).toNatClampNeg) y628) (v := y628) h11 (by omega) hp620 (z_ui_ne (by decide)) (by rw [show (1 : Int32).toNatClampNeg = 1 from by decide]; exact z_ui_self)
                          rw [hv0620, z_cla (by omega)] at R13
                          rw [show sp_T (sp_tc (sp_uT S i599 (A ++ x :: L2)) i599 _) i599 = A ++ x :: L2 from (congrFun sp_tcT _).trans z_fu_self, sp_st_mid hnd, sp_tcu, sp_uTT] at R13
                          refine j_aload dX11_replaceTable_167 rfl rfl ?_
                          refine j_iconst (v := 3) dX11_replaceTable_169 (by decide) ?_
                          refine j_dup2 dX11_replaceTable_170 rfl rfl ?_
                          refine j_ld dX11_replaceTable_171 g13_x1 (vp_in_nI (n := 3) (by decide) (by decide)) ?_
                          refine j_iconst (v := 1) dX11_replaceTable_172 (by decide) ?_
                          refine j_iadd dX11_replaceTable_173 ?_
                          refine j_sto (w' := _) dX11_replaceTable_174 g13_x1 (vp_in_nI (n := 3) (by decide) (by decide)) rfl ?_
                          refine j_seal hx1a ?_
                          intro w14 u14
                          have fw14 := u14.fw hx1a hx1b
                          have g14_it609 := (u14.2.1 it609 (Ne.symm n_x1_it609)).trans g13_it609
                          have g14_x1 := u14.1
                          have h14 := h13.gar fw14 (by omega)
                          refine j_goto (tgt := 96) dX11_replaceTable_175 (by decide) ?_
                          refine j_widen (kc' := 2) (ks' := 11) (by omega) (by omega) ?_
                          exact j_lo2 (ih w14 _ (A ++ [(x.1, y628)]) L2 _ (z_bp (z_bp (z_bp c 1) 2) 3) _ (by rw [List.length_cons] at hf9; omega) sp_apl (by rw [sp_rtS hq628] at he; exact he) (fun p hp => hv p (List.mem_cons_of_mem _ hp)) (by rw [← sp_mid]; exact (sp_MR.bpXu hb54 R13)) (by exact hth) h14 (((((hfm.tr fm9).tr (fw10.fm (q := 59) (by omega))).tr (fw11.fm (q := 59) (by omega))).tr (fw13.fm (q := 59) (by omega))).tr (fw14.fm (q := 59) (by omega))) (by rw [List.length_append]; exact g14_it609) g14_x1) (z_q1 rfl (z_q1 rfl (z_q1 rfl (z_q1 rfl (z_q1 rfl (z_q1 rfl z_q0))))))
                        · exact absurd c_153_219 hne628
                refine j_widen (kc' := 2) (ks' := 11) (by omega) (by omega) ?_
                exact j_lo2 (loop96 ((sp_T S i599).length + 1) w6 _ [] (sp_T S i599) _ (z_bp (sp_C S 2) 0) _ (Nat.lt_succ_self _) sp_apl (by exact rfl) (fun p hp => ((ok.2.1 i599 (by omega)).2 p hp).2) (by rw [List.nil_append, sp_uT_id, sp_tcn hb54]; exact R2) (by exact rfl) h6 ((((fm2.le (q' := 59) (by decide)).tr (fw4.fm (q := 59) (by omega))).tr (fw5.fm (q := 59) (by omega))).tr fm6) git609 g6_x1) (z_q1 rfl (z_q1 rfl (z_q1 rfl (z_q1 rfl (z_q1 rfl (z_q1 rfl z_q0))))))
              · have hb54 : i599 = 0 := nI_inj (a := i599) (b := 0) c_54_58 (by omega) (by omega)
                refine j_aload_n dX11_replaceTable_57 rfl rfl ?_
                refine j_getf dX11_replaceTable_58 fX11_31 h2.m rfl ?_
                refine j_iconst (v := 2) dX11_replaceTable_61 (by decide) ?_
                obtain ⟨fz633, gz633, hz633⟩ := h2.co
                refine j_aald (v := .ref (1004 + 2)) dX11_replaceTable_62 gz633 rfl rfl (vp_in_nI (n := 2) (by decide) (by decide)) (by rw [show (2 : Int32).toNatClampNeg = 2 by decide]; exact hz633 _ (by decide)) ?_
                refine j_goto (tgt := 70) dX11_replaceTable_63 (by decide) ?_
                refine j_astore (lo' := [(4, _), (0, _), (1, _), (2, _), (3, _)]) dX11_replaceTable_70 rfl (by decide) rfl ?_
                refine j_aload dX11_replaceTable_72 rfl rfl ?_
                refine j_iconst (v := 0) dX11_replaceTable_74 (by decide) ?_
                refine j_dup2 dX11_replaceTable_75 rfl rfl ?_
                refine j_ld dX11_replaceTable_76 (h2.cn (i := 2) (by decide)) (vp_in_nI (n := 0) (by decide) (by decide)) ?_
                refine j_iconst (v := 1) dX11_replaceTable_77 (by decide) ?_
                refine j_iadd dX11_replaceTable_78 ?_
                refine j_sto (w' := _) dX11_replaceTable_79 (h2.cn (i := 2) (by decide)) (vp_in_nI (n := 0) (by decide) (by decide)) rfl ?_
                refine j_seal (by omega) ?_
                intro w15 u15
                have fw15 := u15.fw (ρ := 44 + 2) (by omega) (by omega)
                have h15 := h2.up44 (i0 := 2) (by decide) fw15 u15.1
                rw [show (0 : Int32).toNatClampNeg = 0 by decide] at h15
                have R15 := R2.bp (i := 2) (k := 0) (by omega) (by decide)
                refine j_aload_n dX11_replaceTable_80 rfl rfl ?_
                refine j_getf dX11_replaceTable_81 fX11_34 h15.m rfl ?_
                refine j_iload_n dX11_replaceTable_84 rfl ?_
                obtain ⟨lv637, -, lg637⟩ := z_li.cell h15.tabs
                refine j_callV (q := (RJx4a65c, TJx4a65c, 3)) dX11_replaceTable_85 kJx4a65c_get_915e3 lX11_82 inJx4a65c_get_915e3 seJx4a65c_get_915e3 lg637 rfl (cl_get hl w15 47 1007 _ _ (i599) _ h15.tabs (z_thr3 (t := i599) (by omega))) (Nat.le_of_ble_eq_true rfl) ⟨(by show _ ≤ 2; omega), (by show _ ≤ 11; omega)⟩ rfl (Nat.le_of_ble_eq_true rfl) rfl rfl (fun _ _ h => h.elim) ?_
                rintro _ _ ⟨rfl, hw638⟩
                refine j_w w15 hw638 ?_
                refine j_castS dX11_replaceTable_88 (z_w 1341 ((lwt_6_3 6).trans rfl) (by decide +kernel)) (z_li.is (h15.tb (t := i599) (by omega))) ?_
                obtain ⟨lv641, -, lg641⟩ := z_li.cell (h15.tb (t := i599) (by omega))
                refine j_callV (q := (RJx4a65c, TJx4a65c, 3)) dX11_replaceTable_91 kJx4a65c_iterator_32c93 lX11_162 inJx4a65c_iterator_32c93 seJx4a65c_iterator_32c93 lg641 rfl (cl_iter hl w15 58 (51 + i599) _ _ _ (h15.tb (t := i599) (by omega)) (by decide) (by omega) h15.fn) (Nat.le_of_ble_eq_true rfl) ⟨(by show _ ≤ 2; omega), (by show _ ≤ 11; omega)⟩ rfl (Nat.le_of_ble_eq_true rfl) rfl rfl (fun _ _ h => h.elim) ?_
                rintro _ w16 ⟨it640, rfl, fw16, hita640, hitb640, hitc640, la640, git640⟩
                have hita640 : 1000 ≤ it640 := hita640
                have hitb640 : it640 % 64 = 58 := hitb640
                have fm16 := fw16.fm (q := 59) (by omega)
                have h16 := h15.gar fw16 (by omega)
                refine j_astore (lo' := [(5, _), (4, _), (0, _), (1, _), (2, _), (3, _)]) dX11_replaceTable_94 rfl (by decide) rfl ?_
                have loop96 : ∀ (n9 : Nat) (w17 : z_W) (s1 : z_Z) (A L : List (Nat × Int32)) (la : Int32) (c : Nat → Int32), (L.length < n9) → (A.length ≤ (A ++ L).length) → (sp_rt r n c A L = sp_ctb S i599 r n) → (∀ p ∈ L, z_vl p.2) → (sp_MR (sp_tc (sp_uT S i599 (A ++ L)) i599 c) s1) → (s1.1.1 = 0) → (z_mst w17 s1) → (z_fm 59 w w17) → (z_g w17 it640 = some (.inr (3, [.int (nI A.length), .int la, .int (z_qp s1 i599).1, .ref (1011 + i599)]))) → z_J G l mX11_replaceTable (22, 2, 11, w, Q9, (fun _ _ => False)) 96 [(0, .ref 1000), (1, .int (nI i599)), (2, .int r), (3, .int n), (4, .ref (1004 + 2)), (5, .ref it640)] [] w17 2 11 := by
                  intro n9
                  induction n9 with
                  | zero => intro w17 s1 A L la c hf9 hAl he hv hR hth hm hfm git; exact absurd hf9 (Nat.not_lt_zero _)
                  | succ n9 ih =>
                    intro w17 s1 A L la c hf9 hAl he hv hR hth hm hfm git
                    refine j_aload dX11_replaceTable_96 rfl rfl ?_
                    refine j_callF (x := ⟨"java/util/Iterator", "hasNext", "()Z"⟩) (q := (RJx35411, TJx35411, 4)) dX11_replaceTable_98 kJx35411_hasNext_aae02 ⟨(z_w 1765 ((lwt_8_1 10).trans rfl) (by decide +kernel)), (z_w 1769 ((lwt_8_1 14).trans rfl) (by decide +kernel)), inJx35411_hasNext_aae02, ⟨by decide, by decide⟩, rfl, fun U h => h.2.1⟩ git rfl (cl_hasN hl w17 _ (51 + i599) _ (A.length) _ _ (hm.tb (t := i599) (by omega)) ⟨_, git⟩ (by rw [z_rs_len, hR.tlB (by omega) ((congrFun sp_tcT _).trans z_fu_self)]; omega)) (Nat.le_of_ble_eq_true rfl) ⟨(by show _ ≤ 2; omega), (by show _ ≤ 11; omega)⟩ rfl (Nat.le_of_ble_eq_true rfl) rfl ?_
                    rintro _ _ ⟨⟨x642, rfl, hz642, hp642⟩, hw642⟩
                    refine j_w w17 hw642 ?_
                    rw [z_rs_len, hR.tlB (by omega) ((congrFun sp_tcT _).trans z_fu_self)] at hz642 hp642
                    refine j_if_eq (tgt := 178) dX11_replaceTable_103 (by decide) (fun c_103_303 => ?_) (fun c_103_303 => ?_)
                    · have hk103 : A.length = (A ++ L).length := hz642 c_103_303
                      obtain rfl : L = [] := List.eq_nil_of_length_eq_zero (by rw [List.length_append] at hk103; omega)
                      refine j_aload dX11_replaceTable_178 rfl rfl ?_
                      refine j_iconst (v := 1) dX11_replaceTable_180 (by decide) ?_
                      refine j_dup2 dX11_replaceTable_181 rfl rfl ?_
                      refine j_ld dX11_replaceTable_182 (hm.cn (i := 2) (by decide)) (vp_in_nI (n := 1) (by decide) (by decide)) ?_
                      refine j_iconst (v := 1) dX11_replaceTable_183 (by decide) ?_
                      refine j_iadd dX11_replaceTable_184 ?_
                      refine j_sto (w' := _) dX11_replaceTable_185 (hm.cn (i := 2) (by decide)) (vp_in_nI (n := 1) (by decide) (by decide)) rfl ?_
                      refine j_seal (by omega) ?_
                      intro w18 u18
                      have fw18 := u18.fw (ρ := 44 + 2) (by omega) (by omega)
                      have g18_it640 := (fun z => (u18.2.1 it640 (fun z9 => by have h9 := hitb640; rw [z9] at h9; omega)).trans z) git
                      have h18 := hm.up44 (i0 := 2) (by decide) fw18 u18.1
                      rw [show (1 : Int32).toNatClampNeg = 1 by decide] at h18
                      have R18 := sp_MR.bpTu (k := 1) hb54 hR (by decide)
                      refine j_aload_n dX11_replaceTable_186 rfl rfl ?_
                      refine j_getf dX11_replaceTable_187 fX11_34 h18.m rfl ?_
                      refine j_iload_n dX11_replaceTable_190 rfl ?_
                      obtain ⟨lv646, -, lg646⟩ := z_li.cell h18.tabs
                      refine j_callV (q := (RJx4a65c, TJx4a65c, 3)) dX11_replaceTable_191 kJx4a65c_get_915e3 lX11_82 inJx4a65c_get_915e3 seJx4a65c_get_915e3 lg646 rfl (cl_get hl w18 47 1007 _ _ (i599) _ h18.tabs (z_thr3 (t := i599) (by omega))) (Nat.le_of_ble_eq_true rfl) ⟨(by show _ ≤ 2; omega), (by show _ ≤ 11; omega)⟩ rfl (Nat.le_of_ble_eq_true rfl) rfl rfl (fun _ _ h => h.elim) ?_
                      rintro _ _ ⟨rfl, hw647⟩
                      refine j_w w18 hw647 ?_
                      refine j_castS dX11_replaceTable_194 (z_w 1341 ((lwt_6_3 6).trans rfl) (by decide +kernel)) (z_li.is (h18.tb (t := i599) (by omega))) ?_
                      obtain ⟨lv649, -, lg649⟩ := z_li.cell (h18.tb (t := i599) (by omega))
                      refine j_callV (q := (RJx4a65c, TJx4a65c, 3)) dX11_replaceTable_197 kJx4a65c_size_8abf5 lX11_86 inJx4a65c_size_8abf5 seJx4a65c_size_8abf5 lg649 rfl (cl_sizeT hl w18 (i599) ((A ++ [])) h18 R18 (by omega) ((congrFun sp_tcT _).trans z_fu_self)) (Nat.le_of_ble_eq_true rfl) ⟨(by show _ ≤ 2; omega), (by show _ ≤ 11; omega)⟩ rfl (Nat.le_of_ble_eq_true rfl) rfl rfl (fun _ _ h => h.elim) ?_
                      rintro _ _ ⟨rfl, hw650⟩
                      refine j_w w18 hw650 ?_
                      have hz650 : ((A ++ [])).length ≤ 20 := R18.l20 h18 (t := i599) (by omega) ((congrFun sp_tcT _).trans z_fu_self)
                      refine j_iret dX11_replaceTable_200 rfl rfl ?_ (by show _ ≤ 2; omega) (by show _ ≤ 11; omega)
                      refine cast (congrFun (congrFun hQ9 _) _) ?_
                      rw [List.append_nil] at R18
                      try rw [ei599]
                      refine ⟨_, _, rfl, (hfm.tr (fw18.fm (q := 59) (by omega))), h18, sp_X0 ?_ hth (by unfold sp_ctbS; rw [← he]; exact R18) (by rw [← he, List.append_nil]; rfl)⟩
                      first | (first | (refine sp_k32_0 ?_ ?_ <;> (first | (with_reducible assumption) | (refine Or.inl ?_; (with_reducible assumption)) | (refine Or.inr ?_; (with_reducible assumption)) | (refine Or.inr (Or.inl ?_); (with_reducible assumption)) | (refine Or.inr (Or.inr ?_); (with_reducible assumption)) | (refine Or.inr (Or.inr (Or.inl ?_)); (with_reducible assumption)) | (refine Or.inr (Or.inr (Or.inr ?_)); (with_reducible assumption)) | (refine fun z => Or.elim z ?_ ?_ <;> (with_reducible assumption)) | (refine fun z => Or.elim z ?_ (fun z => Or.elim z ?_ ?_) <;> (with_reducible assumption)) | (refine fun z => Or.elim z ?_ (fun z => Or.elim z ?_ (fun z => Or.elim z ?_ ?_)) <;> (with_reducible assumption)) | (refine fun z => Or.elim z (fun z9 => z9 ?_) ?_ <;> (first | (with_reducible assumption) | (refine Or.inl ?_; (with_reducible assumption)) | (refine Or.inr (Or.inl ?_); (with_reducible assumption)) | (refine Or.inr (Or.inr ?_); (with_reducible assumption)) | (refine Or.inr (Or.inr (Or.inl ?_)); (with_reducible assumption)) | (refine Or.inr (Or.inr (Or.inr ?_)); (with_reducible assumption)))) | (refine Or.inl (fun z => Or.elim z ?_ (fun z => Or.elim z ?_ ?_)) <;> (with_reducible assumption)) | (refine Or.inl (fun z => Or.elim z ?_ (fun z => Or.elim z ?_ (fun z => Or.elim z ?_ ?_))) <;> (with_reducible assumption))))) | (first | (refine sp_k32_0 ?_ ?_ <;> (first | assumption | (refine Or.inl ?_; assumption) | (refine Or.inr ?_; assumption) | (refine Or.inr (Or.inl ?_); assumption) | (refine Or.inr (Or.inr ?_); assumption) | (refine Or.inr (Or.inr (Or.inl ?_)); assumption) | (refine Or.inr (Or.inr (Or.inr ?_)); assumption) | (refine fun z => Or.elim z ?_ ?_ <;> assumption) | (refine fun z => Or.elim z ?_ (fun z => Or.elim z ?_ ?_) <;> assumption) | (refine fun z => Or.elim z ?_ (fun z => Or.elim z ?_ (fun z => Or.elim z ?_ ?_)) <;> assumption) | (refine fun z => Or.elim z (fun z9 => z9 ?_) ?_ <;> (first | assumption | (refine Or.inl ?_; assumption) | (refine Or.inr (Or.inl ?_); assumption) | (refine Or.inr (Or.inr ?_); assumption) | (refine Or.inr (Or.inr (Or.inl ?_)); assumption) | (refine Or.inr (Or.inr (Or.inr ?_)); assumption))) | (refine Or.inl (fun z => Or.elim z ?_ (fun z => Or.elim z ?_ ?_)) <;> assumption) | (refine Or.inl (fun z => Or.elim z ?_ (fun z => Or.elim z ?_ (fun z => Or.elim z ?_ ?_))) <;> assumption))))
                    · have hk103 : A.length < (A ++ L).length := hp642 c_103_303
                      obtain ⟨x, L2, rfl⟩ : ∃ x L2, L = x :: L2 := by
                        cases L with
                        | nil => rw [List.append_nil] at hk103; exact absurd hk103 (Nat.lt_irrefl _)
                        | cons x L2 => exact ⟨x, L2, rfl⟩
                      refine j_aload dX11_replaceTable_106 rfl rfl ?_
                      obtain ⟨p651, hp651, hq651, hk651, hv0651, hv1651, hv2651⟩ := hR.prB hm (t := i599) (k := A.length) (by omega) ((congrFun sp_tcT _).trans z_fu_self) sp_mid?
                      refine j_callF (x := ⟨"java/util/Iterator", "next", "()Ljava/lang/Object;"⟩) (q := (RJx35411, TJx35411, 4)) dX11_replaceTable_108 kJx35411_next_0502b ⟨(z_w 1775 ((lwt_8_1 20).trans rfl) (by decide +kernel)), (z_w 1778 ((lwt_8_1 23).trans rfl) (by decide +kernel)), inJx35411_next_0502b, ⟨by decide, by decide⟩, rfl, fun U h => h.2.2.1⟩ git rfl (cl_next hl w17 58 it640 (51 + i599) _ (A.length) _ _ _ (hm.tb (t := i599) (by omega)) ⟨_, git⟩ hq651 hita640 hitb640 (by omega)) (Nat.le_of_ble_eq_true rfl) ⟨(by show _ ≤ 2; omega), (by show _ ≤ 11; omega)⟩ rfl (Nat.le_of_ble_eq_true rfl) rfl ?_
                      rintro _ w19 ⟨rfl, fw19, la19, git19⟩
                      have fm19 := fw19.fm (q := 59) (by omega)
                      have h19 := hm.gar fw19 (by omega)
                      refine j_castS dX11_replaceTable_113 (z_w 1663 ((lwt_7_5 28).trans rfl) (by decide +kernel)) (z_isA ((h19.pr (t := i599) (by omega)).1 p651 hp651).2) ?_
                      refine j_astore (lo' := [(6, _), (0, _), (1, _), (2, _), (3, _), (4, _), (5, _)]) dX11_replaceTable_116 rfl (by decide) rfl ?_
                      refine j_aload dX11_replaceTable_118 rfl rfl ?_
                      refine j_iconst (v := 1) dX11_replaceTable_120 (by decide) ?_
                      refine j_dup2 dX11_replaceTable_121 rfl rfl ?_
                      refine j_ld dX11_replaceTable_122 (h19.cn (i := 2) (by decide)) (vp_in_nI (n := 1) (by decide) (by decide)) ?_
                      refine j_iconst (v := 1) dX11_replaceTable_123 (by decide) ?_
                      refine j_iadd dX11_replaceTable_124 ?_
                      refine j_sto (w' := _) dX11_replaceTable_125 (h19.cn (i := 2) (by decide)) (vp_in_nI (n := 1) (by decide) (by decide)) rfl ?_
                      refine j_seal (by omega) ?_
                      intro w20 u20
                      have fw20 := u20.fw (ρ := 44 + 2) (by omega) (by omega)
                      have g20_it640 := (fun z => (u20.2.1 it640 (fun z9 => by have h9 := hitb640; rw [z9] at h9; omega)).trans z) git19
                      have h20 := h19.up44 (i0 := 2) (by decide) fw20 u20.1
                      rw [show (1 : Int32).toNatClampNeg = 1 by decide] at h20
                      have R20 := sp_MR.bpTu (k := 1) hb54 hR (by decide)
                      refine j_aload dX11_replaceTable_126 rfl rfl ?_
                      refine j_iconst (v := 2) dX11_replaceTable_128 (by decide) ?_
                      refine j_dup2 dX11_replaceTable_129 rfl rfl ?_
                      refine j_ld dX11_replaceTable_130 (h20.cn (i := 2) (by decide)) (vp_in_nI (n := 2) (by decide) (by decide)) ?_
                      refine j_iconst (v := 1) dX11_replaceTable_131 (by decide) ?_
                      refine j_iadd dX11_replaceTable_132 ?_
                      refine j_sto (w' := _) dX11_replaceTable_133 (h20.cn (i := 2) (by decide)) (vp_in_nI (n := 2) (by decide) (by decide)) rfl ?_
                      refine j_seal (by omega) ?_
                      intro w21 u21
                      have fw21 := u21.fw (ρ := 44 + 2) (by omega) (by omega)
                      have g21_it640 := (fun z => (u21.2.1 it640 (fun z9 => by have h9 := hitb640; rw [z9] at h9; omega)).trans z) g20_it640
                      have h21 := h20.up44 (i0 := 2) (by decide) fw21 u21.1
                      rw [show (2 : Int32).toNatClampNeg = 2 by decide] at h21
                      have R21 := sp_MR.bpTu (k := 2) hb54 R20 (by decide)
                      refine j_iload_n dX11_replaceTable_134 rfl ?_
                      refine j_aload dX11_replaceTable_135 rfl rfl ?_
                      refine j_iconst (v := 0) dX11_replaceTable_137 (by decide) ?_
                      refine j_ld dX11_replaceTable_138 ((h21.pr (t := i599) (by omega)).1 p651 hp651).2 (vp_in_nI (n := 0) (by decide) (by decide)) ?_
                      refine j_top (congrArg Value.int (show _ = nI x.1 from by rw [show (0 : Int32).toNatClampNeg = 0 from by decide]; exact hv0651)) ?_
                      refine j_aload dX11_replaceTable_139 rfl rfl ?_
                      refine j_iconst (v := 1) dX11_replaceTable_141 (by decide) ?_
                      refine j_ld dX11_replaceTable_142 ((h21.pr (t := i599) (by omega)).1 p651 hp651).2 (vp_in_nI (n := 1) (by decide) (by decide)) ?_
                      refine j_top (congrArg Value.int (show _ = x.2 from by rw [show (1 : Int32).toNatClampNeg = 1 from by decide]; exact hv1651)) ?_
                      refine j_iload_n dX11_replaceTable_143 rfl ?_
                      refine j_callS dX11_replaceTable_144 kX11_rule lX11_115 stX11_rule (cm_rule_r hl w21 _ _ _ _ (hv _ List.mem_cons_self).2 (sp_vl (by assumption)).2) (Nat.le_of_ble_eq_true rfl) ⟨(by show _ ≤ 2; omega), (by show _ ≤ 11; omega)⟩ rfl (Nat.le_of_ble_eq_true rfl) rfl rfl (fun _ _ h => h.elim) ?_
                      rintro _ _ ⟨⟨rfl, hq659⟩ | ⟨y659, rfl, hq659, hne659⟩, hw659⟩
                      · refine j_w w21 hw659 ?_
                        refine j_istore (lo' := [(7, _), (6, _), (0, _), (1, _), (2, _), (3, _), (4, _), (5, _)]) dX11_replaceTable_147 (by decide) rfl ?_
                        refine j_iload dX11_replaceTable_149 rfl ?_
                        refine j_ldc dX11_replaceTable_151 kcX11_67 ?_
                        refine j_icmp_ne (tgt := 161) dX11_replaceTable_153 (by decide) (fun c_153_396 => ?_) (fun c_153_396 => ?_)
                        · exact absurd c_153_396 (by decide)
                        · refine j_aload_n dX11_replaceTable_156 rfl rfl ?_
                          refine j_callV (q := (RX11, TX11, 8)) dX11_replaceTable_157 kX11_nine lX11_105 inX11_nine seX11_nine h21.m rfl (cm_nine hl w21 _ h21) (Nat.le_of_ble_eq_true rfl) ⟨(by show _ ≤ 2; omega), (by show _ ≤ 11; omega)⟩ rfl (Nat.le_of_ble_eq_true rfl) rfl rfl (fun _ _ h => h.elim) ?_
                          rintro _ w22 ⟨rfl, fm22, h22⟩
                          have g22_it640 := fm22.g hita640 (by rw [hitb640]; decide) g21_it640
                          have R22 := R21.ni
                          refine j_iret dX11_replaceTable_160 rfl rfl ?_ (by show _ ≤ 2; omega) (by show _ ≤ 11; omega)
                          refine cast (congrFun (congrFun hQ9 _) _) ?_
                          rw [sp_rtN hq659] at he
                          try rw [ei599]
                          refine ⟨_, _, rfl, ((((hfm.tr fm19).tr (fw20.fm (q := 59) (by omega))).tr (fw21.fm (q := 59) (by omega))).tr (fm22.le (q' := 59) (by decide))), h22, sp_X0 ?_ hth (by unfold sp_ctbS; rw [← he]; exact R22) (by rw [← he]; rfl)⟩
                          first | (first | (refine sp_k32_0 ?_ ?_ <;> (first | (with_reducible assumption) | (refine Or.inl ?_; (with_reducible assumption)) | (refine Or.inr ?_; (with_reducible assumption)) | (refine Or.inr (Or.inl ?_); (with_reducible assumption)) | (refine Or.inr (Or.inr ?_); (with_reducible assumption)) | (refine Or.inr (Or.inr (Or.inl ?_)); (with_reducible assumption)) | (refine Or.inr (Or.inr (Or.inr ?_)); (with_reducible assumption)) | (refine fun z => Or.elim z ?_ ?_ <;> (with_reducible assumption)) | (refine fun z => Or.elim z ?_ (fun z => Or.elim z ?_ ?_) <;> (with_reducible assumption)) | (refine fun z => Or.elim z ?_ (fun z => Or.elim z ?_ (fun z => Or.elim z ?_ ?_)) <;> (with_reducible assumption)) | (refine fun z => Or.elim z (fun z9 => z9 ?_) ?_ <;> (first | (with_reducible assumption) | (refine Or.inl ?_; (with_reducible assumption)) | (refine Or.inr (Or.inl ?_); (with_reducible assumption)) | (refine Or.inr (Or.inr ?_); (with_reducible assumption)) | (refine Or.inr (Or.inr (Or.inl ?_)); (with_reducible assumption)) | (refine Or.inr (Or.inr (Or.inr ?_)); (with_reducible assumption)))) | (refine Or.inl (fun z => Or.elim z ?_ (fun z => Or.elim z ?_ ?_)) <;> (with_reducible assumption)) | (refine Or.inl (fun z => Or.elim z ?_ (fun z => Or.elim z ?_ (fun z => Or.elim z ?_ ?_))) <;> (with_reducible assumption))))) | (first | (refine sp_k32_0 ?_ ?_ <;> (first | assumption | (refine Or.inl ?_; assumption) | (refine Or.inr ?_; assumption) | (refine Or.inr (Or.inl ?_); assumption) | (refine Or.inr (Or.inr ?_); assumption) | (refine Or.inr (Or.inr (Or.inl ?_)); assumption) | (refine Or.inr (Or.inr (Or.inr ?_)); assumption) | (refine fun z => Or.elim z ?_ ?_ <;> assumption) | (refine fun z => Or.elim z ?_ (fun z => Or.elim z ?_ ?_) <;> assumption) | (refine fun z => Or.elim z ?_ (fun z => Or.elim z ?_ (fun z => Or.elim z ?_ ?_)) <;> assumption) | (refine fun z => Or.elim z (fun z9 => z9 ?_) ?_ <;> (first | assumption | (refine Or.inl ?_; assumption) | (refine Or.inr (Or.inl ?_); assumption) | (refine Or.inr (Or.inr ?_); assumption) | (refine Or.inr (Or.inr (Or.inl ?_)); assumption) | (refine Or.inr (Or.inr (Or.inr ?_)); assumption))) | (refine Or.inl (fun z => Or.elim z ?_ (fun z => Or.elim z ?_ ?_)) <;> assumption) | (refine Or.inl (fun z => Or.elim z ?_ (fun z => Or.elim z ?_ (fun z => Or.elim z ?_ ?_))) <;> assumption))))
                      · refine j_w w21 hw659 ?_
                        refine j_istore (lo' := [(7, _), (6, _), (0, _), (1, _), (2, _), (3, _), (4, _), (5, _)]) dX11_replaceTable_147 (by decide) rfl ?_
                        refine j_iload dX11_replaceTable_149 rfl ?_
                        refine j_ldc dX11_replaceTable_151 kcX11_67 ?_
                        refine j_icmp_ne (tgt := 161) dX11_replaceTable_153 (by decide) (fun c_153_413 => ?_) (fun c_153_413 => ?_)
                        · refine j_aload dX11_replaceTable_161 rfl rfl ?_
                          refine j_iconst (v := 1) dX11_replaceTable_163 (by decide) ?_
                          refine j_iload dX11_replaceTable_164 rfl ?_
                          refine j_sto (w' := _) dX11_replaceTable_166 ((h21.pr (t := i599) (by omega)).1 p651 hp651).2 (vp_in_nI (n := 1) (by decide) (by decide)) rfl ?_
                          have hnd : (sp_ks (A ++ x :: L2)).Nodup := R21.kd h21 (t := i599) (by omega) ((congrFun sp_tcT _).trans z_fu_self)
                          refine j_seal (((h21.pr (t := i599) (by omega)).1 p651 hp651).1.1) ?_
                          intro w23 u23
                          have hpp23 := ((h21.pr (t := i599) (by omega)).1 p651 hp651).1
                          have hpq23 := hpp23.2.1
                          have g23_it640 := (u23.2.1 it640 (by omega)).trans g21_it640
                          have fw23 := u23.fw (ρ := 14 + i599) hpp23.1 hpp23.2.1
                          have h23 := h21.up14 (t0 := i599) (by omega) hp651 u23 (z_ui_ne (by decide))
                          have R23 := R21.uk (t0 := i599) (F := z_ui (z_qk _ p651) ((1 : Int32).toNatClampNeg) y659) (v := y659) h21 (by omega) hp651 (z_ui_ne (by decide)) (by rw [show (1 : Int32).toNatClampNeg = 1 from by decide]; exact z_ui_self)
                          rw [hv0651, z_cla (by omega)] at R23
                          rw [show sp_T (sp_tc (sp_uT S i599 (A ++ x :: L2)) i599 _) i599 = A ++ x :: L2 from (congrFun sp_tcT _).trans z_fu_self, sp_st_mid hnd, sp_tcu, sp_uTT] at R23
                          refine j_aload dX11_replaceTable_167 rfl rfl ?_
                          refine j_iconst (v := 3) dX11_replaceTable_169 (by decide) ?_
                          refine j_dup2 dX11_replaceTable_170 rfl rfl ?_
                          refine j_ld dX11_replaceTable_171 (h23.cn (i := 2) (by decide)) (vp_in_nI (n := 3) (by decide) (by decide)) ?_
                          refine j_iconst (v := 1) dX11_replaceTable_172 (by decide) ?_
                          refine j_iadd dX11_replaceTable_173 ?_
                          refine j_sto (w' := _) dX11_replaceTable_174 (h23.cn (i := 2) (by decide)) (vp_in_nI (n := 3) (by decide) (by decide)) rfl ?_
                          refine j_seal (by omega) ?_
                          intro w24 u24
                          have fw24 := u24.fw (ρ := 44 + 2) (by omega) (by omega)
                          have g24_it640 := (fun z => (u24.2.1 it640 (fun z9 => by have h9 := hitb640; rw [z9] at h9; omega)).trans z) g23_it640
                          have h24 := h23.up44 (i0 := 2) (by decide) fw24 u24.1
                          rw [show (3 : Int32).toNatClampNeg = 3 by decide] at h24
                          have R24 := sp_MR.bpTu (k := 3) hb54 R23 (by decide)
                          refine j_goto (tgt := 96) dX11_replaceTable_175 (by decide) ?_
                          refine j_widen (kc' := 2) (ks' := 11) (by omega) (by omega) ?_
                          exact j_lo2 (ih w24 _ (A ++ [(x.1, y659)]) L2 _ (z_bp (z_bp (z_bp c 1) 2) 3) (by rw [List.length_cons] at hf9; omega) sp_apl (by rw [sp_rtS hq659] at he; exact he) (fun p hp => hv p (List.mem_cons_of_mem _ hp)) (by rw [← sp_mid]; exact R24) (by exact hth) h24 (((((hfm.tr fm19).tr (fw20.fm (q := 59) (by omega))).tr (fw21.fm (q := 59) (by omega))).tr (fw23.fm (q := 59) (by omega))).tr (fw24.fm (q := 59) (by omega))) (by rw [List.length_append]; exact g24_it640)) (z_q1 rfl (z_q1 rfl (z_q1 rfl (z_q1 rfl (z_q1 rfl (z_q1 rfl z_q0))))))
                        · exact absurd c_153_413 hne659
                refine j_widen (kc' := 2) (ks' := 11) (by omega) (by omega) ?_
                exact j_lo2 (loop96 ((sp_T S i599).length + 1) w16 _ [] (sp_T S i599) _ (z_bp (sp_C S 2) 0) (Nat.lt_succ_self _) sp_apl (by exact rfl) (fun p hp => ((ok.2.1 i599 (by omega)).2 p hp).2) (by rw [List.nil_append, sp_uT_id, sp_tc0 hb54]; exact R15) (by exact rfl) h16 (((fm2.le (q' := 59) (by decide)).tr (fw15.fm (q := 59) (by omega))).tr fm16) git640) (z_q1 rfl (z_q1 rfl (z_q1 rfl (z_q1 rfl (z_q1 rfl (z_q1 rfl z_q0))))))
            · exact absurd c_48_56 (by decide)
          · exact absurd c_36_50 (by decide)
      · refine j_iload_n dX11_replaceTable_17 rfl ?_
        refine j_iconst (v := 1) dX11_replaceTable_18 (by decide) ?_
        refine j_icmp_eq (tgt := 32) dX11_replaceTable_19 (by decide) (fun c_19_453 => ?_) (fun c_19_453 => ?_)
        · refine j_iload_n dX11_replaceTable_32 rfl ?_
          refine j_callS dX11_replaceTable_33 kX11_isNoValue lX11_79 stX11_isNoValue (cm_isNoValue_r hl w2 _) (Nat.le_of_ble_eq_true rfl) ⟨(by show _ ≤ 2; omega), (by show _ ≤ 11; omega)⟩ rfl (Nat.le_of_ble_eq_true rfl) rfl rfl (fun _ _ h => h.elim) ?_
          rintro _ _ ⟨⟨rfl, hno664⟩ | ⟨rfl, hye664⟩, hw664⟩
          · refine j_w w2 hw664 ?_
            refine j_if_eq (tgt := 43) dX11_replaceTable_36 (by decide) (fun c_36_458 => ?_) (fun c_36_458 => ?_)
            · exact absurd c_36_458 (by decide)
            · refine j_iconst (v := 1) dX11_replaceTable_39 (by decide) ?_
              refine j_goto (tgt := 44) dX11_replaceTable_40 (by decide) ?_
              refine j_iconst (v := 2) dX11_replaceTable_44 (by decide) ?_
              refine j_callV (q := (RX11, TX11, 8)) dX11_replaceTable_45 kX11_refuse lX11_52 inX11_refuse seX11_refuse h2.m rfl (cm_refuse1 hl w2 _ _ h2 rfl (by decide)) (Nat.le_of_ble_eq_true rfl) ⟨(by show _ ≤ 2; omega), (by show _ ≤ 11; omega)⟩ rfl (Nat.le_of_ble_eq_true rfl) rfl rfl (fun _ _ h => h.elim) ?_
              rintro _ w25 ⟨rfl, fm25, h25⟩
              have R25 := R2.th (k := 2)
              refine j_if_eq (tgt := 53) dX11_replaceTable_48 (by decide) (fun c_48_466 => ?_) (fun c_48_466 => ?_)
              · exact absurd c_48_466 (by decide)
              · refine j_iconst (v := 0) dX11_replaceTable_51 (by decide) ?_
                refine j_iret dX11_replaceTable_52 rfl rfl ?_ (by show _ ≤ 2; omega) (by show _ ≤ 11; omega)
                refine cast (congrFun (congrFun hQ9 _) _) ?_
                try rw [ei599]
                refine ⟨_, _, rfl, ((fm2.le (q' := 59) (by decide)).tr (fm25.le (q' := 59) (by decide))), h25, sp_X1 (k := 2) ?_ (by decide) rfl R25⟩
                first | (first | (refine sp_k32_2 ?_ ?_ <;> (first | (with_reducible assumption) | (refine Or.inl ?_; (with_reducible assumption)) | (refine Or.inr ?_; (with_reducible assumption)) | (refine Or.inr (Or.inl ?_); (with_reducible assumption)) | (refine Or.inr (Or.inr ?_); (with_reducible assumption)) | (refine Or.inr (Or.inr (Or.inl ?_)); (with_reducible assumption)) | (refine Or.inr (Or.inr (Or.inr ?_)); (with_reducible assumption)) | (refine fun z => Or.elim z ?_ ?_ <;> (with_reducible assumption)) | (refine fun z => Or.elim z ?_ (fun z => Or.elim z ?_ ?_) <;> (with_reducible assumption)) | (refine fun z => Or.elim z ?_ (fun z => Or.elim z ?_ (fun z => Or.elim z ?_ ?_)) <;> (with_reducible assumption)) | (refine fun z => Or.elim z (fun z9 => z9 ?_) ?_ <;> (first | (with_reducible assumption) | (refine Or.inl ?_; (with_reducible assumption)) | (refine Or.inr (Or.inl ?_); (with_reducible assumption)) | (refine Or.inr (Or.inr ?_); (with_reducible assumption)) | (refine Or.inr (Or.inr (Or.inl ?_)); (with_reducible assumption)) | (refine Or.inr (Or.inr (Or.inr ?_)); (with_reducible assumption)))) | (refine Or.inl (fun z => Or.elim z ?_ (fun z => Or.elim z ?_ ?_)) <;> (with_reducible assumption)) | (refine Or.inl (fun z => Or.elim z ?_ (fun z => Or.elim z ?_ (fun z => Or.elim z ?_ ?_))) <;> (with_reducible assumption))))) | (first | (refine sp_k32_2 ?_ ?_ <;> (first | assumption | (refine Or.inl ?_; assumption) | (refine Or.inr ?_; assumption) | (refine Or.inr (Or.inl ?_); assumption) | (refine Or.inr (Or.inr ?_); assumption) | (refine Or.inr (Or.inr (Or.inl ?_)); assumption) | (refine Or.inr (Or.inr (Or.inr ?_)); assumption) | (refine fun z => Or.elim z ?_ ?_ <;> assumption) | (refine fun z => Or.elim z ?_ (fun z => Or.elim z ?_ ?_) <;> assumption) | (refine fun z => Or.elim z ?_ (fun z => Or.elim z ?_ (fun z => Or.elim z ?_ ?_)) <;> assumption) | (refine fun z => Or.elim z (fun z9 => z9 ?_) ?_ <;> (first | assumption | (refine Or.inl ?_; assumption) | (refine Or.inr (Or.inl ?_); assumption) | (refine Or.inr (Or.inr ?_); assumption) | (refine Or.inr (Or.inr (Or.inl ?_)); assumption) | (refine Or.inr (Or.inr (Or.inr ?_)); assumption))) | (refine Or.inl (fun z => Or.elim z ?_ (fun z => Or.elim z ?_ ?_)) <;> assumption) | (refine Or.inl (fun z => Or.elim z ?_ (fun z => Or.elim z ?_ (fun z => Or.elim z ?_ ?_))) <;> assumption))))
          · refine j_w w2 hw664 ?_
            refine j_if_eq (tgt := 43) dX11_replaceTable_36 (by decide) (fun c_36_475 => ?_) (fun c_36_475 => ?_)
            · refine j_iconst (v := 0) dX11_replaceTable_43 (by decide) ?_
              refine j_iconst (v := 2) dX11_replaceTable_44 (by decide) ?_
              refine j_callV (q := (RX11, TX11, 8)) dX11_replaceTable_45 kX11_refuse lX11_52 inX11_refuse seX11_refuse h2.m rfl (cm_refuse0 hl w2 _ _ h2 rfl) (Nat.le_of_ble_eq_true rfl) ⟨(by show _ ≤ 2; omega), (by show _ ≤ 11; omega)⟩ rfl (Nat.le_of_ble_eq_true rfl) rfl rfl (fun _ _ h => h.elim) ?_
              rintro _ _ ⟨rfl, hw665⟩
              refine j_w w2 hw665 ?_
              refine j_if_eq (tgt := 53) dX11_replaceTable_48 (by decide) (fun c_48_481 => ?_) (fun c_48_481 => ?_)
              · refine j_iload_n dX11_replaceTable_53 rfl ?_
                refine j_if_ne (tgt := 66) dX11_replaceTable_54 (by decide) (fun c_54_483 => ?_) (fun c_54_483 => ?_)
                · have hb54 : ¬ i599 = 0 := fun z => c_54_483 (show nI i599 = nI 0 by rw [z])
                  refine j_bipush (v := 7) dX11_replaceTable_66 (by decide) ?_
                  obtain ⟨x2, hx2a, hx2b, hx2c⟩ := z_fresh (57) (by decide) h2.fn
                  refine j_newa (kd := 0) (N := 7) (w' := _) (n := x2) dX11_replaceTable_68 rfl rfl arc_int ⟨rfl, fun _ _ h => h⟩ (by decide) rfl (by decide) rfl (z_alW hx2c hx2a) (Nat.le_of_ble_eq_true rfl) (Nat.le_of_ble_eq_true rfl) ?_
                  refine j_seal hx2a ?_
                  intro w26 u26
                  have fw26 := u26.fw hx2a hx2b
                  have g26_x2 := u26.1
                  have h26 := h2.gar fw26 (by omega)
                  refine j_astore (lo' := [(4, _), (0, _), (1, _), (2, _), (3, _)]) dX11_replaceTable_70 rfl (by decide) rfl ?_
                  refine j_aload dX11_replaceTable_72 rfl rfl ?_
                  refine j_iconst (v := 0) dX11_replaceTable_74 (by decide) ?_
                  refine j_dup2 dX11_replaceTable_75 rfl rfl ?_
                  refine j_ld dX11_replaceTable_76 g26_x2 (vp_in_nI (n := 0) (by decide) (by decide)) ?_
                  refine j_iconst (v := 1) dX11_replaceTable_77 (by decide) ?_
                  refine j_iadd dX11_replaceTable_78 ?_
                  refine j_sto (w' := _) dX11_replaceTable_79 g26_x2 (vp_in_nI (n := 0) (by decide) (by decide)) rfl ?_
                  refine j_seal hx2a ?_
                  intro w27 u27
                  have fw27 := u27.fw hx2a hx2b
                  have g27_x2 := u27.1
                  have h27 := h26.gar fw27 (by omega)
                  refine j_aload_n dX11_replaceTable_80 rfl rfl ?_
                  refine j_getf dX11_replaceTable_81 fX11_34 h27.m rfl ?_
                  refine j_iload_n dX11_replaceTable_84 rfl ?_
                  obtain ⟨lv670, -, lg670⟩ := z_li.cell h27.tabs
                  refine j_callV (q := (RJx4a65c, TJx4a65c, 3)) dX11_replaceTable_85 kJx4a65c_get_915e3 lX11_82 inJx4a65c_get_915e3 seJx4a65c_get_915e3 lg670 rfl (cl_get hl w27 47 1007 _ _ (i599) _ h27.tabs (z_thr3 (t := i599) (by omega))) (Nat.le_of_ble_eq_true rfl) ⟨(by show _ ≤ 2; omega), (by show _ ≤ 11; omega)⟩ rfl (Nat.le_of_ble_eq_true rfl) rfl rfl (fun _ _ h => h.elim) ?_
                  rintro _ _ ⟨rfl, hw671⟩
                  refine j_w w27 hw671 ?_
                  refine j_castS dX11_replaceTable_88 (z_w 1341 ((lwt_6_3 6).trans rfl) (by decide +kernel)) (z_li.is (h27.tb (t := i599) (by omega))) ?_
                  obtain ⟨lv674, -, lg674⟩ := z_li.cell (h27.tb (t := i599) (by omega))
                  refine j_callV (q := (RJx4a65c, TJx4a65c, 3)) dX11_replaceTable_91 kJx4a65c_iterator_32c93 lX11_162 inJx4a65c_iterator_32c93 seJx4a65c_iterator_32c93 lg674 rfl (cl_iter hl w27 58 (51 + i599) _ _ _ (h27.tb (t := i599) (by omega)) (by decide) (by omega) h27.fn) (Nat.le_of_ble_eq_true rfl) ⟨(by show _ ≤ 2; omega), (by show _ ≤ 11; omega)⟩ rfl (Nat.le_of_ble_eq_true rfl) rfl rfl (fun _ _ h => h.elim) ?_
                  rintro _ w28 ⟨it673, rfl, fw28, hita673, hitb673, hitc673, la673, git673⟩
                  have hita673 : 1000 ≤ it673 := hita673
                  have hitb673 : it673 % 64 = 58 := hitb673
                  have n_x2_it673 := z_neF hitc673 g27_x2
                  have g28_x2 := fw28.g (Or.inr (by omega)) g27_x2
                  have fm28 := fw28.fm (q := 59) (by omega)
                  have h28 := h27.gar fw28 (by omega)
                  refine j_astore (lo' := [(5, _), (4, _), (0, _), (1, _), (2, _), (3, _)]) dX11_replaceTable_94 rfl (by decide) rfl ?_
                  have loop96 : ∀ (n9 : Nat) (w29 : z_W) (s1 : z_Z) (A L : List (Nat × Int32)) (la : Int32) (c : Nat → Int32) (F : Nat → Int32), (L.length < n9) → (A.length ≤ (A ++ L).length) → (sp_rt r n c A L = sp_ctb S i599 r n) → (∀ p ∈ L, z_vl p.2) → (sp_MR (sp_tc (sp_uT S i599 (A ++ L)) i599 c) s1) → (s1.1.1 = 0) → (z_mst w29 s1) → (z_fm 59 w w29) → (z_g w29 it673 = some (.inr (3, [.int (nI A.length), .int la, .int (z_qp s1 i599).1, .ref (1011 + i599)]))) → (z_g w29 x2 = some (.inl (0, 7, fun j => .int (F j)))) → z_J G l mX11_replaceTable (22, 2, 11, w, Q9, (fun _ _ => False)) 96 [(0, .ref 1000), (1, .int (nI i599)), (2, .int r), (3, .int n), (4, .ref x2), (5, .ref it673)] [] w29 2 11 := by
                    intro n9
                    induction n9 with
                    | zero => intro w29 s1 A L la c F hf9 hAl he hv hR hth hm hfm git gx; exact absurd hf9 (Nat.not_lt_zero _)
                    | succ n9 ih =>
                      intro w29 s1 A L la c F hf9 hAl he hv hR hth hm hfm git gx
                      refine j_aload dX11_replaceTable_96 rfl rfl ?_
                      refine j_callF (x := ⟨"java/util/Iterator", "hasNext", "()Z"⟩) (q := (RJx35411, TJx35411, 4)) dX11_replaceTable_98 kJx35411_hasNext_aae02 ⟨(z_w 1765 ((lwt_8_1 10).trans rfl) (by decide +kernel)), (z_w 1769 ((lwt_8_1 14).trans rfl) (by decide +kernel)), inJx35411_hasNext_aae02, ⟨by decide, by decide⟩, rfl, fun U h => h.2.1⟩ git rfl (cl_hasN hl w29 _ (51 + i599) _ (A.length) _ _ (hm.tb (t := i599) (by omega)) ⟨_, git⟩ (by rw [z_rs_len, hR.tlB (by omega) ((congrFun sp_tcT _).trans z_fu_self)]; omega)) (Nat.le_of_ble_eq_true rfl) ⟨(by show _ ≤ 2; omega), (by show _ ≤ 11; omega)⟩ rfl (Nat.le_of_ble_eq_true rfl) rfl ?_
                      rintro _ _ ⟨⟨x675, rfl, hz675, hp675⟩, hw675⟩
                      refine j_w w29 hw675 ?_
                      rw [z_rs_len, hR.tlB (by omega) ((congrFun sp_tcT _).trans z_fu_self)] at hz675 hp675
                      refine j_if_eq (tgt := 178) dX11_replaceTable_103 (by decide) (fun c_103_535 => ?_) (fun c_103_535 => ?_)
                      · have hk103 : A.length = (A ++ L).length := hz675 c_103_535
                        obtain rfl : L = [] := List.eq_nil_of_length_eq_zero (by rw [List.length_append] at hk103; omega)
                        refine j_aload dX11_replaceTable_178 rfl rfl ?_
                        refine j_iconst (v := 1) dX11_replaceTable_180 (by decide) ?_
                        refine j_dup2 dX11_replaceTable_181 rfl rfl ?_
                        refine j_ld dX11_replaceTable_182 gx (vp_in_nI (n := 1) (by decide) (by decide)) ?_
                        refine j_iconst (v := 1) dX11_replaceTable_183 (by decide) ?_
                        refine j_iadd dX11_replaceTable_184 ?_
                        refine j_sto (w' := _) dX11_replaceTable_185 gx (vp_in_nI (n := 1) (by decide) (by decide)) rfl ?_
                        refine j_seal hx2a ?_
                        intro w30 u30
                        have fw30 := u30.fw hx2a hx2b
                        have g30_it673 := (u30.2.1 it673 (Ne.symm n_x2_it673)).trans git
                        have g30_x2 := u30.1
                        have h30 := hm.gar fw30 (by omega)
                        refine j_aload_n dX11_replaceTable_186 rfl rfl ?_
                        refine j_getf dX11_replaceTable_187 fX11_34 h30.m rfl ?_
                        refine j_iload_n dX11_replaceTable_190 rfl ?_
                        obtain ⟨lv679, -, lg679⟩ := z_li.cell h30.tabs
                        refine j_callV (q := (RJx4a65c, TJx4a65c, 3)) dX11_replaceTable_191 kJx4a65c_get_915e3 lX11_82 inJx4a65c_get_915e3 seJx4a65c_get_915e3 lg679 rfl (cl_get hl w30 47 1007 _ _ (i599) _ h30.tabs (z_thr3 (t := i599) (by omega))) (Nat.le_of_ble_eq_true rfl) ⟨(by show _ ≤ 2; omega), (by show _ ≤ 11; omega)⟩ rfl (Nat.le_of_ble_eq_true rfl) rfl rfl (fun _ _ h => h.elim) ?_
                        rintro _ _ ⟨rfl, hw680⟩
                        refine j_w w30 hw680 ?_
                        refine j_castS dX11_replaceTable_194 (z_w 1341 ((lwt_6_3 6).trans rfl) (by decide +kernel)) (z_li.is (h30.tb (t := i599) (by omega))) ?_
                        obtain ⟨lv682, -, lg682⟩ := z_li.cell (h30.tb (t := i599) (by omega))
                        refine j_callV (q := (RJx4a65c, TJx4a65c, 3)) dX11_replaceTable_197 kJx4a65c_size_8abf5 lX11_86 inJx4a65c_size_8abf5 seJx4a65c_size_8abf5 lg682 rfl (cl_sizeT hl w30 (i599) ((A ++ [])) h30 hR (by omega) ((congrFun sp_tcT _).trans z_fu_self)) (Nat.le_of_ble_eq_true rfl) ⟨(by show _ ≤ 2; omega), (by show _ ≤ 11; omega)⟩ rfl (Nat.le_of_ble_eq_true rfl) rfl rfl (fun _ _ h => h.elim) ?_
                        rintro _ _ ⟨rfl, hw683⟩
                        refine j_w w30 hw683 ?_
                        have hz683 : ((A ++ [])).length ≤ 20 := hR.l20 h30 (t := i599) (by omega) ((congrFun sp_tcT _).trans z_fu_self)
                        refine j_iret dX11_replaceTable_200 rfl rfl ?_ (by show _ ≤ 2; omega) (by show _ ≤ 11; omega)
                        refine cast (congrFun (congrFun hQ9 _) _) ?_
                        rw [List.append_nil] at hR
                        try rw [ei599]
                        refine ⟨_, _, rfl, (hfm.tr (fw30.fm (q := 59) (by omega))), h30, sp_X0 ?_ hth (by unfold sp_ctbS; rw [← he]; have e := hR; rw [sp_tcn hb54] at e; show sp_MR (sp_tc (sp_uT S _ _) _ _) _; rw [sp_tcn hb54]; exact e) (by rw [← he, List.append_nil]; rfl)⟩
                        first | (first | (refine sp_k32_0 ?_ ?_ <;> (first | (with_reducible assumption) | (refine Or.inl ?_; (with_reducible assumption)) | (refine Or.inr ?_; (with_reducible assumption)) | (refine Or.inr (Or.inl ?_); (with_reducible assumption)) | (refine Or.inr (Or.inr ?_); (with_reducible assumption)) | (refine Or.inr (Or.inr (Or.inl ?_)); (with_reducible assumption)) | (refine Or.inr (Or.inr (Or.inr ?_)); (with_reducible assumption)) | (refine fun z => Or.elim z ?_ ?_ <;> (with_reducible assumption)) | (refine fun z => Or.elim z ?_ (fun z => Or.elim z ?_ ?_) <;> (with_reducible assumption)) | (refine fun z => Or.elim z ?_ (fun z => Or.elim z ?_ (fun z => Or.elim z ?_ ?_)) <;> (with_reducible assumption)) | (refine fun z => Or.elim z (fun z9 => z9 ?_) ?_ <;> (first | (with_reducible assumption) | (refine Or.inl ?_; (with_reducible assumption)) | (refine Or.inr (Or.inl ?_); (with_reducible assumption)) | (refine Or.inr (Or.inr ?_); (with_reducible assumption)) | (refine Or.inr (Or.inr (Or.inl ?_)); (with_reducible assumption)) | (refine Or.inr (Or.inr (Or.inr ?_)); (with_reducible assumption)))) | (refine Or.inl (fun z => Or.elim z ?_ (fun z => Or.elim z ?_ ?_)) <;> (with_reducible assumption)) | (refine Or.inl (fun z => Or.elim z ?_ (fun z => Or.elim z ?_ (fun z => Or.elim z ?_ ?_))) <;> (with_reducible assumption))))) | (first | (refine sp_k32_0 ?_ ?_ <;> (first | assumption | (refine Or.inl ?_; assumption) | (refine Or.inr ?_; assumption) | (refine Or.inr (Or.inl ?_); assumption) | (refine Or.inr (Or.inr ?_); assumption) | (refine Or.inr (Or.inr (Or.inl ?_)); assumption) | (refine Or.inr (Or.inr (Or.inr ?_)); assumption) | (refine fun z => Or.elim z ?_ ?_ <;> assumption) | (refine fun z => Or.elim z ?_ (fun z => Or.elim z ?_ ?_) <;> assumption) | (refine fun z => Or.elim z ?_ (fun z => Or.elim z ?_ (fun z => Or.elim z ?_ ?_)) <;> assumption) | (refine fun z => Or.elim z (fun z9 => z9 ?_) ?_ <;> (first | assumption | (refine Or.inl ?_; assumption) | (refine Or.inr (Or.inl ?_); assumption) | (refine Or.inr (Or.inr ?_); assumption) | (refine Or.inr (Or.inr (Or.inl ?_)); assumption) | (refine Or.inr (Or.inr (Or.inr ?_)); assumption))) | (refine Or.inl (fun z => Or.elim z ?_ (fun z => Or.elim z ?_ ?_)) <;> assumption) | (refine Or.inl (fun z => Or.elim z ?_ (fun z => Or.elim z ?_ (fun z => Or.elim z ?_ ?_))) <;> assumption))))
                      · have hk103 : A.length < (A ++ L).length := hp675 c_103_535
                        obtain ⟨x, L2, rfl⟩ : ∃ x L2, L = x :: L2 := by
                          cases L with
                          | nil => rw [List.append_nil] at hk103; exact absurd hk103 (Nat.lt_irrefl _)
                          | cons x L2 => exact ⟨x, L2, rfl⟩
                        refine j_aload dX11_replaceTable_106 rfl rfl ?_
                        obtain ⟨p684, hp684, hq684, hk684, hv0684, hv1684, hv2684⟩ := hR.prB hm (t := i599) (k := A.length) (by omega) ((congrFun sp_tcT _).trans z_fu_self) sp_mid?
                        refine j_callF (x := ⟨"java/util/Iterator", "next", "()Ljava/lang/Object;"⟩) (q := (RJx35411, TJx35411, 4)) dX11_replaceTable_108 kJx35411_next_0502b ⟨(z_w 1775 ((lwt_8_1 20).trans rfl) (by decide +kernel)), (z_w 1778 ((lwt_8_1 23).trans rfl) (by decide +kernel)), inJx35411_next_0502b, ⟨by decide, by decide⟩, rfl, fun U h => h.2.2.1⟩ git rfl (cl_next hl w29 58 it673 (51 + i599) _ (A.length) _ _ _ (hm.tb (t := i599) (by omega)) ⟨_, git⟩ hq684 hita673 hitb673 (by omega)) (Nat.le_of_ble_eq_true rfl) ⟨(by show _ ≤ 2; omega), (by show _ ≤ 11; omega)⟩ rfl (Nat.le_of_ble_eq_true rfl) rfl ?_
                        rintro _ w31 ⟨rfl, fw31, la31, git31⟩
                        have g31_x2 := fw31.g (Or.inr (by omega)) gx
                        have fm31 := fw31.fm (q := 59) (by omega)
                        have h31 := hm.gar fw31 (by omega)
                        refine j_castS dX11_replaceTable_113 (z_w 1663 ((lwt_7_5 28).trans rfl) (by decide +kernel)) (z_isA ((h31.pr (t := i599) (by omega)).1 p684 hp684).2) ?_
                        refine j_astore (lo' := [(6, _), (0, _), (1, _), (2, _), (3, _), (4, _), (5, _)]) dX11_replaceTable_116 rfl (by decide) rfl ?_
                        refine j_aload dX11_replaceTable_118 rfl rfl ?_
                        refine j_iconst (v := 1) dX11_replaceTable_120 (by decide) ?_
                        refine j_dup2 dX11_replaceTable_121 rfl rfl ?_
                        refine j_ld dX11_replaceTable_122 g31_x2 (vp_in_nI (n := 1) (by decide) (by decide)) ?_
                        refine j_iconst (v := 1) dX11_replaceTable_123 (by decide) ?_
                        refine j_iadd dX11_replaceTable_124 ?_
                        refine j_sto (w' := _) dX11_replaceTable_125 g31_x2 (vp_in_nI (n := 1) (by decide) (by decide)) rfl ?_
                        refine j_seal hx2a ?_
                        intro w32 u32
                        have fw32 := u32.fw hx2a hx2b
                        have g32_it673 := (u32.2.1 it673 (Ne.symm n_x2_it673)).trans git31
                        have g32_x2 := u32.1
                        have h32 := h31.gar fw32 (by omega)
                        refine j_aload dX11_replaceTable_126 rfl rfl ?_
                        refine j_iconst (v := 2) dX11_replaceTable_128 (by decide) ?_
                        refine j_dup2 dX11_replaceTable_129 rfl rfl ?_
                        refine j_ld dX11_replaceTable_130 g32_x2 (vp_in_nI (n := 2) (by decide) (by decide)) ?_
                        refine j_iconst (v := 1) dX11_replaceTable_131 (by decide) ?_
                        refine j_iadd dX11_replaceTable_132 ?_
                        refine j_sto (w' := _) dX11_replaceTable_133 g32_x2 (vp_in_nI (n := 2) (by decide) (by decide)) rfl ?_
                        refine j_seal hx2a ?_
                        intro w33 u33
                        have fw33 := u33.fw hx2a hx2b
                        have g33_it673 := (u33.2.1 it673 (Ne.symm n_x2_it673)).trans g32_it673
                        have g33_x2 := u33.1
                        have h33 := h32.gar fw33 (by omega)
                        refine j_iload_n dX11_replaceTable_134 rfl ?_
                        refine j_aload dX11_replaceTable_135 rfl rfl ?_
                        refine j_iconst (v := 0) dX11_replaceTable_137 (by decide) ?_
                        refine j_ld dX11_replaceTable_138 ((h33.pr (t := i599) (by omega)).1 p684 hp684).2 (vp_in_nI (n := 0) (by decide) (by decide)) ?_
                        refine j_top (congrArg Value.int (show _ = nI x.1 from by rw [show (0 : Int32).toNatClampNeg = 0 from by decide]; exact hv0684)) ?_
                        refine j_aload dX11_replaceTable_139 rfl rfl ?_
                        refine j_iconst (v := 1) dX11_replaceTable_141 (by decide) ?_
                        refine j_ld dX11_replaceTable_142 ((h33.pr (t := i599) (by omega)).1 p684 hp684).2 (vp_in_nI (n := 1) (by decide) (by decide)) ?_
                        refine j_top (congrArg Value.int (show _ = x.2 from by rw [show (1 : Int32).toNatClampNeg = 1 from by decide]; exact hv1684)) ?_
                        refine j_iload_n dX11_replaceTable_143 rfl ?_
                        refine j_callS dX11_replaceTable_144 kX11_rule lX11_115 stX11_rule (cm_rule_r hl w33 _ _ _ _ (hv _ List.mem_cons_self).2 (sp_vl (by assumption)).2) (Nat.le_of_ble_eq_true rfl) ⟨(by show _ ≤ 2; omega), (by show _ ≤ 11; omega)⟩ rfl (Nat.le_of_ble_eq_true rfl) rfl rfl (fun _ _ h => h.elim) ?_
                        rintro _ _ ⟨⟨rfl, hq692⟩ | ⟨y692, rfl, hq692, hne692⟩, hw692⟩
                        · refine j_w w33 hw692 ?_
                          refine j_istore (lo' := [(7, _), (6, _), (0, _), (1, _), (2, _), (3, _), (4, _), (5, _)]) dX11_replaceTable_147 (by decide) rfl ?_
                          refine j_iload dX11_replaceTable_149 rfl ?_
                          refine j_ldc dX11_replaceTable_151 kcX11_67 ?_
                          refine j_icmp_ne (tgt := 161) dX11_replaceTable_153 (by decide) (fun c_153_626 => ?_) (fun c_153_626 => ?_)
                          · exact absurd c_153_626 (by decide)
                          · refine j_aload_n dX11_replaceTable_156 rfl rfl ?_
                            refine j_callV (q := (RX11, TX11, 8)) dX11_replaceTable_157 kX11_nine lX11_105 inX11_nine seX11_nine h33.m rfl (cm_nine hl w33 _ h33) (Nat.le_of_ble_eq_true rfl) ⟨(by show _ ≤ 2; omega), (by show _ ≤ 11; omega)⟩ rfl (Nat.le_of_ble_eq_true rfl) rfl rfl (fun _ _ h => h.elim) ?_
                            rintro _ w34 ⟨rfl, fm34, h34⟩
                            have g34_it673 := fm34.g hita673 (by rw [hitb673]; decide) g33_it673
                            have g34_x2 := fm34.g hx2a (by rw [hx2b]; decide) g33_x2
                            have R34 := hR.ni
                            refine j_iret dX11_replaceTable_160 rfl rfl ?_ (by show _ ≤ 2; omega) (by show _ ≤ 11; omega)
                            refine cast (congrFun (congrFun hQ9 _) _) ?_
                            rw [sp_rtN hq692] at he
                            try rw [ei599]
                            refine ⟨_, _, rfl, ((((hfm.tr fm31).tr (fw32.fm (q := 59) (by omega))).tr (fw33.fm (q := 59) (by omega))).tr (fm34.le (q' := 59) (by decide))), h34, sp_X0 ?_ hth (by unfold sp_ctbS; rw [← he]; have e := R34; rw [sp_tcn hb54] at e; show sp_MR (sp_nine (sp_tc (sp_uT S _ _) _ _)) _; rw [sp_tcn hb54]; exact e) (by rw [← he]; rfl)⟩
                            first | (first | (refine sp_k32_0 ?_ ?_ <;> (first | (with_reducible assumption) | (refine Or.inl ?_; (with_reducible assumption)) | (refine Or.inr ?_; (with_reducible assumption)) | (refine Or.inr (Or.inl ?_); (with_reducible assumption)) | (refine Or.inr (Or.inr ?_); (with_reducible assumption)) | (refine Or.inr (Or.inr (Or.inl ?_)); (with_reducible assumption)) | (refine Or.inr (Or.inr (Or.inr ?_)); (with_reducible assumption)) | (refine fun z => Or.elim z ?_ ?_ <;> (with_reducible assumption)) | (refine fun z => Or.elim z ?_ (fun z => Or.elim z ?_ ?_) <;> (with_reducible assumption)) | (refine fun z => Or.elim z ?_ (fun z => Or.elim z ?_ (fun z => Or.elim z ?_ ?_)) <;> (with_reducible assumption)) | (refine fun z => Or.elim z (fun z9 => z9 ?_) ?_ <;> (first | (with_reducible assumption) | (refine Or.inl ?_; (with_reducible assumption)) | (refine Or.inr (Or.inl ?_); (with_reducible assumption)) | (refine Or.inr (Or.inr ?_); (with_reducible assumption)) | (refine Or.inr (Or.inr (Or.inl ?_)); (with_reducible assumption)) | (refine Or.inr (Or.inr (Or.inr ?_)); (with_reducible assumption)))) | (refine Or.inl (fun z => Or.elim z ?_ (fun z => Or.elim z ?_ ?_)) <;> (with_reducible assumption)) | (refine Or.inl (fun z => Or.elim z ?_ (fun z => Or.elim z ?_ (fun z => Or.elim z ?_ ?_))) <;> (with_reducible assumption))))) | (first | (refine sp_k32_0 ?_ ?_ <;> (first | assumption | (refine Or.inl ?_; assumption) | (refine Or.inr ?_; assumption) | (refine Or.inr (Or.inl ?_); assumption) | (refine Or.inr (Or.inr ?_); assumption) | (refine Or.inr (Or.inr (Or.inl ?_)); assumption) | (refine Or.inr (Or.inr (Or.inr ?_)); assumption) | (refine fun z => Or.elim z ?_ ?_ <;> assumption) | (refine fun z => Or.elim z ?_ (fun z => Or.elim z ?_ ?_) <;> assumption) | (refine fun z => Or.elim z ?_ (fun z => Or.elim z ?_ (fun z => Or.elim z ?_ ?_)) <;> assumption) | (refine fun z => Or.elim z (fun z9 => z9 ?_) ?_ <;> (first | assumption | (refine Or.inl ?_; assumption) | (refine Or.inr (Or.inl ?_); assumption) | (refine Or.inr (Or.inr ?_); assumption) | (refine Or.inr (Or.inr (Or.inl ?_)); assumption) | (refine Or.inr (Or.inr (Or.inr ?_)); assumption))) | (refine Or.inl (fun z => Or.elim z ?_ (fun z => Or.elim z ?_ ?_)) <;> assumption) | (refine Or.inl (fun z => Or.elim z ?_ (fun z => Or.elim z ?_ (fun z => Or.elim z ?_ ?_))) <;> assumption))))
                        · refine j_w w33 hw692 ?_
                          refine j_istore (lo' := [(7, _), (6, _), (0, _), (1, _), (2, _), (3, _), (4, _), (5, _)]) dX11_replaceTable_147 (by decide) rfl ?_
                          refine j_iload dX11_replaceTable_149 rfl ?_
                          refine j_ldc dX11_replaceTable_151 kcX11_67 ?_
                          refine j_icmp_ne (tgt := 161) dX11_replaceTable_153 (by decide) (fun c_153_644 => ?_) (fun c_153_644 => ?_)
                          · refine j_aload dX11_replaceTable_161 rfl rfl ?_
                            refine j_iconst (v := 1) dX11_replaceTable_163 (by decide) ?_
                            refine j_iload dX11_replaceTable_164 rfl ?_
                            refine j_sto (w' := _) dX11_replaceTable_166 ((h33.pr (t := i599) (by omega)).1 p684 hp684).2 (vp_in_nI (n := 1) (by decide) (by decide)) rfl ?_
                            have hnd : (sp_ks (A ++ x :: L2)).Nodup := hR.kd h33 (t := i599) (by omega) ((congrFun sp_tcT _).trans z_fu_self)
                            refine j_seal (((h33.pr (t := i599) (by omega)).1 p684 hp684).1.1) ?_
                            intro w35 u35
                            have hpp35 := ((h33.pr (t := i599) (by omega)).1 p684 hp684).1
                            have hpq35 := hpp35.2.1
                            have g35_it673 := (u35.2.1 it673 (by omega)).trans g33_it673
                            have g35_x2 := (u35.2.1 x2 (by omega)).trans g33_x2
                            have fw35 := u35.fw (ρ := 14 + i599) hpp35.1 hpp35.2.1
                            have h35 := h33.up14 (t0 := i599) (by omega) hp684 u35 (z_ui_ne (by decide))
                            have R35 := hR.uk (t0 := i599) (F := z_ui (z_qk _ p684) ((1 : Int32).toNatClampNeg) y692) (v := y692) h33 (by omega) hp684 (z_ui_ne (by decide)) (by rw [show (1 : Int32).toNatClampNeg = 1 from by decide]; exact z_ui_self)
                            rw [hv0684, z_cla (by omega)] at R35
                            rw [show sp_T (sp_tc (sp_uT S i599 (A ++ x :: L2)) i599 _) i599 = A ++ x :: L2 from (congrFun sp_tcT _).trans z_fu_self, sp_st_mid hnd, sp_tcu, sp_uTT] at R35
                            refine j_aload dX11_replaceTable_167 rfl rfl ?_
                            refine j_iconst (v := 3) dX11_replaceTable_169 (by decide) ?_
                            refine j_dup2 dX11_replaceTable_170 rfl rfl ?_
                            refine j_ld dX11_replaceTable_171 g35_x2 (vp_in_nI (n := 3) (by decide) (by decide)) ?_
                            refine j_iconst (v := 1) dX11_replaceTable_172 (by decide) ?_
                            refine j_iadd dX11_replaceTable_173 ?_
                            refine j_sto (w' := _) dX11_replaceTable_174 g35_x2 (vp_in_nI (n := 3) (by decide) (by decide)) rfl ?_
                            refine j_seal hx2a ?_
                            intro w36 u36
                            have fw36 := u36.fw hx2a hx2b
                            have g36_it673 := (u36.2.1 it673 (Ne.symm n_x2_it673)).trans g35_it673
                            have g36_x2 := u36.1
                            have h36 := h35.gar fw36 (by omega)
                            refine j_goto (tgt := 96) dX11_replaceTable_175 (by decide) ?_
                            refine j_widen (kc' := 2) (ks' := 11) (by omega) (by omega) ?_
                            exact j_lo2 (ih w36 _ (A ++ [(x.1, y692)]) L2 _ (z_bp (z_bp (z_bp c 1) 2) 3) _ (by rw [List.length_cons] at hf9; omega) sp_apl (by rw [sp_rtS hq692] at he; exact he) (fun p hp => hv p (List.mem_cons_of_mem _ hp)) (by rw [← sp_mid]; exact (sp_MR.bpXu hb54 R35)) (by exact hth) h36 (((((hfm.tr fm31).tr (fw32.fm (q := 59) (by omega))).tr (fw33.fm (q := 59) (by omega))).tr (fw35.fm (q := 59) (by omega))).tr (fw36.fm (q := 59) (by omega))) (by rw [List.length_append]; exact g36_it673) g36_x2) (z_q1 rfl (z_q1 rfl (z_q1 rfl (z_q1 rfl (z_q1 rfl (z_q1 rfl z_q0))))))
                          · exact absurd c_153_644 hne692
                  refine j_widen (kc' := 2) (ks' := 11) (by omega) (by omega) ?_
                  exact j_lo2 (loop96 ((sp_T S i599).length + 1) w28 _ [] (sp_T S i599) _ (z_bp (sp_C S 2) 0) _ (Nat.lt_succ_self _) sp_apl (by exact rfl) (fun p hp => ((ok.2.1 i599 (by omega)).2 p hp).2) (by rw [List.nil_append, sp_uT_id, sp_tcn hb54]; exact R2) (by exact rfl) h28 ((((fm2.le (q' := 59) (by decide)).tr (fw26.fm (q := 59) (by omega))).tr (fw27.fm (q := 59) (by omega))).tr fm28) git673 g28_x2) (z_q1 rfl (z_q1 rfl (z_q1 rfl (z_q1 rfl (z_q1 rfl (z_q1 rfl z_q0))))))
                · have hb54 : i599 = 0 := nI_inj (a := i599) (b := 0) c_54_483 (by omega) (by omega)
                  refine j_aload_n dX11_replaceTable_57 rfl rfl ?_
                  refine j_getf dX11_replaceTable_58 fX11_31 h2.m rfl ?_
                  refine j_iconst (v := 2) dX11_replaceTable_61 (by decide) ?_
                  obtain ⟨fz697, gz697, hz697⟩ := h2.co
                  refine j_aald (v := .ref (1004 + 2)) dX11_replaceTable_62 gz697 rfl rfl (vp_in_nI (n := 2) (by decide) (by decide)) (by rw [show (2 : Int32).toNatClampNeg = 2 by decide]; exact hz697 _ (by decide)) ?_
                  refine j_goto (tgt := 70) dX11_replaceTable_63 (by decide) ?_
                  refine j_astore (lo' := [(4, _), (0, _), (1, _), (2, _), (3, _)]) dX11_replaceTable_70 rfl (by decide) rfl ?_
                  refine j_aload dX11_replaceTable_72 rfl rfl ?_
                  refine j_iconst (v := 0) dX11_replaceTable_74 (by decide) ?_
                  refine j_dup2 dX11_replaceTable_75 rfl rfl ?_
                  refine j_ld dX11_replaceTable_76 (h2.cn (i := 2) (by decide)) (vp_in_nI (n := 0) (by decide) (by decide)) ?_
                  refine j_iconst (v := 1) dX11_replaceTable_77 (by decide) ?_
                  refine j_iadd dX11_replaceTable_78 ?_
                  refine j_sto (w' := _) dX11_replaceTable_79 (h2.cn (i := 2) (by decide)) (vp_in_nI (n := 0) (by decide) (by decide)) rfl ?_
                  refine j_seal (by omega) ?_
                  intro w37 u37
                  have fw37 := u37.fw (ρ := 44 + 2) (by omega) (by omega)
                  have h37 := h2.up44 (i0 := 2) (by decide) fw37 u37.1
                  rw [show (0 : Int32).toNatClampNeg = 0 by decide] at h37
                  have R37 := R2.bp (i := 2) (k := 0) (by omega) (by decide)
                  refine j_aload_n dX11_replaceTable_80 rfl rfl ?_
                  refine j_getf dX11_replaceTable_81 fX11_34 h37.m rfl ?_
                  refine j_iload_n dX11_replaceTable_84 rfl ?_
                  obtain ⟨lv701, -, lg701⟩ := z_li.cell h37.tabs
                  refine j_callV (q := (RJx4a65c, TJx4a65c, 3)) dX11_replaceTable_85 kJx4a65c_get_915e3 lX11_82 inJx4a65c_get_915e3 seJx4a65c_get_915e3 lg701 rfl (cl_get hl w37 47 1007 _ _ (i599) _ h37.tabs (z_thr3 (t := i599) (by omega))) (Nat.le_of_ble_eq_true rfl) ⟨(by show _ ≤ 2; omega), (by show _ ≤ 11; omega)⟩ rfl (Nat.le_of_ble_eq_true rfl) rfl rfl (fun _ _ h => h.elim) ?_
                  rintro _ _ ⟨rfl, hw702⟩
                  refine j_w w37 hw702 ?_
                  refine j_castS dX11_replaceTable_88 (z_w 1341 ((lwt_6_3 6).trans rfl) (by decide +kernel)) (z_li.is (h37.tb (t := i599) (by omega))) ?_
                  obtain ⟨lv705, -, lg705⟩ := z_li.cell (h37.tb (t := i599) (by omega))
                  refine j_callV (q := (RJx4a65c, TJx4a65c, 3)) dX11_replaceTable_91 kJx4a65c_iterator_32c93 lX11_162 inJx4a65c_iterator_32c93 seJx4a65c_iterator_32c93 lg705 rfl (cl_iter hl w37 58 (51 + i599) _ _ _ (h37.tb (t := i599) (by omega)) (by decide) (by omega) h37.fn) (Nat.le_of_ble_eq_true rfl) ⟨(by show _ ≤ 2; omega), (by show _ ≤ 11; omega)⟩ rfl (Nat.le_of_ble_eq_true rfl) rfl rfl (fun _ _ h => h.elim) ?_
                  rintro _ w38 ⟨it704, rfl, fw38, hita704, hitb704, hitc704, la704, git704⟩
                  have hita704 : 1000 ≤ it704 := hita704
                  have hitb704 : it704 % 64 = 58 := hitb704
                  have fm38 := fw38.fm (q := 59) (by omega)
                  have h38 := h37.gar fw38 (by omega)
                  refine j_astore (lo' := [(5, _), (4, _), (0, _), (1, _), (2, _), (3, _)]) dX11_replaceTable_94 rfl (by decide) rfl ?_
                  have loop96 : ∀ (n9 : Nat) (w39 : z_W) (s1 : z_Z) (A L : List (Nat × Int32)) (la : Int32) (c : Nat → Int32), (L.length < n9) → (A.length ≤ (A ++ L).length) → (sp_rt r n c A L = sp_ctb S i599 r n) → (∀ p ∈ L, z_vl p.2) → (sp_MR (sp_tc (sp_uT S i599 (A ++ L)) i599 c) s1) → (s1.1.1 = 0) → (z_mst w39 s1) → (z_fm 59 w w39) → (z_g w39 it704 = some (.inr (3, [.int (nI A.length), .int la, .int (z_qp s1 i599).1, .ref (1011 + i599)]))) → z_J G l mX11_replaceTable (22, 2, 11, w, Q9, (fun _ _ => False)) 96 [(0, .ref 1000), (1, .int (nI i599)), (2, .int r), (3, .int n), (4, .ref (1004 + 2)), (5, .ref it704)] [] w39 2 11 := by
                    intro n9
                    induction n9 with
                    | zero => intro w39 s1 A L la c hf9 hAl he hv hR hth hm hfm git; exact absurd hf9 (Nat.not_lt_zero _)
                    | succ n9 ih =>
                      intro w39 s1 A L la c hf9 hAl he hv hR hth hm hfm git
                      refine j_aload dX11_replaceTable_96 rfl rfl ?_
                      refine j_callF (x := ⟨"java/util/Iterator", "hasNext", "()Z"⟩) (q := (RJx35411, TJx35411, 4)) dX11_replaceTable_98 kJx35411_hasNext_aae02 ⟨(z_w 1765 ((lwt_8_1 10).trans rfl) (by decide +kernel)), (z_w 1769 ((lwt_8_1 14).trans rfl) (by decide +kernel)), inJx35411_hasNext_aae02, ⟨by decide, by decide⟩, rfl, fun U h => h.2.1⟩ git rfl (cl_hasN hl w39 _ (51 + i599) _ (A.length) _ _ (hm.tb (t := i599) (by omega)) ⟨_, git⟩ (by rw [z_rs_len, hR.tlB (by omega) ((congrFun sp_tcT _).trans z_fu_self)]; omega)) (Nat.le_of_ble_eq_true rfl) ⟨(by show _ ≤ 2; omega), (by show _ ≤ 11; omega)⟩ rfl (Nat.le_of_ble_eq_true rfl) rfl ?_
                      rintro _ _ ⟨⟨x706, rfl, hz706, hp706⟩, hw706⟩
                      refine j_w w39 hw706 ?_
                      rw [z_rs_len, hR.tlB (by omega) ((congrFun sp_tcT _).trans z_fu_self)] at hz706 hp706
                      refine j_if_eq (tgt := 178) dX11_replaceTable_103 (by decide) (fun c_103_728 => ?_) (fun c_103_728 => ?_)
                      · have hk103 : A.length = (A ++ L).length := hz706 c_103_728
                        obtain rfl : L = [] := List.eq_nil_of_length_eq_zero (by rw [List.length_append] at hk103; omega)
                        refine j_aload dX11_replaceTable_178 rfl rfl ?_
                        refine j_iconst (v := 1) dX11_replaceTable_180 (by decide) ?_
                        refine j_dup2 dX11_replaceTable_181 rfl rfl ?_
                        refine j_ld dX11_replaceTable_182 (hm.cn (i := 2) (by decide)) (vp_in_nI (n := 1) (by decide) (by decide)) ?_
                        refine j_iconst (v := 1) dX11_replaceTable_183 (by decide) ?_
                        refine j_iadd dX11_replaceTable_184 ?_
                        refine j_sto (w' := _) dX11_replaceTable_185 (hm.cn (i := 2) (by decide)) (vp_in_nI (n := 1) (by decide) (by decide)) rfl ?_
                        refine j_seal (by omega) ?_
                        intro w40 u40
                        have fw40 := u40.fw (ρ := 44 + 2) (by omega) (by omega)
                        have g40_it704 := (fun z => (u40.2.1 it704 (fun z9 => by have h9 := hitb704; rw [z9] at h9; omega)).trans z) git
                        have h40 := hm.up44 (i0 := 2) (by decide) fw40 u40.1
                        rw [show (1 : Int32).toNatClampNeg = 1 by decide] at h40
                        have R40 := sp_MR.bpTu (k := 1) hb54 hR (by decide)
                        refine j_aload_n dX11_replaceTable_186 rfl rfl ?_
                        refine j_getf dX11_replaceTable_187 fX11_34 h40.m rfl ?_
                        refine j_iload_n dX11_replaceTable_190 rfl ?_
                        obtain ⟨lv710, -, lg710⟩ := z_li.cell h40.tabs
                        refine j_callV (q := (RJx4a65c, TJx4a65c, 3)) dX11_replaceTable_191 kJx4a65c_get_915e3 lX11_82 inJx4a65c_get_915e3 seJx4a65c_get_915e3 lg710 rfl (cl_get hl w40 47 1007 _ _ (i599) _ h40.tabs (z_thr3 (t := i599) (by omega))) (Nat.le_of_ble_eq_true rfl) ⟨(by show _ ≤ 2; omega), (by show _ ≤ 11; omega)⟩ rfl (Nat.le_of_ble_eq_true rfl) rfl rfl (fun _ _ h => h.elim) ?_
                        rintro _ _ ⟨rfl, hw711⟩
                        refine j_w w40 hw711 ?_
                        refine j_castS dX11_replaceTable_194 (z_w 1341 ((lwt_6_3 6).trans rfl) (by decide +kernel)) (z_li.is (h40.tb (t := i599) (by omega))) ?_
                        obtain ⟨lv713, -, lg713⟩ := z_li.cell (h40.tb (t := i599) (by omega))
                        refine j_callV (q := (RJx4a65c, TJx4a65c, 3)) dX11_replaceTable_197 kJx4a65c_size_8abf5 lX11_86 inJx4a65c_size_8abf5 seJx4a65c_size_8abf5 lg713 rfl (cl_sizeT hl w40 (i599) ((A ++ [])) h40 R40 (by omega) ((congrFun sp_tcT _).trans z_fu_self)) (Nat.le_of_ble_eq_true rfl) ⟨(by show _ ≤ 2; omega), (by show _ ≤ 11; omega)⟩ rfl (Nat.le_of_ble_eq_true rfl) rfl rfl (fun _ _ h => h.elim) ?_
                        rintro _ _ ⟨rfl, hw714⟩
                        refine j_w w40 hw714 ?_
                        have hz714 : ((A ++ [])).length ≤ 20 := R40.l20 h40 (t := i599) (by omega) ((congrFun sp_tcT _).trans z_fu_self)
                        refine j_iret dX11_replaceTable_200 rfl rfl ?_ (by show _ ≤ 2; omega) (by show _ ≤ 11; omega)
                        refine cast (congrFun (congrFun hQ9 _) _) ?_
                        rw [List.append_nil] at R40
                        try rw [ei599]
                        refine ⟨_, _, rfl, (hfm.tr (fw40.fm (q := 59) (by omega))), h40, sp_X0 ?_ hth (by unfold sp_ctbS; rw [← he]; exact R40) (by rw [← he, List.append_nil]; rfl)⟩
                        first | (first | (refine sp_k32_0 ?_ ?_ <;> (first | (with_reducible assumption) | (refine Or.inl ?_; (with_reducible assumption)) | (refine Or.inr ?_; (with_reducible assumption)) | (refine Or.inr (Or.inl ?_); (with_reducible assumption)) | (refine Or.inr (Or.inr ?_); (with_reducible assumption)) | (refine Or.inr (Or.inr (Or.inl ?_)); (with_reducible assumption)) | (refine Or.inr (Or.inr (Or.inr ?_)); (with_reducible assumption)) | (refine fun z => Or.elim z ?_ ?_ <;> (with_reducible assumption)) | (refine fun z => Or.elim z ?_ (fun z => Or.elim z ?_ ?_) <;> (with_reducible assumption)) | (refine fun z => Or.elim z ?_ (fun z => Or.elim z ?_ (fun z => Or.elim z ?_ ?_)) <;> (with_reducible assumption)) | (refine fun z => Or.elim z (fun z9 => z9 ?_) ?_ <;> (first | (with_reducible assumption) | (refine Or.inl ?_; (with_reducible assumption)) | (refine Or.inr (Or.inl ?_); (with_reducible assumption)) | (refine Or.inr (Or.inr ?_); (with_reducible assumption)) | (refine Or.inr (Or.inr (Or.inl ?_)); (with_reducible assumption)) | (refine Or.inr (Or.inr (Or.inr ?_)); (with_reducible assumption)))) | (refine Or.inl (fun z => Or.elim z ?_ (fun z => Or.elim z ?_ ?_)) <;> (with_reducible assumption)) | (refine Or.inl (fun z => Or.elim z ?_ (fun z => Or.elim z ?_ (fun z => Or.elim z ?_ ?_))) <;> (with_reducible assumption))))) | (first | (refine sp_k32_0 ?_ ?_ <;> (first | assumption | (refine Or.inl ?_; assumption) | (refine Or.inr ?_; assumption) | (refine Or.inr (Or.inl ?_); assumption) | (refine Or.inr (Or.inr ?_); assumption) | (refine Or.inr (Or.inr (Or.inl ?_)); assumption) | (refine Or.inr (Or.inr (Or.inr ?_)); assumption) | (refine fun z => Or.elim z ?_ ?_ <;> assumption) | (refine fun z => Or.elim z ?_ (fun z => Or.elim z ?_ ?_) <;> assumption) | (refine fun z => Or.elim z ?_ (fun z => Or.elim z ?_ (fun z => Or.elim z ?_ ?_)) <;> assumption) | (refine fun z => Or.elim z (fun z9 => z9 ?_) ?_ <;> (first | assumption | (refine Or.inl ?_; assumption) | (refine Or.inr (Or.inl ?_); assumption) | (refine Or.inr (Or.inr ?_); assumption) | (refine Or.inr (Or.inr (Or.inl ?_)); assumption) | (refine Or.inr (Or.inr (Or.inr ?_)); assumption))) | (refine Or.inl (fun z => Or.elim z ?_ (fun z => Or.elim z ?_ ?_)) <;> assumption) | (refine Or.inl (fun z => Or.elim z ?_ (fun z => Or.elim z ?_ (fun z => Or.elim z ?_ ?_))) <;> assumption))))
                      · have hk103 : A.length < (A ++ L).length := hp706 c_103_728
                        obtain ⟨x, L2, rfl⟩ : ∃ x L2, L = x :: L2 := by
                          cases L with
                          | nil => rw [List.append_nil] at hk103; exact absurd hk103 (Nat.lt_irrefl _)
                          | cons x L2 => exact ⟨x, L2, rfl⟩
                        refine j_aload dX11_replaceTable_106 rfl rfl ?_
                        obtain ⟨p715, hp715, hq715, hk715, hv0715, hv1715, hv2715⟩ := hR.prB hm (t := i599) (k := A.length) (by omega) ((congrFun sp_tcT _).trans z_fu_self) sp_mid?
                        refine j_callF (x := ⟨"java/util/Iterator", "next", "()Ljava/lang/Object;"⟩) (q := (RJx35411, TJx35411, 4)) dX11_replaceTable_108 kJx35411_next_0502b ⟨(z_w 1775 ((lwt_8_1 20).trans rfl) (by decide +kernel)), (z_w 1778 ((lwt_8_1 23).trans rfl) (by decide +kernel)), inJx35411_next_0502b, ⟨by decide, by decide⟩, rfl, fun U h => h.2.2.1⟩ git rfl (cl_next hl w39 58 it704 (51 + i599) _ (A.length) _ _ _ (hm.tb (t := i599) (by omega)) ⟨_, git⟩ hq715 hita704 hitb704 (by omega)) (Nat.le_of_ble_eq_true rfl) ⟨(by show _ ≤ 2; omega), (by show _ ≤ 11; omega)⟩ rfl (Nat.le_of_ble_eq_true rfl) rfl ?_
                        rintro _ w41 ⟨rfl, fw41, la41, git41⟩
                        have fm41 := fw41.fm (q := 59) (by omega)
                        have h41 := hm.gar fw41 (by omega)
                        refine j_castS dX11_replaceTable_113 (z_w 1663 ((lwt_7_5 28).trans rfl) (by decide +kernel)) (z_isA ((h41.pr (t := i599) (by omega)).1 p715 hp715).2) ?_
                        refine j_astore (lo' := [(6, _), (0, _), (1, _), (2, _), (3, _), (4, _), (5, _)]) dX11_replaceTable_116 rfl (by decide) rfl ?_
                        refine j_aload dX11_replaceTable_118 rfl rfl ?_
                        refine j_iconst (v := 1) dX11_replaceTable_120 (by decide) ?_
                        refine j_dup2 dX11_replaceTable_121 rfl rfl ?_
                        refine j_ld dX11_replaceTable_122 (h41.cn (i := 2) (by decide)) (vp_in_nI (n := 1) (by decide) (by decide)) ?_
                        refine j_iconst (v := 1) dX11_replaceTable_123 (by decide) ?_
                        refine j_iadd dX11_replaceTable_124 ?_
                        refine j_sto (w' := _) dX11_replaceTable_125 (h41.cn (i := 2) (by decide)) (vp_in_nI (n := 1) (by decide) (by decide)) rfl ?_
                        refine j_seal (by omega) ?_
                        intro w42 u42
                        have fw42 := u42.fw (ρ := 44 + 2) (by omega) (by omega)
                        have g42_it704 := (fun z => (u42.2.1 it704 (fun z9 => by have h9 := hitb704; rw [z9] at h9; omega)).trans z) git41
                        have h42 := h41.up44 (i0 := 2) (by decide) fw42 u42.1
                        rw [show (1 : Int32).toNatClampNeg = 1 by decide] at h42
                        have R42 := sp_MR.bpTu (k := 1) hb54 hR (by decide)
                        refine j_aload dX11_replaceTable_126 rfl rfl ?_
                        refine j_iconst (v := 2) dX11_replaceTable_128 (by decide) ?_
                        refine j_dup2 dX11_replaceTable_129 rfl rfl ?_
                        refine j_ld dX11_replaceTable_130 (h42.cn (i := 2) (by decide)) (vp_in_nI (n := 2) (by decide) (by decide)) ?_
                        refine j_iconst (v := 1) dX11_replaceTable_131 (by decide) ?_
                        refine j_iadd dX11_replaceTable_132 ?_
                        refine j_sto (w' := _) dX11_replaceTable_133 (h42.cn (i := 2) (by decide)) (vp_in_nI (n := 2) (by decide) (by decide)) rfl ?_
                        refine j_seal (by omega) ?_
                        intro w43 u43
                        have fw43 := u43.fw (ρ := 44 + 2) (by omega) (by omega)
                        have g43_it704 := (fun z => (u43.2.1 it704 (fun z9 => by have h9 := hitb704; rw [z9] at h9; omega)).trans z) g42_it704
                        have h43 := h42.up44 (i0 := 2) (by decide) fw43 u43.1
                        rw [show (2 : Int32).toNatClampNeg = 2 by decide] at h43
                        have R43 := sp_MR.bpTu (k := 2) hb54 R42 (by decide)
                        refine j_iload_n dX11_replaceTable_134 rfl ?_
                        refine j_aload dX11_replaceTable_135 rfl rfl ?_
                        refine j_iconst (v := 0) dX11_replaceTable_137 (by decide) ?_
                        refine j_ld dX11_replaceTable_138 ((h43.pr (t := i599) (by omega)).1 p715 hp715).2 (vp_in_nI (n := 0) (by decide) (by decide)) ?_
                        refine j_top (congrArg Value.int (show _ = nI x.1 from by rw [show (0 : Int32).toNatClampNeg = 0 from by decide]; exact hv0715)) ?_
                        refine j_aload dX11_replaceTable_139 rfl rfl ?_
                        refine j_iconst (v := 1) dX11_replaceTable_141 (by decide) ?_
                        refine j_ld dX11_replaceTable_142 ((h43.pr (t := i599) (by omega)).1 p715 hp715).2 (vp_in_nI (n := 1) (by decide) (by decide)) ?_
                        refine j_top (congrArg Value.int (show _ = x.2 from by rw [show (1 : Int32).toNatClampNeg = 1 from by decide]; exact hv1715)) ?_
                        refine j_iload_n dX11_replaceTable_143 rfl ?_
                        refine j_callS dX11_replaceTable_144 kX11_rule lX11_115 stX11_rule (cm_rule_r hl w43 _ _ _ _ (hv _ List.mem_cons_self).2 (sp_vl (by assumption)).2) (Nat.le_of_ble_eq_true rfl) ⟨(by show _ ≤ 2; omega), (by show _ ≤ 11; omega)⟩ rfl (Nat.le_of_ble_eq_true rfl) rfl rfl (fun _ _ h => h.elim) ?_
                        rintro _ _ ⟨⟨rfl, hq723⟩ | ⟨y723, rfl, hq723, hne723⟩, hw723⟩
                        · refine j_w w43 hw723 ?_
                          refine j_istore (lo' := [(7, _), (6, _), (0, _), (1, _), (2, _), (3, _), (4, _), (5, _)]) dX11_replaceTable_147 (by decide) rfl ?_
                          refine j_iload dX11_replaceTable_149 rfl ?_
                          refine j_ldc dX11_replaceTable_151 kcX11_67 ?_
                          refine j_icmp_ne (tgt := 161) dX11_replaceTable_153 (by decide) (fun c_153_821 => ?_) (fun c_153_821 => ?_)
                          · exact absurd c_153_821 (by decide)
                          · refine j_aload_n dX11_replaceTable_156 rfl rfl ?_
                            refine j_callV (q := (RX11, TX11, 8)) dX11_replaceTable_157 kX11_nine lX11_105 inX11_nine seX11_nine h43.m rfl (cm_nine hl w43 _ h43) (Nat.le_of_ble_eq_true rfl) ⟨(by show _ ≤ 2; omega), (by show _ ≤ 11; omega)⟩ rfl (Nat.le_of_ble_eq_true rfl) rfl rfl (fun _ _ h => h.elim) ?_
                            rintro _ w44 ⟨rfl, fm44, h44⟩
                            have g44_it704 := fm44.g hita704 (by rw [hitb704]; decide) g43_it704
                            have R44 := R43.ni
                            refine j_iret dX11_replaceTable_160 rfl rfl ?_ (by show _ ≤ 2; omega) (by show _ ≤ 11; omega)
                            refine cast (congrFun (congrFun hQ9 _) _) ?_
                            rw [sp_rtN hq723] at he
                            try rw [ei599]
                            refine ⟨_, _, rfl, ((((hfm.tr fm41).tr (fw42.fm (q := 59) (by omega))).tr (fw43.fm (q := 59) (by omega))).tr (fm44.le (q' := 59) (by decide))), h44, sp_X0 ?_ hth (by unfold sp_ctbS; rw [← he]; exact R44) (by rw [← he]; rfl)⟩
                            first | (first | (refine sp_k32_0 ?_ ?_ <;> (first | (with_reducible assumption) | (refine Or.inl ?_; (with_reducible assumption)) | (refine Or.inr ?_; (with_reducible assumption)) | (refine Or.inr (Or.inl ?_); (with_reducible assumption)) | (refine Or.inr (Or.inr ?_); (with_reducible assumption)) | (refine Or.inr (Or.inr (Or.inl ?_)); (with_reducible assumption)) | (refine Or.inr (Or.inr (Or.inr ?_)); (with_reducible assumption)) | (refine fun z => Or.elim z ?_ ?_ <;> (with_reducible assumption)) | (refine fun z => Or.elim z ?_ (fun z => Or.elim z ?_ ?_) <;> (with_reducible assumption)) | (refine fun z => Or.elim z ?_ (fun z => Or.elim z ?_ (fun z => Or.elim z ?_ ?_)) <;> (with_reducible assumption)) | (refine fun z => Or.elim z (fun z9 => z9 ?_) ?_ <;> (first | (with_reducible assumption) | (refine Or.inl ?_; (with_reducible assumption)) | (refine Or.inr (Or.inl ?_); (with_reducible assumption)) | (refine Or.inr (Or.inr ?_); (with_reducible assumption)) | (refine Or.inr (Or.inr (Or.inl ?_)); (with_reducible assumption)) | (refine Or.inr (Or.inr (Or.inr ?_)); (with_reducible assumption)))) | (refine Or.inl (fun z => Or.elim z ?_ (fun z => Or.elim z ?_ ?_)) <;> (with_reducible assumption)) | (refine Or.inl (fun z => Or.elim z ?_ (fun z => Or.elim z ?_ (fun z => Or.elim z ?_ ?_))) <;> (with_reducible assumption))))) | (first | (refine sp_k32_0 ?_ ?_ <;> (first | assumption | (refine Or.inl ?_; assumption) | (refine Or.inr ?_; assumption) | (refine Or.inr (Or.inl ?_); assumption) | (refine Or.inr (Or.inr ?_); assumption) | (refine Or.inr (Or.inr (Or.inl ?_)); assumption) | (refine Or.inr (Or.inr (Or.inr ?_)); assumption) | (refine fun z => Or.elim z ?_ ?_ <;> assumption) | (refine fun z => Or.elim z ?_ (fun z => Or.elim z ?_ ?_) <;> assumption) | (refine fun z => Or.elim z ?_ (fun z => Or.elim z ?_ (fun z => Or.elim z ?_ ?_)) <;> assumption) | (refine fun z => Or.elim z (fun z9 => z9 ?_) ?_ <;> (first | assumption | (refine Or.inl ?_; assumption) | (refine Or.inr (Or.inl ?_); assumption) | (refine Or.inr (Or.inr ?_); assumption) | (refine Or.inr (Or.inr (Or.inl ?_)); assumption) | (refine Or.inr (Or.inr (Or.inr ?_)); assumption))) | (refine Or.inl (fun z => Or.elim z ?_ (fun z => Or.elim z ?_ ?_)) <;> assumption) | (refine Or.inl (fun z => Or.elim z ?_ (fun z => Or.elim z ?_ (fun z => Or.elim z ?_ ?_))) <;> assumption))))
                        · refine j_w w43 hw723 ?_
                          refine j_istore (lo' := [(7, _), (6, _), (0, _), (1, _), (2, _), (3, _), (4, _), (5, _)]) dX11_replaceTable_147 (by decide) rfl ?_
                          refine j_iload dX11_replaceTable_149 rfl ?_
                          refine j_ldc dX11_replaceTable_151 kcX11_67 ?_
                          refine j_icmp_ne (tgt := 161) dX11_replaceTable_153 (by decide) (fun c_153_838 => ?_) (fun c_153_838 => ?_)
                          · refine j_aload dX11_replaceTable_161 rfl rfl ?_
                            refine j_iconst (v := 1) dX11_replaceTable_163 (by decide) ?_
                            refine j_iload dX11_replaceTable_164 rfl ?_
                            refine j_sto (w' := _) dX11_replaceTable_166 ((h43.pr (t := i599) (by omega)).1 p715 hp715).2 (vp_in_nI (n := 1) (by decide) (by decide)) rfl ?_
                            have hnd : (sp_ks (A ++ x :: L2)).Nodup := R43.kd h43 (t := i599) (by omega) ((congrFun sp_tcT _).trans z_fu_self)
                            refine j_seal (((h43.pr (t := i599) (by omega)).1 p715 hp715).1.1) ?_
                            intro w45 u45
                            have hpp45 := ((h43.pr (t := i599) (by omega)).1 p715 hp715).1
                            have hpq45 := hpp45.2.1
                            have g45_it704 := (u45.2.1 it704 (by omega)).trans g43_it704
                            have fw45 := u45.fw (ρ := 14 + i599) hpp45.1 hpp45.2.1
                            have h45 := h43.up14 (t0 := i599) (by omega) hp715 u45 (z_ui_ne (by decide))
                            have R45 := R43.uk (t0 := i599) (F := z_ui (z_qk _ p715) ((1 : Int32).toNatClampNeg) y723) (v := y723) h43 (by omega) hp715 (z_ui_ne (by decide)) (by rw [show (1 : Int32).toNatClampNeg = 1 from by decide]; exact z_ui_self)
                            rw [hv0715, z_cla (by omega)] at R45
                            rw [show sp_T (sp_tc (sp_uT S i599 (A ++ x :: L2)) i599 _) i599 = A ++ x :: L2 from (congrFun sp_tcT _).trans z_fu_self, sp_st_mid hnd, sp_tcu, sp_uTT] at R45
                            refine j_aload dX11_replaceTable_167 rfl rfl ?_
                            refine j_iconst (v := 3) dX11_replaceTable_169 (by decide) ?_
                            refine j_dup2 dX11_replaceTable_170 rfl rfl ?_
                            refine j_ld dX11_replaceTable_171 (h45.cn (i := 2) (by decide)) (vp_in_nI (n := 3) (by decide) (by decide)) ?_
                            refine j_iconst (v := 1) dX11_replaceTable_172 (by decide) ?_
                            refine j_iadd dX11_replaceTable_173 ?_
                            refine j_sto (w' := _) dX11_replaceTable_174 (h45.cn (i := 2) (by decide)) (vp_in_nI (n := 3) (by decide) (by decide)) rfl ?_
                            refine j_seal (by omega) ?_
                            intro w46 u46
                            have fw46 := u46.fw (ρ := 44 + 2) (by omega) (by omega)
                            have g46_it704 := (fun z => (u46.2.1 it704 (fun z9 => by have h9 := hitb704; rw [z9] at h9; omega)).trans z) g45_it704
                            have h46 := h45.up44 (i0 := 2) (by decide) fw46 u46.1
                            rw [show (3 : Int32).toNatClampNeg = 3 by decide] at h46
                            have R46 := sp_MR.bpTu (k := 3) hb54 R45 (by decide)
                            refine j_goto (tgt := 96) dX11_replaceTable_175 (by decide) ?_
                            refine j_widen (kc' := 2) (ks' := 11) (by omega) (by omega) ?_
                            exact j_lo2 (ih w46 _ (A ++ [(x.1, y723)]) L2 _ (z_bp (z_bp (z_bp c 1) 2) 3) (by rw [List.length_cons] at hf9; omega) sp_apl (by rw [sp_rtS hq723] at he; exact he) (fun p hp => hv p (List.mem_cons_of_mem _ hp)) (by rw [← sp_mid]; exact R46) (by exact hth) h46 (((((hfm.tr fm41).tr (fw42.fm (q := 59) (by omega))).tr (fw43.fm (q := 59) (by omega))).tr (fw45.fm (q := 59) (by omega))).tr (fw46.fm (q := 59) (by omega))) (by rw [List.length_append]; exact g46_it704)) (z_q1 rfl (z_q1 rfl (z_q1 rfl (z_q1 rfl (z_q1 rfl (z_q1 rfl z_q0))))))
                          · exact absurd c_153_838 hne723
                  refine j_widen (kc' := 2) (ks' := 11) (by omega) (by omega) ?_
                  exact j_lo2 (loop96 ((sp_T S i599).length + 1) w38 _ [] (sp_T S i599) _ (z_bp (sp_C S 2) 0) (Nat.lt_succ_self _) sp_apl (by exact rfl) (fun p hp => ((ok.2.1 i599 (by omega)).2 p hp).2) (by rw [List.nil_append, sp_uT_id, sp_tc0 hb54]; exact R37) (by exact rfl) h38 (((fm2.le (q' := 59) (by decide)).tr (fw37.fm (q := 59) (by omega))).tr fm38) git704) (z_q1 rfl (z_q1 rfl (z_q1 rfl (z_q1 rfl (z_q1 rfl (z_q1 rfl z_q0))))))
              · exact absurd c_48_481 (by decide)
            · exact absurd c_36_475 (by decide)
        · refine j_iload_n dX11_replaceTable_22 rfl ?_
          refine j_iconst (v := 4) dX11_replaceTable_23 (by decide) ?_
          refine j_icmp_eq (tgt := 32) dX11_replaceTable_24 (by decide) (fun c_24_878 => ?_) (fun c_24_878 => ?_)
          · refine j_iload_n dX11_replaceTable_32 rfl ?_
            refine j_callS dX11_replaceTable_33 kX11_isNoValue lX11_79 stX11_isNoValue (cm_isNoValue_r hl w2 _) (Nat.le_of_ble_eq_true rfl) ⟨(by show _ ≤ 2; omega), (by show _ ≤ 11; omega)⟩ rfl (Nat.le_of_ble_eq_true rfl) rfl rfl (fun _ _ h => h.elim) ?_
            rintro _ _ ⟨⟨rfl, hno728⟩ | ⟨rfl, hye728⟩, hw728⟩
            · refine j_w w2 hw728 ?_
              refine j_if_eq (tgt := 43) dX11_replaceTable_36 (by decide) (fun c_36_883 => ?_) (fun c_36_883 => ?_)
              · exact absurd c_36_883 (by decide)
              · refine j_iconst (v := 1) dX11_replaceTable_39 (by decide) ?_
                refine j_goto (tgt := 44) dX11_replaceTable_40 (by decide) ?_
                refine j_iconst (v := 2) dX11_replaceTable_44 (by decide) ?_
                refine j_callV (q := (RX11, TX11, 8)) dX11_replaceTable_45 kX11_refuse lX11_52 inX11_refuse seX11_refuse h2.m rfl (cm_refuse1 hl w2 _ _ h2 rfl (by decide)) (Nat.le_of_ble_eq_true rfl) ⟨(by show _ ≤ 2; omega), (by show _ ≤ 11; omega)⟩ rfl (Nat.le_of_ble_eq_true rfl) rfl rfl (fun _ _ h => h.elim) ?_
                rintro _ w47 ⟨rfl, fm47, h47⟩
                have R47 := R2.th (k := 2)
                refine j_if_eq (tgt := 53) dX11_replaceTable_48 (by decide) (fun c_48_891 => ?_) (fun c_48_891 => ?_)
                · exact absurd c_48_891 (by decide)
                · refine j_iconst (v := 0) dX11_replaceTable_51 (by decide) ?_
                  refine j_iret dX11_replaceTable_52 rfl rfl ?_ (by show _ ≤ 2; omega) (by show _ ≤ 11; omega)
                  refine cast (congrFun (congrFun hQ9 _) _) ?_
                  try rw [ei599]
                  refine ⟨_, _, rfl, ((fm2.le (q' := 59) (by decide)).tr (fm47.le (q' := 59) (by decide))), h47, sp_X1 (k := 2) ?_ (by decide) rfl R47⟩
                  first | (first | (refine sp_k32_2 ?_ ?_ <;> (first | (with_reducible assumption) | (refine Or.inl ?_; (with_reducible assumption)) | (refine Or.inr ?_; (with_reducible assumption)) | (refine Or.inr (Or.inl ?_); (with_reducible assumption)) | (refine Or.inr (Or.inr ?_); (with_reducible assumption)) | (refine Or.inr (Or.inr (Or.inl ?_)); (with_reducible assumption)) | (refine Or.inr (Or.inr (Or.inr ?_)); (with_reducible assumption)) | (refine fun z => Or.elim z ?_ ?_ <;> (with_reducible assumption)) | (refine fun z => Or.elim z ?_ (fun z => Or.elim z ?_ ?_) <;> (with_reducible assumption)) | (refine fun z => Or.elim z ?_ (fun z => Or.elim z ?_ (fun z => Or.elim z ?_ ?_)) <;> (with_reducible assumption)) | (refine fun z => Or.elim z (fun z9 => z9 ?_) ?_ <;> (first | (with_reducible assumption) | (refine Or.inl ?_; (with_reducible assumption)) | (refine Or.inr (Or.inl ?_); (with_reducible assumption)) | (refine Or.inr (Or.inr ?_); (with_reducible assumption)) | (refine Or.inr (Or.inr (Or.inl ?_)); (with_reducible assumption)) | (refine Or.inr (Or.inr (Or.inr ?_)); (with_reducible assumption)))) | (refine Or.inl (fun z => Or.elim z ?_ (fun z => Or.elim z ?_ ?_)) <;> (with_reducible assumption)) | (refine Or.inl (fun z => Or.elim z ?_ (fun z => Or.elim z ?_ (fun z => Or.elim z ?_ ?_))) <;> (with_reducible assumption))))) | (first | (refine sp_k32_2 ?_ ?_ <;> (first | assumption | (refine Or.inl ?_; assumption) | (refine Or.inr ?_; assumption) | (refine Or.inr (Or.inl ?_); assumption) | (refine Or.inr (Or.inr ?_); assumption) | (refine Or.inr (Or.inr (Or.inl ?_)); assumption) | (refine Or.inr (Or.inr (Or.inr ?_)); assumption) | (refine fun z => Or.elim z ?_ ?_ <;> assumption) | (refine fun z => Or.elim z ?_ (fun z => Or.elim z ?_ ?_) <;> assumption) | (refine fun z => Or.elim z ?_ (fun z => Or.elim z ?_ (fun z => Or.elim z ?_ ?_)) <;> assumption) | (refine fun z => Or.elim z (fun z9 => z9 ?_) ?_ <;> (first | assumption | (refine Or.inl ?_; assumption) | (refine Or.inr (Or.inl ?_); assumption) | (refine Or.inr (Or.inr ?_); assumption) | (refine Or.inr (Or.inr (Or.inl ?_)); assumption) | (refine Or.inr (Or.inr (Or.inr ?_)); assumption))) | (refine Or.inl (fun z => Or.elim z ?_ (fun z => Or.elim z ?_ ?_)) <;> assumption) | (refine Or.inl (fun z => Or.elim z ?_ (fun z => Or.elim z ?_ (fun z => Or.elim z ?_ ?_))) <;> assumption))))
            · refine j_w w2 hw728 ?_
              refine j_if_eq (tgt := 43) dX11_replaceTable_36 (by decide) (fun c_36_900 => ?_) (fun c_36_900 => ?_)
              · refine j_iconst (v := 0) dX11_replaceTable_43 (by decide) ?_
                refine j_iconst (v := 2) dX11_replaceTable_44 (by decide) ?_
                refine j_callV (q := (RX11, TX11, 8)) dX11_replaceTable_45 kX11_refuse lX11_52 inX11_refuse seX11_refuse h2.m rfl (cm_refuse0 hl w2 _ _ h2 rfl) (Nat.le_of_ble_eq_true rfl) ⟨(by show _ ≤ 2; omega), (by show _ ≤ 11; omega)⟩ rfl (Nat.le_of_ble_eq_true rfl) rfl rfl (fun _ _ h => h.elim) ?_
                rintro _ _ ⟨rfl, hw729⟩
                refine j_w w2 hw729 ?_
                refine j_if_eq (tgt := 53) dX11_replaceTable_48 (by decide) (fun c_48_906 => ?_) (fun c_48_906 => ?_)
                · refine j_iload_n dX11_replaceTable_53 rfl ?_
                  refine j_if_ne (tgt := 66) dX11_replaceTable_54 (by decide) (fun c_54_908 => ?_) (fun c_54_908 => ?_)
                  · have hb54 : ¬ i599 = 0 := fun z => c_54_908 (show nI i599 = nI 0 by rw [z])
                    refine j_bipush (v := 7) dX11_replaceTable_66 (by decide) ?_
                    obtain ⟨x3, hx3a, hx3b, hx3c⟩ := z_fresh (57) (by decide) h2.fn
                    refine j_newa (kd := 0) (N := 7) (w' := _) (n := x3) dX11_replaceTable_68 rfl rfl arc_int ⟨rfl, fun _ _ h => h⟩ (by decide) rfl (by decide) rfl (z_alW hx3c hx3a) (Nat.le_of_ble_eq_true rfl) (Nat.le_of_ble_eq_true rfl) ?_
                    refine j_seal hx3a ?_
                    intro w48 u48
                    have fw48 := u48.fw hx3a hx3b
                    have g48_x3 := u48.1
                    have h48 := h2.gar fw48 (by omega)
                    refine j_astore (lo' := [(4, _), (0, _), (1, _), (2, _), (3, _)]) dX11_replaceTable_70 rfl (by decide) rfl ?_
                    refine j_aload dX11_replaceTable_72 rfl rfl ?_
                    refine j_iconst (v := 0) dX11_replaceTable_74 (by decide) ?_
                    refine j_dup2 dX11_replaceTable_75 rfl rfl ?_
                    refine j_ld dX11_replaceTable_76 g48_x3 (vp_in_nI (n := 0) (by decide) (by decide)) ?_
                    refine j_iconst (v := 1) dX11_replaceTable_77 (by decide) ?_
                    refine j_iadd dX11_replaceTable_78 ?_
                    refine j_sto (w' := _) dX11_replaceTable_79 g48_x3 (vp_in_nI (n := 0) (by decide) (by decide)) rfl ?_
                    refine j_seal hx3a ?_
                    intro w49 u49
                    have fw49 := u49.fw hx3a hx3b
                    have g49_x3 := u49.1
                    have h49 := h48.gar fw49 (by omega)
                    refine j_aload_n dX11_replaceTable_80 rfl rfl ?_
                    refine j_getf dX11_replaceTable_81 fX11_34 h49.m rfl ?_
                    refine j_iload_n dX11_replaceTable_84 rfl ?_
                    obtain ⟨lv734, -, lg734⟩ := z_li.cell h49.tabs
                    refine j_callV (q := (RJx4a65c, TJx4a65c, 3)) dX11_replaceTable_85 kJx4a65c_get_915e3 lX11_82 inJx4a65c_get_915e3 seJx4a65c_get_915e3 lg734 rfl (cl_get hl w49 47 1007 _ _ (i599) _ h49.tabs (z_thr3 (t := i599) (by omega))) (Nat.le_of_ble_eq_true rfl) ⟨(by show _ ≤ 2; omega), (by show _ ≤ 11; omega)⟩ rfl (Nat.le_of_ble_eq_true rfl) rfl rfl (fun _ _ h => h.elim) ?_
                    rintro _ _ ⟨rfl, hw735⟩
                    refine j_w w49 hw735 ?_
                    refine j_castS dX11_replaceTable_88 (z_w 1341 ((lwt_6_3 6).trans rfl) (by decide +kernel)) (z_li.is (h49.tb (t := i599) (by omega))) ?_
                    obtain ⟨lv738, -, lg738⟩ := z_li.cell (h49.tb (t := i599) (by omega))
                    refine j_callV (q := (RJx4a65c, TJx4a65c, 3)) dX11_replaceTable_91 kJx4a65c_iterator_32c93 lX11_162 inJx4a65c_iterator_32c93 seJx4a65c_iterator_32c93 lg738 rfl (cl_iter hl w49 58 (51 + i599) _ _ _ (h49.tb (t := i599) (by omega)) (by decide) (by omega) h49.fn) (Nat.le_of_ble_eq_true rfl) ⟨(by show _ ≤ 2; omega), (by show _ ≤ 11; omega)⟩ rfl (Nat.le_of_ble_eq_true rfl) rfl rfl (fun _ _ h => h.elim) ?_
                    rintro _ w50 ⟨it737, rfl, fw50, hita737, hitb737, hitc737, la737, git737⟩
                    have hita737 : 1000 ≤ it737 := hita737
                    have hitb737 : it737 % 64 = 58 := hitb737
                    have n_x3_it737 := z_neF hitc737 g49_x3
                    have g50_x3 := fw50.g (Or.inr (by omega)) g49_x3
                    have fm50 := fw50.fm (q := 59) (by omega)
                    have h50 := h49.gar fw50 (by omega)
                    refine j_astore (lo' := [(5, _), (4, _), (0, _), (1, _), (2, _), (3, _)]) dX11_replaceTable_94 rfl (by decide) rfl ?_
                    have loop96 : ∀ (n9 : Nat) (w51 : z_W) (s1 : z_Z) (A L : List (Nat × Int32)) (la : Int32) (c : Nat → Int32) (F : Nat → Int32), (L.length < n9) → (A.length ≤ (A ++ L).length) → (sp_rt r n c A L = sp_ctb S i599 r n) → (∀ p ∈ L, z_vl p.2) → (sp_MR (sp_tc (sp_uT S i599 (A ++ L)) i599 c) s1) → (s1.1.1 = 0) → (z_mst w51 s1) → (z_fm 59 w w51) → (z_g w51 it737 = some (.inr (3, [.int (nI A.length), .int la, .int (z_qp s1 i599).1, .ref (1011 + i599)]))) → (z_g w51 x3 = some (.inl (0, 7, fun j => .int (F j)))) → z_J G l mX11_replaceTable (22, 2, 11, w, Q9, (fun _ _ => False)) 96 [(0, .ref 1000), (1, .int (nI i599)), (2, .int r), (3, .int n), (4, .ref x3), (5, .ref it737)] [] w51 2 11 := by
                      intro n9
                      induction n9 with
                      | zero => intro w51 s1 A L la c F hf9 hAl he hv hR hth hm hfm git gx; exact absurd hf9 (Nat.not_lt_zero _)
                      | succ n9 ih =>
                        intro w51 s1 A L la c F hf9 hAl he hv hR hth hm hfm git gx
                        refine j_aload dX11_replaceTable_96 rfl rfl ?_
                        refine j_callF (x := ⟨"java/util/Iterator", "hasNext", "()Z"⟩) (q := (RJx35411, TJx35411, 4)) dX11_replaceTable_98 kJx35411_hasNext_aae02 ⟨(z_w 1765 ((lwt_8_1 10).trans rfl) (by decide +kernel)), (z_w 1769 ((lwt_8_1 14).trans rfl) (by decide +kernel)), inJx35411_hasNext_aae02, ⟨by decide, by decide⟩, rfl, fun U h => h.2.1⟩ git rfl (cl_hasN hl w51 _ (51 + i599) _ (A.length) _ _ (hm.tb (t := i599) (by omega)) ⟨_, git⟩ (by rw [z_rs_len, hR.tlB (by omega) ((congrFun sp_tcT _).trans z_fu_self)]; omega)) (Nat.le_of_ble_eq_true rfl) ⟨(by show _ ≤ 2; omega), (by show _ ≤ 11; omega)⟩ rfl (Nat.le_of_ble_eq_true rfl) rfl ?_
                        rintro _ _ ⟨⟨x739, rfl, hz739, hp739⟩, hw739⟩
                        refine j_w w51 hw739 ?_
                        rw [z_rs_len, hR.tlB (by omega) ((congrFun sp_tcT _).trans z_fu_self)] at hz739 hp739
                        refine j_if_eq (tgt := 178) dX11_replaceTable_103 (by decide) (fun c_103_960 => ?_) (fun c_103_960 => ?_)
                        · have hk103 : A.length = (A ++ L).length := hz739 c_103_960
                          obtain rfl : L = [] := List.eq_nil_of_length_eq_zero (by rw [List.length_append] at hk103; omega)
                          refine j_aload dX11_replaceTable_178 rfl rfl ?_
                          refine j_iconst (v := 1) dX11_replaceTable_180 (by decide) ?_
                          refine j_dup2 dX11_replaceTable_181 rfl rfl ?_
                          refine j_ld dX11_replaceTable_182 gx (vp_in_nI (n := 1) (by decide) (by decide)) ?_
                          refine j_iconst (v := 1) dX11_replaceTable_183 (by decide) ?_
                          refine j_iadd dX11_replaceTable_184 ?_
                          refine j_sto (w' := _) dX11_replaceTable_185 gx (vp_in_nI (n := 1) (by decide) (by decide)) rfl ?_
                          refine j_seal hx3a ?_
                          intro w52 u52
                          have fw52 := u52.fw hx3a hx3b
                          have g52_it737 := (u52.2.1 it737 (Ne.symm n_x3_it737)).trans git
                          have g52_x3 := u52.1
                          have h52 := hm.gar fw52 (by omega)
                          refine j_aload_n dX11_replaceTable_186 rfl rfl ?_
                          refine j_getf dX11_replaceTable_187 fX11_34 h52.m rfl ?_
                          refine j_iload_n dX11_replaceTable_190 rfl ?_
                          obtain ⟨lv743, -, lg743⟩ := z_li.cell h52.tabs
                          refine j_callV (q := (RJx4a65c, TJx4a65c, 3)) dX11_replaceTable_191 kJx4a65c_get_915e3 lX11_82 inJx4a65c_get_915e3 seJx4a65c_get_915e3 lg743 rfl (cl_get hl w52 47 1007 _ _ (i599) _ h52.tabs (z_thr3 (t := i599) (by omega))) (Nat.le_of_ble_eq_true rfl) ⟨(by show _ ≤ 2; omega), (by show _ ≤ 11; omega)⟩ rfl (Nat.le_of_ble_eq_true rfl) rfl rfl (fun _ _ h => h.elim) ?_
                          rintro _ _ ⟨rfl, hw744⟩
                          refine j_w w52 hw744 ?_
                          refine j_castS dX11_replaceTable_194 (z_w 1341 ((lwt_6_3 6).trans rfl) (by decide +kernel)) (z_li.is (h52.tb (t := i599) (by omega))) ?_
                          obtain ⟨lv746, -, lg746⟩ := z_li.cell (h52.tb (t := i599) (by omega))
                          refine j_callV (q := (RJx4a65c, TJx4a65c, 3)) dX11_replaceTable_197 kJx4a65c_size_8abf5 lX11_86 inJx4a65c_size_8abf5 seJx4a65c_size_8abf5 lg746 rfl (cl_sizeT hl w52 (i599) ((A ++ [])) h52 hR (by omega) ((congrFun sp_tcT _).trans z_fu_self)) (Nat.le_of_ble_eq_true rfl) ⟨(by show _ ≤ 2; omega), (by show _ ≤ 11; omega)⟩ rfl (Nat.le_of_ble_eq_true rfl) rfl rfl (fun _ _ h => h.elim) ?_
                          rintro _ _ ⟨rfl, hw747⟩
                          refine j_w w52 hw747 ?_
                          have hz747 : ((A ++ [])).length ≤ 20 := hR.l20 h52 (t := i599) (by omega) ((congrFun sp_tcT _).trans z_fu_self)
                          refine j_iret dX11_replaceTable_200 rfl rfl ?_ (by show _ ≤ 2; omega) (by show _ ≤ 11; omega)
                          refine cast (congrFun (congrFun hQ9 _) _) ?_
                          rw [List.append_nil] at hR
                          try rw [ei599]
                          refine ⟨_, _, rfl, (hfm.tr (fw52.fm (q := 59) (by omega))), h52, sp_X0 ?_ hth (by unfold sp_ctbS; rw [← he]; have e := hR; rw [sp_tcn hb54] at e; show sp_MR (sp_tc (sp_uT S _ _) _ _) _; rw [sp_tcn hb54]; exact e) (by rw [← he, List.append_nil]; rfl)⟩
                          first | (first | (refine sp_k32_0 ?_ ?_ <;> (first | (with_reducible assumption) | (refine Or.inl ?_; (with_reducible assumption)) | (refine Or.inr ?_; (with_reducible assumption)) | (refine Or.inr (Or.inl ?_); (with_reducible assumption)) | (refine Or.inr (Or.inr ?_); (with_reducible assumption)) | (refine Or.inr (Or.inr (Or.inl ?_)); (with_reducible assumption)) | (refine Or.inr (Or.inr (Or.inr ?_)); (with_reducible assumption)) | (refine fun z => Or.elim z ?_ ?_ <;> (with_reducible assumption)) | (refine fun z => Or.elim z ?_ (fun z => Or.elim z ?_ ?_) <;> (with_reducible assumption)) | (refine fun z => Or.elim z ?_ (fun z => Or.elim z ?_ (fun z => Or.elim z ?_ ?_)) <;> (with_reducible assumption)) | (refine fun z => Or.elim z (fun z9 => z9 ?_) ?_ <;> (first | (with_reducible assumption) | (refine Or.inl ?_; (with_reducible assumption)) | (refine Or.inr (Or.inl ?_); (with_reducible assumption)) | (refine Or.inr (Or.inr ?_); (with_reducible assumption)) | (refine Or.inr (Or.inr (Or.inl ?_)); (with_reducible assumption)) | (refine Or.inr (Or.inr (Or.inr ?_)); (with_reducible assumption)))) | (refine Or.inl (fun z => Or.elim z ?_ (fun z => Or.elim z ?_ ?_)) <;> (with_reducible assumption)) | (refine Or.inl (fun z => Or.elim z ?_ (fun z => Or.elim z ?_ (fun z => Or.elim z ?_ ?_))) <;> (with_reducible assumption))))) | (first | (refine sp_k32_0 ?_ ?_ <;> (first | assumption | (refine Or.inl ?_; assumption) | (refine Or.inr ?_; assumption) | (refine Or.inr (Or.inl ?_); assumption) | (refine Or.inr (Or.inr ?_); assumption) | (refine Or.inr (Or.inr (Or.inl ?_)); assumption) | (refine Or.inr (Or.inr (Or.inr ?_)); assumption) | (refine fun z => Or.elim z ?_ ?_ <;> assumption) | (refine fun z => Or.elim z ?_ (fun z => Or.elim z ?_ ?_) <;> assumption) | (refine fun z => Or.elim z ?_ (fun z => Or.elim z ?_ (fun z => Or.elim z ?_ ?_)) <;> assumption) | (refine fun z => Or.elim z (fun z9 => z9 ?_) ?_ <;> (first | assumption | (refine Or.inl ?_; assumption) | (refine Or.inr (Or.inl ?_); assumption) | (refine Or.inr (Or.inr ?_); assumption) | (refine Or.inr (Or.inr (Or.inl ?_)); assumption) | (refine Or.inr (Or.inr (Or.inr ?_)); assumption))) | (refine Or.inl (fun z => Or.elim z ?_ (fun z => Or.elim z ?_ ?_)) <;> assumption) | (refine Or.inl (fun z => Or.elim z ?_ (fun z => Or.elim z ?_ (fun z => Or.elim z ?_ ?_))) <;> assumption))))
                        · have hk103 : A.length < (A ++ L).length := hp739 c_103_960
                          obtain ⟨x, L2, rfl⟩ : ∃ x L2, L = x :: L2 := by
                            cases L with
                            | nil => rw [List.append_nil] at hk103; exact absurd hk103 (Nat.lt_irrefl _)
                            | cons x L2 => exact ⟨x, L2, rfl⟩
                          refine j_aload dX11_replaceTable_106 rfl rfl ?_
                          obtain ⟨p748, hp748, hq748, hk748, hv0748, hv1748, hv2748⟩ := hR.prB hm (t := i599) (k := A.length) (by omega) ((congrFun sp_tcT _).trans z_fu_self) sp_mid?
                          refine j_callF (x := ⟨"java/util/Iterator", "next", "()Ljava/lang/Object;"⟩) (q := (RJx35411, TJx35411, 4)) dX11_replaceTable_108 kJx35411_next_0502b ⟨(z_w 1775 ((lwt_8_1 20).trans rfl) (by decide +kernel)), (z_w 1778 ((lwt_8_1 23).trans rfl) (by decide +kernel)), inJx35411_next_0502b, ⟨by decide, by decide⟩, rfl, fun U h => h.2.2.1⟩ git rfl (cl_next hl w51 58 it737 (51 + i599) _ (A.length) _ _ _ (hm.tb (t := i599) (by omega)) ⟨_, git⟩ hq748 hita737 hitb737 (by omega)) (Nat.le_of_ble_eq_true rfl) ⟨(by show _ ≤ 2; omega), (by show _ ≤ 11; omega)⟩ rfl (Nat.le_of_ble_eq_true rfl) rfl ?_
                          rintro _ w53 ⟨rfl, fw53, la53, git53⟩
                          have g53_x3 := fw53.g (Or.inr (by omega)) gx
                          have fm53 := fw53.fm (q := 59) (by omega)
                          have h53 := hm.gar fw53 (by omega)
                          refine j_castS dX11_replaceTable_113 (z_w 1663 ((lwt_7_5 28).trans rfl) (by decide +kernel)) (z_isA ((h53.pr (t := i599) (by omega)).1 p748 hp748).2) ?_
                          refine j_astore (lo' := [(6, _), (0, _), (1, _), (2, _), (3, _), (4, _), (5, _)]) dX11_replaceTable_116 rfl (by decide) rfl ?_
                          refine j_aload dX11_replaceTable_118 rfl rfl ?_
                          refine j_iconst (v := 1) dX11_replaceTable_120 (by decide) ?_
                          refine j_dup2 dX11_replaceTable_121 rfl rfl ?_
                          refine j_ld dX11_replaceTable_122 g53_x3 (vp_in_nI (n := 1) (by decide) (by decide)) ?_
                          refine j_iconst (v := 1) dX11_replaceTable_123 (by decide) ?_
                          refine j_iadd dX11_replaceTable_124 ?_
                          refine j_sto (w' := _) dX11_replaceTable_125 g53_x3 (vp_in_nI (n := 1) (by decide) (by decide)) rfl ?_
                          refine j_seal hx3a ?_
                          intro w54 u54
                          have fw54 := u54.fw hx3a hx3b
                          have g54_it737 := (u54.2.1 it737 (Ne.symm n_x3_it737)).trans git53
                          have g54_x3 := u54.1
                          have h54 := h53.gar fw54 (by omega)
                          refine j_aload dX11_replaceTable_126 rfl rfl ?_
                          refine j_iconst (v := 2) dX11_replaceTable_128 (by decide) ?_
                          refine j_dup2 dX11_replaceTable_129 rfl rfl ?_
                          refine j_ld dX11_replaceTable_130 g54_x3 (vp_in_nI (n := 2) (by decide) (by decide)) ?_
                          refine j_iconst (v := 1) dX11_replaceTable_131 (by decide) ?_
                          refine j_iadd dX11_replaceTable_132 ?_
                          refine j_sto (w' := _) dX11_replaceTable_133 g54_x3 (vp_in_nI (n := 2) (by decide) (by decide)) rfl ?_
                          refine j_seal hx3a ?_
                          intro w55 u55
                          have fw55 := u55.fw hx3a hx3b
                          have g55_it737 := (u55.2.1 it737 (Ne.symm n_x3_it737)).trans g54_it737
                          have g55_x3 := u55.1
                          have h55 := h54.gar fw55 (by omega)
                          refine j_iload_n dX11_replaceTable_134 rfl ?_
                          refine j_aload dX11_replaceTable_135 rfl rfl ?_
                          refine j_iconst (v := 0) dX11_replaceTable_137 (by decide) ?_
                          refine j_ld dX11_replaceTable_138 ((h55.pr (t := i599) (by omega)).1 p748 hp748).2 (vp_in_nI (n := 0) (by decide) (by decide)) ?_
                          refine j_top (congrArg Value.int (show _ = nI x.1 from by rw [show (0 : Int32).toNatClampNeg = 0 from by decide]; exact hv0748)) ?_
                          refine j_aload dX11_replaceTable_139 rfl rfl ?_
                          refine j_iconst (v := 1) dX11_replaceTable_141 (by decide) ?_
                          refine j_ld dX11_replaceTable_142 ((h55.pr (t := i599) (by omega)).1 p748 hp748).2 (vp_in_nI (n := 1) (by decide) (by decide)) ?_
                          refine j_top (congrArg Value.int (show _ = x.2 from by rw [show (1 : Int32).toNatClampNeg = 1 from by decide]; exact hv1748)) ?_
                          refine j_iload_n dX11_replaceTable_143 rfl ?_
                          refine j_callS dX11_replaceTable_144 kX11_rule lX11_115 stX11_rule (cm_rule_r hl w55 _ _ _ _ (hv _ List.mem_cons_self).2 (sp_vl (by assumption)).2) (Nat.le_of_ble_eq_true rfl) ⟨(by show _ ≤ 2; omega), (by show _ ≤ 11; omega)⟩ rfl (Nat.le_of_ble_eq_true rfl) rfl rfl (fun _ _ h => h.elim) ?_
                          rintro _ _ ⟨⟨rfl, hq756⟩ | ⟨y756, rfl, hq756, hne756⟩, hw756⟩
                          · refine j_w w55 hw756 ?_
                            refine j_istore (lo' := [(7, _), (6, _), (0, _), (1, _), (2, _), (3, _), (4, _), (5, _)]) dX11_replaceTable_147 (by decide) rfl ?_
                            refine j_iload dX11_replaceTable_149 rfl ?_
                            refine j_ldc dX11_replaceTable_151 kcX11_67 ?_
                            refine j_icmp_ne (tgt := 161) dX11_replaceTable_153 (by decide) (fun c_153_1051 => ?_) (fun c_153_1051 => ?_)
                            · exact absurd c_153_1051 (by decide)
                            · refine j_aload_n dX11_replaceTable_156 rfl rfl ?_
                              refine j_callV (q := (RX11, TX11, 8)) dX11_replaceTable_157 kX11_nine lX11_105 inX11_nine seX11_nine h55.m rfl (cm_nine hl w55 _ h55) (Nat.le_of_ble_eq_true rfl) ⟨(by show _ ≤ 2; omega), (by show _ ≤ 11; omega)⟩ rfl (Nat.le_of_ble_eq_true rfl) rfl rfl (fun _ _ h => h.elim) ?_
                              rintro _ w56 ⟨rfl, fm56, h56⟩
                              have g56_it737 := fm56.g hita737 (by rw [hitb737]; decide) g55_it737
                              have g56_x3 := fm56.g hx3a (by rw [hx3b]; decide) g55_x3
                              have R56 := hR.ni
                              refine j_iret dX11_replaceTable_160 rfl rfl ?_ (by show _ ≤ 2; omega) (by show _ ≤ 11; omega)
                              refine cast (congrFun (congrFun hQ9 _) _) ?_
                              rw [sp_rtN hq756] at he
                              try rw [ei599]
                              refine ⟨_, _, rfl, ((((hfm.tr fm53).tr (fw54.fm (q := 59) (by omega))).tr (fw55.fm (q := 59) (by omega))).tr (fm56.le (q' := 59) (by decide))), h56, sp_X0 ?_ hth (by unfold sp_ctbS; rw [← he]; have e := R56; rw [sp_tcn hb54] at e; show sp_MR (sp_nine (sp_tc (sp_uT S _ _) _ _)) _; rw [sp_tcn hb54]; exact e) (by rw [← he]; rfl)⟩
                              first | (first | (refine sp_k32_0 ?_ ?_ <;> (first | (with_reducible assumption) | (refine Or.inl ?_; (with_reducible assumption)) | (refine Or.inr ?_; (with_reducible assumption)) | (refine Or.inr (Or.inl ?_); (with_reducible assumption)) | (refine Or.inr (Or.inr ?_); (with_reducible assumption)) | (refine Or.inr (Or.inr (Or.inl ?_)); (with_reducible assumption)) | (refine Or.inr (Or.inr (Or.inr ?_)); (with_reducible assumption)) | (refine fun z => Or.elim z ?_ ?_ <;> (with_reducible assumption)) | (refine fun z => Or.elim z ?_ (fun z => Or.elim z ?_ ?_) <;> (with_reducible assumption)) | (refine fun z => Or.elim z ?_ (fun z => Or.elim z ?_ (fun z => Or.elim z ?_ ?_)) <;> (with_reducible assumption)) | (refine fun z => Or.elim z (fun z9 => z9 ?_) ?_ <;> (first | (with_reducible assumption) | (refine Or.inl ?_; (with_reducible assumption)) | (refine Or.inr (Or.inl ?_); (with_reducible assumption)) | (refine Or.inr (Or.inr ?_); (with_reducible assumption)) | (refine Or.inr (Or.inr (Or.inl ?_)); (with_reducible assumption)) | (refine Or.inr (Or.inr (Or.inr ?_)); (with_reducible assumption)))) | (refine Or.inl (fun z => Or.elim z ?_ (fun z => Or.elim z ?_ ?_)) <;> (with_reducible assumption)) | (refine Or.inl (fun z => Or.elim z ?_ (fun z => Or.elim z ?_ (fun z => Or.elim z ?_ ?_))) <;> (with_reducible assumption))))) | (first | (refine sp_k32_0 ?_ ?_ <;> (first | assumption | (refine Or.inl ?_; assumption) | (refine Or.inr ?_; assumption) | (refine Or.inr (Or.inl ?_); assumption) | (refine Or.inr (Or.inr ?_); assumption) | (refine Or.inr (Or.inr (Or.inl ?_)); assumption) | (refine Or.inr (Or.inr (Or.inr ?_)); assumption) | (refine fun z => Or.elim z ?_ ?_ <;> assumption) | (refine fun z => Or.elim z ?_ (fun z => Or.elim z ?_ ?_) <;> assumption) | (refine fun z => Or.elim z ?_ (fun z => Or.elim z ?_ (fun z => Or.elim z ?_ ?_)) <;> assumption) | (refine fun z => Or.elim z (fun z9 => z9 ?_) ?_ <;> (first | assumption | (refine Or.inl ?_; assumption) | (refine Or.inr (Or.inl ?_); assumption) | (refine Or.inr (Or.inr ?_); assumption) | (refine Or.inr (Or.inr (Or.inl ?_)); assumption) | (refine Or.inr (Or.inr (Or.inr ?_)); assumption))) | (refine Or.inl (fun z => Or.elim z ?_ (fun z => Or.elim z ?_ ?_)) <;> assumption) | (refine Or.inl (fun z => Or.elim z ?_ (fun z => Or.elim z ?_ (fun z => Or.elim z ?_ ?_))) <;> assumption))))
                          · refine j_w w55 hw756 ?_
                            refine j_istore (lo' := [(7, _), (6, _), (0, _), (1, _), (2, _), (3, _), (4, _), (5, _)]) dX11_replaceTable_147 (by decide) rfl ?_
                            refine j_iload dX11_replaceTable_149 rfl ?_
                            refine j_ldc dX11_replaceTable_151 kcX11_67 ?_
                            refine j_icmp_ne (tgt := 161) dX11_replaceTable_153 (by decide) (fun c_153_1069 => ?_) (fun c_153_1069 => ?_)
                            · refine j_aload dX11_replaceTable_161 rfl rfl ?_
                              refine j_iconst (v := 1) dX11_replaceTable_163 (by decide) ?_
                              refine j_iload dX11_replaceTable_164 rfl ?_
                              refine j_sto (w' := _) dX11_replaceTable_166 ((h55.pr (t := i599) (by omega)).1 p748 hp748).2 (vp_in_nI (n := 1) (by decide) (by decide)) rfl ?_
                              have hnd : (sp_ks (A ++ x :: L2)).Nodup := hR.kd h55 (t := i599) (by omega) ((congrFun sp_tcT _).trans z_fu_self)
                              refine j_seal (((h55.pr (t := i599) (by omega)).1 p748 hp748).1.1) ?_
                              intro w57 u57
                              have hpp57 := ((h55.pr (t := i599) (by omega)).1 p748 hp748).1
                              have hpq57 := hpp57.2.1
                              have g57_it737 := (u57.2.1 it737 (by omega)).trans g55_it737
                              have g57_x3 := (u57.2.1 x3 (by omega)).trans g55_x3
                              have fw57 := u57.fw (ρ := 14 + i599) hpp57.1 hpp57.2.1
                              have h57 := h55.up14 (t0 := i599) (by omega) hp748 u57 (z_ui_ne (by decide))
                              have R57 := hR.uk (t0 := i599) (F := z_ui (z_qk _ p748) ((1 : Int32).toNatClampNeg) y756) (v := y756) h55 (by omega) hp748 (z_ui_ne (by decide)) (by rw [show (1 : Int32).toNatClampNeg = 1 from by decide]; exact z_ui_self)
                              rw [hv0748, z_cla (by omega)] at R57
                              rw [show sp_T (sp_tc (sp_uT S i599 (A ++ x :: L2)) i599 _) i599 = A ++ x :: L2 from (congrFun sp_tcT _).trans z_fu_self, sp_st_mid hnd, sp_tcu, sp_uTT] at R57
                              refine j_aload dX11_replaceTable_167 rfl rfl ?_
                              refine j_iconst (v := 3) dX11_replaceTable_169 (by decide) ?_
                              refine j_dup2 dX11_replaceTable_170 rfl rfl ?_
                              refine j_ld dX11_replaceTable_171 g57_x3 (vp_in_nI (n := 3) (by decide) (by decide)) ?_
                              refine j_iconst (v := 1) dX11_replaceTable_172 (by decide) ?_
                              refine j_iadd dX11_replaceTable_173 ?_
                              refine j_sto (w' := _) dX11_replaceTable_174 g57_x3 (vp_in_nI (n := 3) (by decide) (by decide)) rfl ?_
                              refine j_seal hx3a ?_
                              intro w58 u58
                              have fw58 := u58.fw hx3a hx3b
                              have g58_it737 := (u58.2.1 it737 (Ne.symm n_x3_it737)).trans g57_it737
                              have g58_x3 := u58.1
                              have h58 := h57.gar fw58 (by omega)
                              refine j_goto (tgt := 96) dX11_replaceTable_175 (by decide) ?_
                              refine j_widen (kc' := 2) (ks' := 11) (by omega) (by omega) ?_
                              exact j_lo2 (ih w58 _ (A ++ [(x.1, y756)]) L2 _ (z_bp (z_bp (z_bp c 1) 2) 3) _ (by rw [List.length_cons] at hf9; omega) sp_apl (by rw [sp_rtS hq756] at he; exact he) (fun p hp => hv p (List.mem_cons_of_mem _ hp)) (by rw [← sp_mid]; exact (sp_MR.bpXu hb54 R57)) (by exact hth) h58 (((((hfm.tr fm53).tr (fw54.fm (q := 59) (by omega))).tr (fw55.fm (q := 59) (by omega))).tr (fw57.fm (q := 59) (by omega))).tr (fw58.fm (q := 59) (by omega))) (by rw [List.length_append]; exact g58_it737) g58_x3) (z_q1 rfl (z_q1 rfl (z_q1 rfl (z_q1 rfl (z_q1 rfl (z_q1 rfl z_q0))))))
                            · exact absurd c_153_1069 hne756
                    refine j_widen (kc' := 2) (ks' := 11) (by omega) (by omega) ?_
                    exact j_lo2 (loop96 ((sp_T S i599).length + 1) w50 _ [] (sp_T S i599) _ (z_bp (sp_C S 2) 0) _ (Nat.lt_succ_self _) sp_apl (by exact rfl) (fun p hp => ((ok.2.1 i599 (by omega)).2 p hp).2) (by rw [List.nil_append, sp_uT_id, sp_tcn hb54]; exact R2) (by exact rfl) h50 ((((fm2.le (q' := 59) (by decide)).tr (fw48.fm (q := 59) (by omega))).tr (fw49.fm (q := 59) (by omega))).tr fm50) git737 g50_x3) (z_q1 rfl (z_q1 rfl (z_q1 rfl (z_q1 rfl (z_q1 rfl (z_q1 rfl z_q0))))))
                  · have hb54 : i599 = 0 := nI_inj (a := i599) (b := 0) c_54_908 (by omega) (by omega)
                    refine j_aload_n dX11_replaceTable_57 rfl rfl ?_
                    refine j_getf dX11_replaceTable_58 fX11_31 h2.m rfl ?_
                    refine j_iconst (v := 2) dX11_replaceTable_61 (by decide) ?_
                    obtain ⟨fz761, gz761, hz761⟩ := h2.co
                    refine j_aald (v := .ref (1004 + 2)) dX11_replaceTable_62 gz761 rfl rfl (vp_in_nI (n := 2) (by decide) (by decide)) (by rw [show (2 : Int32).toNatClampNeg = 2 by decide]; exact hz761 _ (by decide)) ?_
                    refine j_goto (tgt := 70) dX11_replaceTable_63 (by decide) ?_
                    refine j_astore (lo' := [(4, _), (0, _), (1, _), (2, _), (3, _)]) dX11_replaceTable_70 rfl (by decide) rfl ?_
                    refine j_aload dX11_replaceTable_72 rfl rfl ?_
                    refine j_iconst (v := 0) dX11_replaceTable_74 (by decide) ?_
                    refine j_dup2 dX11_replaceTable_75 rfl rfl ?_
                    refine j_ld dX11_replaceTable_76 (h2.cn (i := 2) (by decide)) (vp_in_nI (n := 0) (by decide) (by decide)) ?_
                    refine j_iconst (v := 1) dX11_replaceTable_77 (by decide) ?_
                    refine j_iadd dX11_replaceTable_78 ?_
                    refine j_sto (w' := _) dX11_replaceTable_79 (h2.cn (i := 2) (by decide)) (vp_in_nI (n := 0) (by decide) (by decide)) rfl ?_
                    refine j_seal (by omega) ?_
                    intro w59 u59
                    have fw59 := u59.fw (ρ := 44 + 2) (by omega) (by omega)
                    have h59 := h2.up44 (i0 := 2) (by decide) fw59 u59.1
                    rw [show (0 : Int32).toNatClampNeg = 0 by decide] at h59
                    have R59 := R2.bp (i := 2) (k := 0) (by omega) (by decide)
                    refine j_aload_n dX11_replaceTable_80 rfl rfl ?_
                    refine j_getf dX11_replaceTable_81 fX11_34 h59.m rfl ?_
                    refine j_iload_n dX11_replaceTable_84 rfl ?_
                    obtain ⟨lv765, -, lg765⟩ := z_li.cell h59.tabs
                    refine j_callV (q := (RJx4a65c, TJx4a65c, 3)) dX11_replaceTable_85 kJx4a65c_get_915e3 lX11_82 inJx4a65c_get_915e3 seJx4a65c_get_915e3 lg765 rfl (cl_get hl w59 47 1007 _ _ (i599) _ h59.tabs (z_thr3 (t := i599) (by omega))) (Nat.le_of_ble_eq_true rfl) ⟨(by show _ ≤ 2; omega), (by show _ ≤ 11; omega)⟩ rfl (Nat.le_of_ble_eq_true rfl) rfl rfl (fun _ _ h => h.elim) ?_
                    rintro _ _ ⟨rfl, hw766⟩
                    refine j_w w59 hw766 ?_
                    refine j_castS dX11_replaceTable_88 (z_w 1341 ((lwt_6_3 6).trans rfl) (by decide +kernel)) (z_li.is (h59.tb (t := i599) (by omega))) ?_
                    obtain ⟨lv769, -, lg769⟩ := z_li.cell (h59.tb (t := i599) (by omega))
                    refine j_callV (q := (RJx4a65c, TJx4a65c, 3)) dX11_replaceTable_91 kJx4a65c_iterator_32c93 lX11_162 inJx4a65c_iterator_32c93 seJx4a65c_iterator_32c93 lg769 rfl (cl_iter hl w59 58 (51 + i599) _ _ _ (h59.tb (t := i599) (by omega)) (by decide) (by omega) h59.fn) (Nat.le_of_ble_eq_true rfl) ⟨(by show _ ≤ 2; omega), (by show _ ≤ 11; omega)⟩ rfl (Nat.le_of_ble_eq_true rfl) rfl rfl (fun _ _ h => h.elim) ?_
                    rintro _ w60 ⟨it768, rfl, fw60, hita768, hitb768, hitc768, la768, git768⟩
                    have hita768 : 1000 ≤ it768 := hita768
                    have hitb768 : it768 % 64 = 58 := hitb768
                    have fm60 := fw60.fm (q := 59) (by omega)
                    have h60 := h59.gar fw60 (by omega)
                    refine j_astore (lo' := [(5, _), (4, _), (0, _), (1, _), (2, _), (3, _)]) dX11_replaceTable_94 rfl (by decide) rfl ?_
                    have loop96 : ∀ (n9 : Nat) (w61 : z_W) (s1 : z_Z) (A L : List (Nat × Int32)) (la : Int32) (c : Nat → Int32), (L.length < n9) → (A.length ≤ (A ++ L).length) → (sp_rt r n c A L = sp_ctb S i599 r n) → (∀ p ∈ L, z_vl p.2) → (sp_MR (sp_tc (sp_uT S i599 (A ++ L)) i599 c) s1) → (s1.1.1 = 0) → (z_mst w61 s1) → (z_fm 59 w w61) → (z_g w61 it768 = some (.inr (3, [.int (nI A.length), .int la, .int (z_qp s1 i599).1, .ref (1011 + i599)]))) → z_J G l mX11_replaceTable (22, 2, 11, w, Q9, (fun _ _ => False)) 96 [(0, .ref 1000), (1, .int (nI i599)), (2, .int r), (3, .int n), (4, .ref (1004 + 2)), (5, .ref it768)] [] w61 2 11 := by
                      intro n9
                      induction n9 with
                      | zero => intro w61 s1 A L la c hf9 hAl he hv hR hth hm hfm git; exact absurd hf9 (Nat.not_lt_zero _)
                      | succ n9 ih =>
                        intro w61 s1 A L la c hf9 hAl he hv hR hth hm hfm git
                        refine j_aload dX11_replaceTable_96 rfl rfl ?_
                        refine j_callF (x := ⟨"java/util/Iterator", "hasNext", "()Z"⟩) (q := (RJx35411, TJx35411, 4)) dX11_replaceTable_98 kJx35411_hasNext_aae02 ⟨(z_w 1765 ((lwt_8_1 10).trans rfl) (by decide +kernel)), (z_w 1769 ((lwt_8_1 14).trans rfl) (by decide +kernel)), inJx35411_hasNext_aae02, ⟨by decide, by decide⟩, rfl, fun U h => h.2.1⟩ git rfl (cl_hasN hl w61 _ (51 + i599) _ (A.length) _ _ (hm.tb (t := i599) (by omega)) ⟨_, git⟩ (by rw [z_rs_len, hR.tlB (by omega) ((congrFun sp_tcT _).trans z_fu_self)]; omega)) (Nat.le_of_ble_eq_true rfl) ⟨(by show _ ≤ 2; omega), (by show _ ≤ 11; omega)⟩ rfl (Nat.le_of_ble_eq_true rfl) rfl ?_
                        rintro _ _ ⟨⟨x770, rfl, hz770, hp770⟩, hw770⟩
                        refine j_w w61 hw770 ?_
                        rw [z_rs_len, hR.tlB (by omega) ((congrFun sp_tcT _).trans z_fu_self)] at hz770 hp770
                        refine j_if_eq (tgt := 178) dX11_replaceTable_103 (by decide) (fun c_103_1153 => ?_) (fun c_103_1153 => ?_)
                        · have hk103 : A.length = (A ++ L).length := hz770 c_103_1153
                          obtain rfl : L = [] := List.eq_nil_of_length_eq_zero (by rw [List.length_append] at hk103; omega)
                          refine j_aload dX11_replaceTable_178 rfl rfl ?_
                          refine j_iconst (v := 1) dX11_replaceTable_180 (by decide) ?_
                          refine j_dup2 dX11_replaceTable_181 rfl rfl ?_
                          refine j_ld dX11_replaceTable_182 (hm.cn (i := 2) (by decide)) (vp_in_nI (n := 1) (by decide) (by decide)) ?_
                          refine j_iconst (v := 1) dX11_replaceTable_183 (by decide) ?_
                          refine j_iadd dX11_replaceTable_184 ?_
                          refine j_sto (w' := _) dX11_replaceTable_185 (hm.cn (i := 2) (by decide)) (vp_in_nI (n := 1) (by decide) (by decide)) rfl ?_
                          refine j_seal (by omega) ?_
                          intro w62 u62
                          have fw62 := u62.fw (ρ := 44 + 2) (by omega) (by omega)
                          have g62_it768 := (fun z => (u62.2.1 it768 (fun z9 => by have h9 := hitb768; rw [z9] at h9; omega)).trans z) git
                          have h62 := hm.up44 (i0 := 2) (by decide) fw62 u62.1
                          rw [show (1 : Int32).toNatClampNeg = 1 by decide] at h62
                          have R62 := sp_MR.bpTu (k := 1) hb54 hR (by decide)
                          refine j_aload_n dX11_replaceTable_186 rfl rfl ?_
                          refine j_getf dX11_replaceTable_187 fX11_34 h62.m rfl ?_
                          refine j_iload_n dX11_replaceTable_190 rfl ?_
                          obtain ⟨lv774, -, lg774⟩ := z_li.cell h62.tabs
                          refine j_callV (q := (RJx4a65c, TJx4a65c, 3)) dX11_replaceTable_191 kJx4a65c_get_915e3 lX11_82 inJx4a65c_get_915e3 seJx4a65c_get_915e3 lg774 rfl (cl_get hl w62 47 1007 _ _ (i599) _ h62.tabs (z_thr3 (t := i599) (by omega))) (Nat.le_of_ble_eq_true rfl) ⟨(by show _ ≤ 2; omega), (by show _ ≤ 11; omega)⟩ rfl (Nat.le_of_ble_eq_true rfl) rfl rfl (fun _ _ h => h.elim) ?_
                          rintro _ _ ⟨rfl, hw775⟩
                          refine j_w w62 hw775 ?_
                          refine j_castS dX11_replaceTable_194 (z_w 1341 ((lwt_6_3 6).trans rfl) (by decide +kernel)) (z_li.is (h62.tb (t := i599) (by omega))) ?_
                          obtain ⟨lv777, -, lg777⟩ := z_li.cell (h62.tb (t := i599) (by omega))
                          refine j_callV (q := (RJx4a65c, TJx4a65c, 3)) dX11_replaceTable_197 kJx4a65c_size_8abf5 lX11_86 inJx4a65c_size_8abf5 seJx4a65c_size_8abf5 lg777 rfl (cl_sizeT hl w62 (i599) ((A ++ [])) h62 R62 (by omega) ((congrFun sp_tcT _).trans z_fu_self)) (Nat.le_of_ble_eq_true rfl) ⟨(by show _ ≤ 2; omega), (by show _ ≤ 11; omega)⟩ rfl (Nat.le_of_ble_eq_true rfl) rfl rfl (fun _ _ h => h.elim) ?_
                          rintro _ _ ⟨rfl, hw778⟩
                          refine j_w w62 hw778 ?_
                          have hz778 : ((A ++ [])).length ≤ 20 := R62.l20 h62 (t := i599) (by omega) ((congrFun sp_tcT _).trans z_fu_self)
                          refine j_iret dX11_replaceTable_200 rfl rfl ?_ (by show _ ≤ 2; omega) (by show _ ≤ 11; omega)
                          refine cast (congrFun (congrFun hQ9 _) _) ?_
                          rw [List.append_nil] at R62
                          try rw [ei599]
                          refine ⟨_, _, rfl, (hfm.tr (fw62.fm (q := 59) (by omega))), h62, sp_X0 ?_ hth (by unfold sp_ctbS; rw [← he]; exact R62) (by rw [← he, List.append_nil]; rfl)⟩
                          first | (first | (refine sp_k32_0 ?_ ?_ <;> (first | (with_reducible assumption) | (refine Or.inl ?_; (with_reducible assumption)) | (refine Or.inr ?_; (with_reducible assumption)) | (refine Or.inr (Or.inl ?_); (with_reducible assumption)) | (refine Or.inr (Or.inr ?_); (with_reducible assumption)) | (refine Or.inr (Or.inr (Or.inl ?_)); (with_reducible assumption)) | (refine Or.inr (Or.inr (Or.inr ?_)); (with_reducible assumption)) | (refine fun z => Or.elim z ?_ ?_ <;> (with_reducible assumption)) | (refine fun z => Or.elim z ?_ (fun z => Or.elim z ?_ ?_) <;> (with_reducible assumption)) | (refine fun z => Or.elim z ?_ (fun z => Or.elim z ?_ (fun z => Or.elim z ?_ ?_)) <;> (with_reducible assumption)) | (refine fun z => Or.elim z (fun z9 => z9 ?_) ?_ <;> (first | (with_reducible assumption) | (refine Or.inl ?_; (with_reducible assumption)) | (refine Or.inr (Or.inl ?_); (with_reducible assumption)) | (refine Or.inr (Or.inr ?_); (with_reducible assumption)) | (refine Or.inr (Or.inr (Or.inl ?_)); (with_reducible assumption)) | (refine Or.inr (Or.inr (Or.inr ?_)); (with_reducible assumption)))) | (refine Or.inl (fun z => Or.elim z ?_ (fun z => Or.elim z ?_ ?_)) <;> (with_reducible assumption)) | (refine Or.inl (fun z => Or.elim z ?_ (fun z => Or.elim z ?_ (fun z => Or.elim z ?_ ?_))) <;> (with_reducible assumption))))) | (first | (refine sp_k32_0 ?_ ?_ <;> (first | assumption | (refine Or.inl ?_; assumption) | (refine Or.inr ?_; assumption) | (refine Or.inr (Or.inl ?_); assumption) | (refine Or.inr (Or.inr ?_); assumption) | (refine Or.inr (Or.inr (Or.inl ?_)); assumption) | (refine Or.inr (Or.inr (Or.inr ?_)); assumption) | (refine fun z => Or.elim z ?_ ?_ <;> assumption) | (refine fun z => Or.elim z ?_ (fun z => Or.elim z ?_ ?_) <;> assumption) | (refine fun z => Or.elim z ?_ (fun z => Or.elim z ?_ (fun z => Or.elim z ?_ ?_)) <;> assumption) | (refine fun z => Or.elim z (fun z9 => z9 ?_) ?_ <;> (first | assumption | (refine Or.inl ?_; assumption) | (refine Or.inr (Or.inl ?_); assumption) | (refine Or.inr (Or.inr ?_); assumption) | (refine Or.inr (Or.inr (Or.inl ?_)); assumption) | (refine Or.inr (Or.inr (Or.inr ?_)); assumption))) | (refine Or.inl (fun z => Or.elim z ?_ (fun z => Or.elim z ?_ ?_)) <;> assumption) | (refine Or.inl (fun z => Or.elim z ?_ (fun z => Or.elim z ?_ (fun z => Or.elim z ?_ ?_))) <;> assumption))))
                        · have hk103 : A.length < (A ++ L).length := hp770 c_103_1153
                          obtain ⟨x, L2, rfl⟩ : ∃ x L2, L = x :: L2 := by
                            cases L with
                            | nil => rw [List.append_nil] at hk103; exact absurd hk103 (Nat.lt_irrefl _)
                            | cons x L2 => exact ⟨x, L2, rfl⟩
                          refine j_aload dX11_replaceTable_106 rfl rfl ?_
                          obtain ⟨p779, hp779, hq779, hk779, hv0779, hv1779, hv2779⟩ := hR.prB hm (t := i599) (k := A.length) (by omega) ((congrFun sp_tcT _).trans z_fu_self) sp_mid?
                          refine j_callF (x := ⟨"java/util/Iterator", "next", "()Ljava/lang/Object;"⟩) (q := (RJx35411, TJx35411, 4)) dX11_replaceTable_108 kJx35411_next_0502b ⟨(z_w 1775 ((lwt_8_1 20).trans rfl) (by decide +kernel)), (z_w 1778 ((lwt_8_1 23).trans rfl) (by decide +kernel)), inJx35411_next_0502b, ⟨by decide, by decide⟩, rfl, fun U h => h.2.2.1⟩ git rfl (cl_next hl w61 58 it768 (51 + i599) _ (A.length) _ _ _ (hm.tb (t := i599) (by omega)) ⟨_, git⟩ hq779 hita768 hitb768 (by omega)) (Nat.le_of_ble_eq_true rfl) ⟨(by show _ ≤ 2; omega), (by show _ ≤ 11; omega)⟩ rfl (Nat.le_of_ble_eq_true rfl) rfl ?_
                          rintro _ w63 ⟨rfl, fw63, la63, git63⟩
                          have fm63 := fw63.fm (q := 59) (by omega)
                          have h63 := hm.gar fw63 (by omega)
                          refine j_castS dX11_replaceTable_113 (z_w 1663 ((lwt_7_5 28).trans rfl) (by decide +kernel)) (z_isA ((h63.pr (t := i599) (by omega)).1 p779 hp779).2) ?_
                          refine j_astore (lo' := [(6, _), (0, _), (1, _), (2, _), (3, _), (4, _), (5, _)]) dX11_replaceTable_116 rfl (by decide) rfl ?_
                          refine j_aload dX11_replaceTable_118 rfl rfl ?_
                          refine j_iconst (v := 1) dX11_replaceTable_120 (by decide) ?_
                          refine j_dup2 dX11_replaceTable_121 rfl rfl ?_
                          refine j_ld dX11_replaceTable_122 (h63.cn (i := 2) (by decide)) (vp_in_nI (n := 1) (by decide) (by decide)) ?_
                          refine j_iconst (v := 1) dX11_replaceTable_123 (by decide) ?_
                          refine j_iadd dX11_replaceTable_124 ?_
                          refine j_sto (w' := _) dX11_replaceTable_125 (h63.cn (i := 2) (by decide)) (vp_in_nI (n := 1) (by decide) (by decide)) rfl ?_
                          refine j_seal (by omega) ?_
                          intro w64 u64
                          have fw64 := u64.fw (ρ := 44 + 2) (by omega) (by omega)
                          have g64_it768 := (fun z => (u64.2.1 it768 (fun z9 => by have h9 := hitb768; rw [z9] at h9; omega)).trans z) git63
                          have h64 := h63.up44 (i0 := 2) (by decide) fw64 u64.1
                          rw [show (1 : Int32).toNatClampNeg = 1 by decide] at h64
                          have R64 := sp_MR.bpTu (k := 1) hb54 hR (by decide)
                          refine j_aload dX11_replaceTable_126 rfl rfl ?_
                          refine j_iconst (v := 2) dX11_replaceTable_128 (by decide) ?_
                          refine j_dup2 dX11_replaceTable_129 rfl rfl ?_
                          refine j_ld dX11_replaceTable_130 (h64.cn (i := 2) (by decide)) (vp_in_nI (n := 2) (by decide) (by decide)) ?_
                          refine j_iconst (v := 1) dX11_replaceTable_131 (by decide) ?_
                          refine j_iadd dX11_replaceTable_132 ?_
                          refine j_sto (w' := _) dX11_replaceTable_133 (h64.cn (i := 2) (by decide)) (vp_in_nI (n := 2) (by decide) (by decide)) rfl ?_
                          refine j_seal (by omega) ?_
                          intro w65 u65
                          have fw65 := u65.fw (ρ := 44 + 2) (by omega) (by omega)
                          have g65_it768 := (fun z => (u65.2.1 it768 (fun z9 => by have h9 := hitb768; rw [z9] at h9; omega)).trans z) g64_it768
                          have h65 := h64.up44 (i0 := 2) (by decide) fw65 u65.1
                          rw [show (2 : Int32).toNatClampNeg = 2 by decide] at h65
                          have R65 := sp_MR.bpTu (k := 2) hb54 R64 (by decide)
                          refine j_iload_n dX11_replaceTable_134 rfl ?_
                          refine j_aload dX11_replaceTable_135 rfl rfl ?_
                          refine j_iconst (v := 0) dX11_replaceTable_137 (by decide) ?_
                          refine j_ld dX11_replaceTable_138 ((h65.pr (t := i599) (by omega)).1 p779 hp779).2 (vp_in_nI (n := 0) (by decide) (by decide)) ?_
                          refine j_top (congrArg Value.int (show _ = nI x.1 from by rw [show (0 : Int32).toNatClampNeg = 0 from by decide]; exact hv0779)) ?_
                          refine j_aload dX11_replaceTable_139 rfl rfl ?_
                          refine j_iconst (v := 1) dX11_replaceTable_141 (by decide) ?_
                          refine j_ld dX11_replaceTable_142 ((h65.pr (t := i599) (by omega)).1 p779 hp779).2 (vp_in_nI (n := 1) (by decide) (by decide)) ?_
                          refine j_top (congrArg Value.int (show _ = x.2 from by rw [show (1 : Int32).toNatClampNeg = 1 from by decide]; exact hv1779)) ?_
                          refine j_iload_n dX11_replaceTable_143 rfl ?_
                          refine j_callS dX11_replaceTable_144 kX11_rule lX11_115 stX11_rule (cm_rule_r hl w65 _ _ _ _ (hv _ List.mem_cons_self).2 (sp_vl (by assumption)).2) (Nat.le_of_ble_eq_true rfl) ⟨(by show _ ≤ 2; omega), (by show _ ≤ 11; omega)⟩ rfl (Nat.le_of_ble_eq_true rfl) rfl rfl (fun _ _ h => h.elim) ?_
                          rintro _ _ ⟨⟨rfl, hq787⟩ | ⟨y787, rfl, hq787, hne787⟩, hw787⟩
                          · refine j_w w65 hw787 ?_
                            refine j_istore (lo' := [(7, _), (6, _), (0, _), (1, _), (2, _), (3, _), (4, _), (5, _)]) dX11_replaceTable_147 (by decide) rfl ?_
                            refine j_iload dX11_replaceTable_149 rfl ?_
                            refine j_ldc dX11_replaceTable_151 kcX11_67 ?_
                            refine j_icmp_ne (tgt := 161) dX11_replaceTable_153 (by decide) (fun c_153_1246 => ?_) (fun c_153_1246 => ?_)
                            · exact absurd c_153_1246 (by decide)
                            · refine j_aload_n dX11_replaceTable_156 rfl rfl ?_
                              refine j_callV (q := (RX11, TX11, 8)) dX11_replaceTable_157 kX11_nine lX11_105 inX11_nine seX11_nine h65.m rfl (cm_nine hl w65 _ h65) (Nat.le_of_ble_eq_true rfl) ⟨(by show _ ≤ 2; omega), (by show _ ≤ 11; omega)⟩ rfl (Nat.le_of_ble_eq_true rfl) rfl rfl (fun _ _ h => h.elim) ?_
                              rintro _ w66 ⟨rfl, fm66, h66⟩
                              have g66_it768 := fm66.g hita768 (by rw [hitb768]; decide) g65_it768
                              have R66 := R65.ni
                              refine j_iret dX11_replaceTable_160 rfl rfl ?_ (by show _ ≤ 2; omega) (by show _ ≤ 11; omega)
                              refine cast (congrFun (congrFun hQ9 _) _) ?_
                              rw [sp_rtN hq787] at he
                              try rw [ei599]
                              refine ⟨_, _, rfl, ((((hfm.tr fm63).tr (fw64.fm (q := 59) (by omega))).tr (fw65.fm (q := 59) (by omega))).tr (fm66.le (q' := 59) (by decide))), h66, sp_X0 ?_ hth (by unfold sp_ctbS; rw [← he]; exact R66) (by rw [← he]; rfl)⟩
                              first | (first | (refine sp_k32_0 ?_ ?_ <;> (first | (with_reducible assumption) | (refine Or.inl ?_; (with_reducible assumption)) | (refine Or.inr ?_; (with_reducible assumption)) | (refine Or.inr (Or.inl ?_); (with_reducible assumption)) | (refine Or.inr (Or.inr ?_); (with_reducible assumption)) | (refine Or.inr (Or.inr (Or.inl ?_)); (with_reducible assumption)) | (refine Or.inr (Or.inr (Or.inr ?_)); (with_reducible assumption)) | (refine fun z => Or.elim z ?_ ?_ <;> (with_reducible assumption)) | (refine fun z => Or.elim z ?_ (fun z => Or.elim z ?_ ?_) <;> (with_reducible assumption)) | (refine fun z => Or.elim z ?_ (fun z => Or.elim z ?_ (fun z => Or.elim z ?_ ?_)) <;> (with_reducible assumption)) | (refine fun z => Or.elim z (fun z9 => z9 ?_) ?_ <;> (first | (with_reducible assumption) | (refine Or.inl ?_; (with_reducible assumption)) | (refine Or.inr (Or.inl ?_); (with_reducible assumption)) | (refine Or.inr (Or.inr ?_); (with_reducible assumption)) | (refine Or.inr (Or.inr (Or.inl ?_)); (with_reducible assumption)) | (refine Or.inr (Or.inr (Or.inr ?_)); (with_reducible assumption)))) | (refine Or.inl (fun z => Or.elim z ?_ (fun z => Or.elim z ?_ ?_)) <;> (with_reducible assumption)) | (refine Or.inl (fun z => Or.elim z ?_ (fun z => Or.elim z ?_ (fun z => Or.elim z ?_ ?_))) <;> (with_reducible assumption))))) | (first | (refine sp_k32_0 ?_ ?_ <;> (first | assumption | (refine Or.inl ?_; assumption) | (refine Or.inr ?_; assumption) | (refine Or.inr (Or.inl ?_); assumption) | (refine Or.inr (Or.inr ?_); assumption) | (refine Or.inr (Or.inr (Or.inl ?_)); assumption) | (refine Or.inr (Or.inr (Or.inr ?_)); assumption) | (refine fun z => Or.elim z ?_ ?_ <;> assumption) | (refine fun z => Or.elim z ?_ (fun z => Or.elim z ?_ ?_) <;> assumption) | (refine fun z => Or.elim z ?_ (fun z => Or.elim z ?_ (fun z => Or.elim z ?_ ?_)) <;> assumption) | (refine fun z => Or.elim z (fun z9 => z9 ?_) ?_ <;> (first | assumption | (refine Or.inl ?_; assumption) | (refine Or.inr (Or.inl ?_); assumption) | (refine Or.inr (Or.inr ?_); assumption) | (refine Or.inr (Or.inr (Or.inl ?_)); assumption) | (refine Or.inr (Or.inr (Or.inr ?_)); assumption))) | (refine Or.inl (fun z => Or.elim z ?_ (fun z => Or.elim z ?_ ?_)) <;> assumption) | (refine Or.inl (fun z => Or.elim z ?_ (fun z => Or.elim z ?_ (fun z => Or.elim z ?_ ?_))) <;> assumption))))
                          · refine j_w w65 hw787 ?_
                            refine j_istore (lo' := [(7, _), (6, _), (0, _), (1, _), (2, _), (3, _), (4, _), (5, _)]) dX11_replaceTable_147 (by decide) rfl ?_
                            refine j_iload dX11_replaceTable_149 rfl ?_
                            refine j_ldc dX11_replaceTable_151 kcX11_67 ?_
                            refine j_icmp_ne (tgt := 161) dX11_replaceTable_153 (by decide) (fun c_153_1263 => ?_) (fun c_153_1263 => ?_)
                            · refine j_aload dX11_replaceTable_161 rfl rfl ?_
                              refine j_iconst (v := 1) dX11_replaceTable_163 (by decide) ?_
                              refine j_iload dX11_replaceTable_164 rfl ?_
                              refine j_sto (w' := _) dX11_replaceTable_166 ((h65.pr (t := i599) (by omega)).1 p779 hp779).2 (vp_in_nI (n := 1) (by decide) (by decide)) rfl ?_
                              have hnd : (sp_ks (A ++ x :: L2)).Nodup := R65.kd h65 (t := i599) (by omega) ((congrFun sp_tcT _).trans z_fu_self)
                              refine j_seal (((h65.pr (t := i599) (by omega)).1 p779 hp779).1.1) ?_
                              intro w67 u67
                              have hpp67 := ((h65.pr (t := i599) (by omega)).1 p779 hp779).1
                              have hpq67 := hpp67.2.1
                              have g67_it768 := (u67.2.1 it768 (by omega)).trans g65_it768
                              have fw67 := u67.fw (ρ := 14 + i599) hpp67.1 hpp67.2.1
                              have h67 := h65.up14 (t0 := i599) (by omega) hp779 u67 (z_ui_ne (by decide))
                              have R67 := R65.uk (t0 := i599) (F := z_ui (z_qk _ p779) ((1 : Int32).toNatClampNeg) y787) (v := y787) h65 (by omega) hp779 (z_ui_ne (by decide)) (by rw [show (1 : Int32).toNatClampNeg = 1 from by decide]; exact z_ui_self)
                              rw [hv0779, z_cla (by omega)] at R67
                              rw [show sp_T (sp_tc (sp_uT S i599 (A ++ x :: L2)) i599 _) i599 = A ++ x :: L2 from (congrFun sp_tcT _).trans z_fu_self, sp_st_mid hnd, sp_tcu, sp_uTT] at R67
                              refine j_aload dX11_replaceTable_167 rfl rfl ?_
                              refine j_iconst (v := 3) dX11_replaceTable_169 (by decide) ?_
                              refine j_dup2 dX11_replaceTable_170 rfl rfl ?_
                              refine j_ld dX11_replaceTable_171 (h67.cn (i := 2) (by decide)) (vp_in_nI (n := 3) (by decide) (by decide)) ?_
                              refine j_iconst (v := 1) dX11_replaceTable_172 (by decide) ?_
                              refine j_iadd dX11_replaceTable_173 ?_
                              refine j_sto (w' := _) dX11_replaceTable_174 (h67.cn (i := 2) (by decide)) (vp_in_nI (n := 3) (by decide) (by decide)) rfl ?_
                              refine j_seal (by omega) ?_
                              intro w68 u68
                              have fw68 := u68.fw (ρ := 44 + 2) (by omega) (by omega)
                              have g68_it768 := (fun z => (u68.2.1 it768 (fun z9 => by have h9 := hitb768; rw [z9] at h9; omega)).trans z) g67_it768
                              have h68 := h67.up44 (i0 := 2) (by decide) fw68 u68.1
                              rw [show (3 : Int32).toNatClampNeg = 3 by decide] at h68
                              have R68 := sp_MR.bpTu (k := 3) hb54 R67 (by decide)
                              refine j_goto (tgt := 96) dX11_replaceTable_175 (by decide) ?_
                              refine j_widen (kc' := 2) (ks' := 11) (by omega) (by omega) ?_
                              exact j_lo2 (ih w68 _ (A ++ [(x.1, y787)]) L2 _ (z_bp (z_bp (z_bp c 1) 2) 3) (by rw [List.length_cons] at hf9; omega) sp_apl (by rw [sp_rtS hq787] at he; exact he) (fun p hp => hv p (List.mem_cons_of_mem _ hp)) (by rw [← sp_mid]; exact R68) (by exact hth) h68 (((((hfm.tr fm63).tr (fw64.fm (q := 59) (by omega))).tr (fw65.fm (q := 59) (by omega))).tr (fw67.fm (q := 59) (by omega))).tr (fw68.fm (q := 59) (by omega))) (by rw [List.length_append]; exact g68_it768)) (z_q1 rfl (z_q1 rfl (z_q1 rfl (z_q1 rfl (z_q1 rfl (z_q1 rfl z_q0))))))
                            · exact absurd c_153_1263 hne787
                    refine j_widen (kc' := 2) (ks' := 11) (by omega) (by omega) ?_
                    exact j_lo2 (loop96 ((sp_T S i599).length + 1) w60 _ [] (sp_T S i599) _ (z_bp (sp_C S 2) 0) (Nat.lt_succ_self _) sp_apl (by exact rfl) (fun p hp => ((ok.2.1 i599 (by omega)).2 p hp).2) (by rw [List.nil_append, sp_uT_id, sp_tc0 hb54]; exact R59) (by exact rfl) h60 (((fm2.le (q' := 59) (by decide)).tr (fw59.fm (q := 59) (by omega))).tr fm60) git768) (z_q1 rfl (z_q1 rfl (z_q1 rfl (z_q1 rfl (z_q1 rfl (z_q1 rfl z_q0))))))
                · exact absurd c_48_906 (by decide)
              · exact absurd c_36_900 (by decide)
          · refine j_iload_n dX11_replaceTable_27 rfl ?_
            refine j_iconst (v := 5) dX11_replaceTable_28 (by decide) ?_
            refine j_icmp_ne (tgt := 39) dX11_replaceTable_29 (by decide) (fun c_29_1303 => ?_) (fun c_29_1303 => ?_)
            · refine j_iconst (v := 1) dX11_replaceTable_39 (by decide) ?_
              refine j_goto (tgt := 44) dX11_replaceTable_40 (by decide) ?_
              refine j_iconst (v := 2) dX11_replaceTable_44 (by decide) ?_
              refine j_callV (q := (RX11, TX11, 8)) dX11_replaceTable_45 kX11_refuse lX11_52 inX11_refuse seX11_refuse h2.m rfl (cm_refuse1 hl w2 _ _ h2 rfl (by decide)) (Nat.le_of_ble_eq_true rfl) ⟨(by show _ ≤ 2; omega), (by show _ ≤ 11; omega)⟩ rfl (Nat.le_of_ble_eq_true rfl) rfl rfl (fun _ _ h => h.elim) ?_
              rintro _ w69 ⟨rfl, fm69, h69⟩
              have R69 := R2.th (k := 2)
              refine j_if_eq (tgt := 53) dX11_replaceTable_48 (by decide) (fun c_48_1310 => ?_) (fun c_48_1310 => ?_)
              · exact absurd c_48_1310 (by decide)
              · refine j_iconst (v := 0) dX11_replaceTable_51 (by decide) ?_
                refine j_iret dX11_replaceTable_52 rfl rfl ?_ (by show _ ≤ 2; omega) (by show _ ≤ 11; omega)
                refine cast (congrFun (congrFun hQ9 _) _) ?_
                try rw [ei599]
                refine ⟨_, _, rfl, ((fm2.le (q' := 59) (by decide)).tr (fm69.le (q' := 59) (by decide))), h69, sp_X1 (k := 2) ?_ (by decide) rfl R69⟩
                first | (first | (refine sp_k32_2 ?_ ?_ <;> (first | (with_reducible assumption) | (refine Or.inl ?_; (with_reducible assumption)) | (refine Or.inr ?_; (with_reducible assumption)) | (refine Or.inr (Or.inl ?_); (with_reducible assumption)) | (refine Or.inr (Or.inr ?_); (with_reducible assumption)) | (refine Or.inr (Or.inr (Or.inl ?_)); (with_reducible assumption)) | (refine Or.inr (Or.inr (Or.inr ?_)); (with_reducible assumption)) | (refine fun z => Or.elim z ?_ ?_ <;> (with_reducible assumption)) | (refine fun z => Or.elim z ?_ (fun z => Or.elim z ?_ ?_) <;> (with_reducible assumption)) | (refine fun z => Or.elim z ?_ (fun z => Or.elim z ?_ (fun z => Or.elim z ?_ ?_)) <;> (with_reducible assumption)) | (refine fun z => Or.elim z (fun z9 => z9 ?_) ?_ <;> (first | (with_reducible assumption) | (refine Or.inl ?_; (with_reducible assumption)) | (refine Or.inr (Or.inl ?_); (with_reducible assumption)) | (refine Or.inr (Or.inr ?_); (with_reducible assumption)) | (refine Or.inr (Or.inr (Or.inl ?_)); (with_reducible assumption)) | (refine Or.inr (Or.inr (Or.inr ?_)); (with_reducible assumption)))) | (refine Or.inl (fun z => Or.elim z ?_ (fun z => Or.elim z ?_ ?_)) <;> (with_reducible assumption)) | (refine Or.inl (fun z => Or.elim z ?_ (fun z => Or.elim z ?_ (fun z => Or.elim z ?_ ?_))) <;> (with_reducible assumption))))) | (first | (refine sp_k32_2 ?_ ?_ <;> (first | assumption | (refine Or.inl ?_; assumption) | (refine Or.inr ?_; assumption) | (refine Or.inr (Or.inl ?_); assumption) | (refine Or.inr (Or.inr ?_); assumption) | (refine Or.inr (Or.inr (Or.inl ?_)); assumption) | (refine Or.inr (Or.inr (Or.inr ?_)); assumption) | (refine fun z => Or.elim z ?_ ?_ <;> assumption) | (refine fun z => Or.elim z ?_ (fun z => Or.elim z ?_ ?_) <;> assumption) | (refine fun z => Or.elim z ?_ (fun z => Or.elim z ?_ (fun z => Or.elim z ?_ ?_)) <;> assumption) | (refine fun z => Or.elim z (fun z9 => z9 ?_) ?_ <;> (first | assumption | (refine Or.inl ?_; assumption) | (refine Or.inr (Or.inl ?_); assumption) | (refine Or.inr (Or.inr ?_); assumption) | (refine Or.inr (Or.inr (Or.inl ?_)); assumption) | (refine Or.inr (Or.inr (Or.inr ?_)); assumption))) | (refine Or.inl (fun z => Or.elim z ?_ (fun z => Or.elim z ?_ ?_)) <;> assumption) | (refine Or.inl (fun z => Or.elim z ?_ (fun z => Or.elim z ?_ (fun z => Or.elim z ?_ ?_))) <;> assumption))))
            · refine j_iload_n dX11_replaceTable_32 rfl ?_
              refine j_callS dX11_replaceTable_33 kX11_isNoValue lX11_79 stX11_isNoValue (cm_isNoValue_r hl w2 _) (Nat.le_of_ble_eq_true rfl) ⟨(by show _ ≤ 2; omega), (by show _ ≤ 11; omega)⟩ rfl (Nat.le_of_ble_eq_true rfl) rfl rfl (fun _ _ h => h.elim) ?_
              rintro _ _ ⟨⟨rfl, hno792⟩ | ⟨rfl, hye792⟩, hw792⟩
              · refine j_w w2 hw792 ?_
                refine j_if_eq (tgt := 43) dX11_replaceTable_36 (by decide) (fun c_36_1322 => ?_) (fun c_36_1322 => ?_)
                · exact absurd c_36_1322 (by decide)
                · refine j_iconst (v := 1) dX11_replaceTable_39 (by decide) ?_
                  refine j_goto (tgt := 44) dX11_replaceTable_40 (by decide) ?_
                  refine j_iconst (v := 2) dX11_replaceTable_44 (by decide) ?_
                  refine j_callV (q := (RX11, TX11, 8)) dX11_replaceTable_45 kX11_refuse lX11_52 inX11_refuse seX11_refuse h2.m rfl (cm_refuse1 hl w2 _ _ h2 rfl (by decide)) (Nat.le_of_ble_eq_true rfl) ⟨(by show _ ≤ 2; omega), (by show _ ≤ 11; omega)⟩ rfl (Nat.le_of_ble_eq_true rfl) rfl rfl (fun _ _ h => h.elim) ?_
                  rintro _ w70 ⟨rfl, fm70, h70⟩
                  have R70 := R2.th (k := 2)
                  refine j_if_eq (tgt := 53) dX11_replaceTable_48 (by decide) (fun c_48_1330 => ?_) (fun c_48_1330 => ?_)
                  · exact absurd c_48_1330 (by decide)
                  · refine j_iconst (v := 0) dX11_replaceTable_51 (by decide) ?_
                    refine j_iret dX11_replaceTable_52 rfl rfl ?_ (by show _ ≤ 2; omega) (by show _ ≤ 11; omega)
                    refine cast (congrFun (congrFun hQ9 _) _) ?_
                    try rw [ei599]
                    refine ⟨_, _, rfl, ((fm2.le (q' := 59) (by decide)).tr (fm70.le (q' := 59) (by decide))), h70, sp_X1 (k := 2) ?_ (by decide) rfl R70⟩
                    first | (first | (refine sp_k32_2 ?_ ?_ <;> (first | (with_reducible assumption) | (refine Or.inl ?_; (with_reducible assumption)) | (refine Or.inr ?_; (with_reducible assumption)) | (refine Or.inr (Or.inl ?_); (with_reducible assumption)) | (refine Or.inr (Or.inr ?_); (with_reducible assumption)) | (refine Or.inr (Or.inr (Or.inl ?_)); (with_reducible assumption)) | (refine Or.inr (Or.inr (Or.inr ?_)); (with_reducible assumption)) | (refine fun z => Or.elim z ?_ ?_ <;> (with_reducible assumption)) | (refine fun z => Or.elim z ?_ (fun z => Or.elim z ?_ ?_) <;> (with_reducible assumption)) | (refine fun z => Or.elim z ?_ (fun z => Or.elim z ?_ (fun z => Or.elim z ?_ ?_)) <;> (with_reducible assumption)) | (refine fun z => Or.elim z (fun z9 => z9 ?_) ?_ <;> (first | (with_reducible assumption) | (refine Or.inl ?_; (with_reducible assumption)) | (refine Or.inr (Or.inl ?_); (with_reducible assumption)) | (refine Or.inr (Or.inr ?_); (with_reducible assumption)) | (refine Or.inr (Or.inr (Or.inl ?_)); (with_reducible assumption)) | (refine Or.inr (Or.inr (Or.inr ?_)); (with_reducible assumption)))) | (refine Or.inl (fun z => Or.elim z ?_ (fun z => Or.elim z ?_ ?_)) <;> (with_reducible assumption)) | (refine Or.inl (fun z => Or.elim z ?_ (fun z => Or.elim z ?_ (fun z => Or.elim z ?_ ?_))) <;> (with_reducible assumption))))) | (first | (refine sp_k32_2 ?_ ?_ <;> (first | assumption | (refine Or.inl ?_; assumption) | (refine Or.inr ?_; assumption) | (refine Or.inr (Or.inl ?_); assumption) | (refine Or.inr (Or.inr ?_); assumption) | (refine Or.inr (Or.inr (Or.inl ?_)); assumption) | (refine Or.inr (Or.inr (Or.inr ?_)); assumption) | (refine fun z => Or.elim z ?_ ?_ <;> assumption) | (refine fun z => Or.elim z ?_ (fun z => Or.elim z ?_ ?_) <;> assumption) | (refine fun z => Or.elim z ?_ (fun z => Or.elim z ?_ (fun z => Or.elim z ?_ ?_)) <;> assumption) | (refine fun z => Or.elim z (fun z9 => z9 ?_) ?_ <;> (first | assumption | (refine Or.inl ?_; assumption) | (refine Or.inr (Or.inl ?_); assumption) | (refine Or.inr (Or.inr ?_); assumption) | (refine Or.inr (Or.inr (Or.inl ?_)); assumption) | (refine Or.inr (Or.inr (Or.inr ?_)); assumption))) | (refine Or.inl (fun z => Or.elim z ?_ (fun z => Or.elim z ?_ ?_)) <;> assumption) | (refine Or.inl (fun z => Or.elim z ?_ (fun z => Or.elim z ?_ (fun z => Or.elim z ?_ ?_))) <;> assumption))))
              · refine j_w w2 hw792 ?_
                refine j_if_eq (tgt := 43) dX11_replaceTable_36 (by decide) (fun c_36_1339 => ?_) (fun c_36_1339 => ?_)
                · refine j_iconst (v := 0) dX11_replaceTable_43 (by decide) ?_
                  refine j_iconst (v := 2) dX11_replaceTable_44 (by decide) ?_
                  refine j_callV (q := (RX11, TX11, 8)) dX11_replaceTable_45 kX11_refuse lX11_52 inX11_refuse seX11_refuse h2.m rfl (cm_refuse0 hl w2 _ _ h2 rfl) (Nat.le_of_ble_eq_true rfl) ⟨(by show _ ≤ 2; omega), (by show _ ≤ 11; omega)⟩ rfl (Nat.le_of_ble_eq_true rfl) rfl rfl (fun _ _ h => h.elim) ?_
                  rintro _ _ ⟨rfl, hw793⟩
                  refine j_w w2 hw793 ?_
                  refine j_if_eq (tgt := 53) dX11_replaceTable_48 (by decide) (fun c_48_1345 => ?_) (fun c_48_1345 => ?_)
                  · refine j_iload_n dX11_replaceTable_53 rfl ?_
                    refine j_if_ne (tgt := 66) dX11_replaceTable_54 (by decide) (fun c_54_1347 => ?_) (fun c_54_1347 => ?_)
                    · have hb54 : ¬ i599 = 0 := fun z => c_54_1347 (show nI i599 = nI 0 by rw [z])
                      refine j_bipush (v := 7) dX11_replaceTable_66 (by decide) ?_
                      obtain ⟨x4, hx4a, hx4b, hx4c⟩ := z_fresh (57) (by decide) h2.fn
                      refine j_newa (kd := 0) (N := 7) (w' := _) (n := x4) dX11_replaceTable_68 rfl rfl arc_int ⟨rfl, fun _ _ h => h⟩ (by decide) rfl (by decide) rfl (z_alW hx4c hx4a) (Nat.le_of_ble_eq_true rfl) (Nat.le_of_ble_eq_true rfl) ?_
                      refine j_seal hx4a ?_
                      intro w71 u71
                      have fw71 := u71.fw hx4a hx4b
                      have g71_x4 := u71.1
                      have h71 := h2.gar fw71 (by omega)
                      refine j_astore (lo' := [(4, _), (0, _), (1, _), (2, _), (3, _)]) dX11_replaceTable_70 rfl (by decide) rfl ?_
                      refine j_aload dX11_replaceTable_72 rfl rfl ?_
                      refine j_iconst (v := 0) dX11_replaceTable_74 (by decide) ?_
                      refine j_dup2 dX11_replaceTable_75 rfl rfl ?_
                      refine j_ld dX11_replaceTable_76 g71_x4 (vp_in_nI (n := 0) (by decide) (by decide)) ?_
                      refine j_iconst (v := 1) dX11_replaceTable_77 (by decide) ?_
                      refine j_iadd dX11_replaceTable_78 ?_
                      refine j_sto (w' := _) dX11_replaceTable_79 g71_x4 (vp_in_nI (n := 0) (by decide) (by decide)) rfl ?_
                      refine j_seal hx4a ?_
                      intro w72 u72
                      have fw72 := u72.fw hx4a hx4b
                      have g72_x4 := u72.1
                      have h72 := h71.gar fw72 (by omega)
                      refine j_aload_n dX11_replaceTable_80 rfl rfl ?_
                      refine j_getf dX11_replaceTable_81 fX11_34 h72.m rfl ?_
                      refine j_iload_n dX11_replaceTable_84 rfl ?_
                      obtain ⟨lv798, -, lg798⟩ := z_li.cell h72.tabs
                      refine j_callV (q := (RJx4a65c, TJx4a65c, 3)) dX11_replaceTable_85 kJx4a65c_get_915e3 lX11_82 inJx4a65c_get_915e3 seJx4a65c_get_915e3 lg798 rfl (cl_get hl w72 47 1007 _ _ (i599) _ h72.tabs (z_thr3 (t := i599) (by omega))) (Nat.le_of_ble_eq_true rfl) ⟨(by show _ ≤ 2; omega), (by show _ ≤ 11; omega)⟩ rfl (Nat.le_of_ble_eq_true rfl) rfl rfl (fun _ _ h => h.elim) ?_
                      rintro _ _ ⟨rfl, hw799⟩
                      refine j_w w72 hw799 ?_
                      refine j_castS dX11_replaceTable_88 (z_w 1341 ((lwt_6_3 6).trans rfl) (by decide +kernel)) (z_li.is (h72.tb (t := i599) (by omega))) ?_
                      obtain ⟨lv802, -, lg802⟩ := z_li.cell (h72.tb (t := i599) (by omega))
                      refine j_callV (q := (RJx4a65c, TJx4a65c, 3)) dX11_replaceTable_91 kJx4a65c_iterator_32c93 lX11_162 inJx4a65c_iterator_32c93 seJx4a65c_iterator_32c93 lg802 rfl (cl_iter hl w72 58 (51 + i599) _ _ _ (h72.tb (t := i599) (by omega)) (by decide) (by omega) h72.fn) (Nat.le_of_ble_eq_true rfl) ⟨(by show _ ≤ 2; omega), (by show _ ≤ 11; omega)⟩ rfl (Nat.le_of_ble_eq_true rfl) rfl rfl (fun _ _ h => h.elim) ?_
                      rintro _ w73 ⟨it801, rfl, fw73, hita801, hitb801, hitc801, la801, git801⟩
                      have hita801 : 1000 ≤ it801 := hita801
                      have hitb801 : it801 % 64 = 58 := hitb801
                      have n_x4_it801 := z_neF hitc801 g72_x4
                      have g73_x4 := fw73.g (Or.inr (by omega)) g72_x4
                      have fm73 := fw73.fm (q := 59) (by omega)
                      have h73 := h72.gar fw73 (by omega)
                      refine j_astore (lo' := [(5, _), (4, _), (0, _), (1, _), (2, _), (3, _)]) dX11_replaceTable_94 rfl (by decide) rfl ?_
                      have loop96 : ∀ (n9 : Nat) (w74 : z_W) (s1 : z_Z) (A L : List (Nat × Int32)) (la : Int32) (c : Nat → Int32) (F : Nat → Int32), (L.length < n9) → (A.length ≤ (A ++ L).length) → (sp_rt r n c A L = sp_ctb S i599 r n) → (∀ p ∈ L, z_vl p.2) → (sp_MR (sp_tc (sp_uT S i599 (A ++ L)) i599 c) s1) → (s1.1.1 = 0) → (z_mst w74 s1) → (z_fm 59 w w74) → (z_g w74 it801 = some (.inr (3, [.int (nI A.length), .int la, .int (z_qp s1 i599).1, .ref (1011 + i599)]))) → (z_g w74 x4 = some (.inl (0, 7, fun j => .int (F j)))) → z_J G l mX11_replaceTable (22, 2, 11, w, Q9, (fun _ _ => False)) 96 [(0, .ref 1000), (1, .int (nI i599)), (2, .int r), (3, .int n), (4, .ref x4), (5, .ref it801)] [] w74 2 11 := by
                        intro n9
                        induction n9 with
                        | zero => intro w74 s1 A L la c F hf9 hAl he hv hR hth hm hfm git gx; exact absurd hf9 (Nat.not_lt_zero _)
                        | succ n9 ih =>
                          intro w74 s1 A L la c F hf9 hAl he hv hR hth hm hfm git gx
                          refine j_aload dX11_replaceTable_96 rfl rfl ?_
                          refine j_callF (x := ⟨"java/util/Iterator", "hasNext", "()Z"⟩) (q := (RJx35411, TJx35411, 4)) dX11_replaceTable_98 kJx35411_hasNext_aae02 ⟨(z_w 1765 ((lwt_8_1 10).trans rfl) (by decide +kernel)), (z_w 1769 ((lwt_8_1 14).trans rfl) (by decide +kernel)), inJx35411_hasNext_aae02, ⟨by decide, by decide⟩, rfl, fun U h => h.2.1⟩ git rfl (cl_hasN hl w74 _ (51 + i599) _ (A.length) _ _ (hm.tb (t := i599) (by omega)) ⟨_, git⟩ (by rw [z_rs_len, hR.tlB (by omega) ((congrFun sp_tcT _).trans z_fu_self)]; omega)) (Nat.le_of_ble_eq_true rfl) ⟨(by show _ ≤ 2; omega), (by show _ ≤ 11; omega)⟩ rfl (Nat.le_of_ble_eq_true rfl) rfl ?_
                          rintro _ _ ⟨⟨x803, rfl, hz803, hp803⟩, hw803⟩
                          refine j_w w74 hw803 ?_
                          rw [z_rs_len, hR.tlB (by omega) ((congrFun sp_tcT _).trans z_fu_self)] at hz803 hp803
                          refine j_if_eq (tgt := 178) dX11_replaceTable_103 (by decide) (fun c_103_1399 => ?_) (fun c_103_1399 => ?_)
                          · have hk103 : A.length = (A ++ L).length := hz803 c_103_1399
                            obtain rfl : L = [] := List.eq_nil_of_length_eq_zero (by rw [List.length_append] at hk103; omega)
                            refine j_aload dX11_replaceTable_178 rfl rfl ?_
                            refine j_iconst (v := 1) dX11_replaceTable_180 (by decide) ?_
                            refine j_dup2 dX11_replaceTable_181 rfl rfl ?_
                            refine j_ld dX11_replaceTable_182 gx (vp_in_nI (n := 1) (by decide) (by decide)) ?_
                            refine j_iconst (v := 1) dX11_replaceTable_183 (by decide) ?_
                            refine j_iadd dX11_replaceTable_184 ?_
                            refine j_sto (w' := _) dX11_replaceTable_185 gx (vp_in_nI (n := 1) (by decide) (by decide)) rfl ?_
                            refine j_seal hx4a ?_
                            intro w75 u75
                            have fw75 := u75.fw hx4a hx4b
                            have g75_it801 := (u75.2.1 it801 (Ne.symm n_x4_it801)).trans git
                            have g75_x4 := u75.1
                            have h75 := hm.gar fw75 (by omega)
                            refine j_aload_n dX11_replaceTable_186 rfl rfl ?_
                            refine j_getf dX11_replaceTable_187 fX11_34 h75.m rfl ?_
                            refine j_iload_n dX11_replaceTable_190 rfl ?_
                            obtain ⟨lv807, -, lg807⟩ := z_li.cell h75.tabs
                            refine j_callV (q := (RJx4a65c, TJx4a65c, 3)) dX11_replaceTable_191 kJx4a65c_get_915e3 lX11_82 inJx4a65c_get_915e3 seJx4a65c_get_915e3 lg807 rfl (cl_get hl w75 47 1007 _ _ (i599) _ h75.tabs (z_thr3 (t := i599) (by omega))) (Nat.le_of_ble_eq_true rfl) ⟨(by show _ ≤ 2; omega), (by show _ ≤ 11; omega)⟩ rfl (Nat.le_of_ble_eq_true rfl) rfl rfl (fun _ _ h => h.elim) ?_
                            rintro _ _ ⟨rfl, hw808⟩
                            refine j_w w75 hw808 ?_
                            refine j_castS dX11_replaceTable_194 (z_w 1341 ((lwt_6_3 6).trans rfl) (by decide +kernel)) (z_li.is (h75.tb (t := i599) (by omega))) ?_
                            obtain ⟨lv810, -, lg810⟩ := z_li.cell (h75.tb (t := i599) (by omega))
                            refine j_callV (q := (RJx4a65c, TJx4a65c, 3)) dX11_replaceTable_197 kJx4a65c_size_8abf5 lX11_86 inJx4a65c_size_8abf5 seJx4a65c_size_8abf5 lg810 rfl (cl_sizeT hl w75 (i599) ((A ++ [])) h75 hR (by omega) ((congrFun sp_tcT _).trans z_fu_self)) (Nat.le_of_ble_eq_true rfl) ⟨(by show _ ≤ 2; omega), (by show _ ≤ 11; omega)⟩ rfl (Nat.le_of_ble_eq_true rfl) rfl rfl (fun _ _ h => h.elim) ?_
                            rintro _ _ ⟨rfl, hw811⟩
                            refine j_w w75 hw811 ?_
                            have hz811 : ((A ++ [])).length ≤ 20 := hR.l20 h75 (t := i599) (by omega) ((congrFun sp_tcT _).trans z_fu_self)
                            refine j_iret dX11_replaceTable_200 rfl rfl ?_ (by show _ ≤ 2; omega) (by show _ ≤ 11; omega)
                            refine cast (congrFun (congrFun hQ9 _) _) ?_
                            rw [List.append_nil] at hR
                            try rw [ei599]
                            refine ⟨_, _, rfl, (hfm.tr (fw75.fm (q := 59) (by omega))), h75, sp_X0 ?_ hth (by unfold sp_ctbS; rw [← he]; have e := hR; rw [sp_tcn hb54] at e; show sp_MR (sp_tc (sp_uT S _ _) _ _) _; rw [sp_tcn hb54]; exact e) (by rw [← he, List.append_nil]; rfl)⟩
                            first | (first | (refine sp_k32_0 ?_ ?_ <;> (first | (with_reducible assumption) | (refine Or.inl ?_; (with_reducible assumption)) | (refine Or.inr ?_; (with_reducible assumption)) | (refine Or.inr (Or.inl ?_); (with_reducible assumption)) | (refine Or.inr (Or.inr ?_); (with_reducible assumption)) | (refine Or.inr (Or.inr (Or.inl ?_)); (with_reducible assumption)) | (refine Or.inr (Or.inr (Or.inr ?_)); (with_reducible assumption)) | (refine fun z => Or.elim z ?_ ?_ <;> (with_reducible assumption)) | (refine fun z => Or.elim z ?_ (fun z => Or.elim z ?_ ?_) <;> (with_reducible assumption)) | (refine fun z => Or.elim z ?_ (fun z => Or.elim z ?_ (fun z => Or.elim z ?_ ?_)) <;> (with_reducible assumption)) | (refine fun z => Or.elim z (fun z9 => z9 ?_) ?_ <;> (first | (with_reducible assumption) | (refine Or.inl ?_; (with_reducible assumption)) | (refine Or.inr (Or.inl ?_); (with_reducible assumption)) | (refine Or.inr (Or.inr ?_); (with_reducible assumption)) | (refine Or.inr (Or.inr (Or.inl ?_)); (with_reducible assumption)) | (refine Or.inr (Or.inr (Or.inr ?_)); (with_reducible assumption)))) | (refine Or.inl (fun z => Or.elim z ?_ (fun z => Or.elim z ?_ ?_)) <;> (with_reducible assumption)) | (refine Or.inl (fun z => Or.elim z ?_ (fun z => Or.elim z ?_ (fun z => Or.elim z ?_ ?_))) <;> (with_reducible assumption))))) | (first | (refine sp_k32_0 ?_ ?_ <;> (first | assumption | (refine Or.inl ?_; assumption) | (refine Or.inr ?_; assumption) | (refine Or.inr (Or.inl ?_); assumption) | (refine Or.inr (Or.inr ?_); assumption) | (refine Or.inr (Or.inr (Or.inl ?_)); assumption) | (refine Or.inr (Or.inr (Or.inr ?_)); assumption) | (refine fun z => Or.elim z ?_ ?_ <;> assumption) | (refine fun z => Or.elim z ?_ (fun z => Or.elim z ?_ ?_) <;> assumption) | (refine fun z => Or.elim z ?_ (fun z => Or.elim z ?_ (fun z => Or.elim z ?_ ?_)) <;> assumption) | (refine fun z => Or.elim z (fun z9 => z9 ?_) ?_ <;> (first | assumption | (refine Or.inl ?_; assumption) | (refine Or.inr (Or.inl ?_); assumption) | (refine Or.inr (Or.inr ?_); assumption) | (refine Or.inr (Or.inr (Or.inl ?_)); assumption) | (refine Or.inr (Or.inr (Or.inr ?_)); assumption))) | (refine Or.inl (fun z => Or.elim z ?_ (fun z => Or.elim z ?_ ?_)) <;> assumption) | (refine Or.inl (fun z => Or.elim z ?_ (fun z => Or.elim z ?_ (fun z => Or.elim z ?_ ?_))) <;> assumption))))
                          · have hk103 : A.length < (A ++ L).length := hp803 c_103_1399
                            obtain ⟨x, L2, rfl⟩ : ∃ x L2, L = x :: L2 := by
                              cases L with
                              | nil => rw [List.append_nil] at hk103; exact absurd hk103 (Nat.lt_irrefl _)
                              | cons x L2 => exact ⟨x, L2, rfl⟩
                            refine j_aload dX11_replaceTable_106 rfl rfl ?_
                            obtain ⟨p812, hp812, hq812, hk812, hv0812, hv1812, hv2812⟩ := hR.prB hm (t := i599) (k := A.length) (by omega) ((congrFun sp_tcT _).trans z_fu_self) sp_mid?
                            refine j_callF (x := ⟨"java/util/Iterator", "next", "()Ljava/lang/Object;"⟩) (q := (RJx35411, TJx35411, 4)) dX11_replaceTable_108 kJx35411_next_0502b ⟨(z_w 1775 ((lwt_8_1 20).trans rfl) (by decide +kernel)), (z_w 1778 ((lwt_8_1 23).trans rfl) (by decide +kernel)), inJx35411_next_0502b, ⟨by decide, by decide⟩, rfl, fun U h => h.2.2.1⟩ git rfl (cl_next hl w74 58 it801 (51 + i599) _ (A.length) _ _ _ (hm.tb (t := i599) (by omega)) ⟨_, git⟩ hq812 hita801 hitb801 (by omega)) (Nat.le_of_ble_eq_true rfl) ⟨(by show _ ≤ 2; omega), (by show _ ≤ 11; omega)⟩ rfl (Nat.le_of_ble_eq_true rfl) rfl ?_
                            rintro _ w76 ⟨rfl, fw76, la76, git76⟩
                            have g76_x4 := fw76.g (Or.inr (by omega)) gx
                            have fm76 := fw76.fm (q := 59) (by omega)
                            have h76 := hm.gar fw76 (by omega)
                            refine j_castS dX11_replaceTable_113 (z_w 1663 ((lwt_7_5 28).trans rfl) (by decide +kernel)) (z_isA ((h76.pr (t := i599) (by omega)).1 p812 hp812).2) ?_
                            refine j_astore (lo' := [(6, _), (0, _), (1, _), (2, _), (3, _), (4, _), (5, _)]) dX11_replaceTable_116 rfl (by decide) rfl ?_
                            refine j_aload dX11_replaceTable_118 rfl rfl ?_
                            refine j_iconst (v := 1) dX11_replaceTable_120 (by decide) ?_
                            refine j_dup2 dX11_replaceTable_121 rfl rfl ?_
                            refine j_ld dX11_replaceTable_122 g76_x4 (vp_in_nI (n := 1) (by decide) (by decide)) ?_
                            refine j_iconst (v := 1) dX11_replaceTable_123 (by decide) ?_
                            refine j_iadd dX11_replaceTable_124 ?_
                            refine j_sto (w' := _) dX11_replaceTable_125 g76_x4 (vp_in_nI (n := 1) (by decide) (by decide)) rfl ?_
                            refine j_seal hx4a ?_
                            intro w77 u77
                            have fw77 := u77.fw hx4a hx4b
                            have g77_it801 := (u77.2.1 it801 (Ne.symm n_x4_it801)).trans git76
                            have g77_x4 := u77.1
                            have h77 := h76.gar fw77 (by omega)
                            refine j_aload dX11_replaceTable_126 rfl rfl ?_
                            refine j_iconst (v := 2) dX11_replaceTable_128 (by decide) ?_
                            refine j_dup2 dX11_replaceTable_129 rfl rfl ?_
                            refine j_ld dX11_replaceTable_130 g77_x4 (vp_in_nI (n := 2) (by decide) (by decide)) ?_
                            refine j_iconst (v := 1) dX11_replaceTable_131 (by decide) ?_
                            refine j_iadd dX11_replaceTable_132 ?_
                            refine j_sto (w' := _) dX11_replaceTable_133 g77_x4 (vp_in_nI (n := 2) (by decide) (by decide)) rfl ?_
                            refine j_seal hx4a ?_
                            intro w78 u78
                            have fw78 := u78.fw hx4a hx4b
                            have g78_it801 := (u78.2.1 it801 (Ne.symm n_x4_it801)).trans g77_it801
                            have g78_x4 := u78.1
                            have h78 := h77.gar fw78 (by omega)
                            refine j_iload_n dX11_replaceTable_134 rfl ?_
                            refine j_aload dX11_replaceTable_135 rfl rfl ?_
                            refine j_iconst (v := 0) dX11_replaceTable_137 (by decide) ?_
                            refine j_ld dX11_replaceTable_138 ((h78.pr (t := i599) (by omega)).1 p812 hp812).2 (vp_in_nI (n := 0) (by decide) (by decide)) ?_
                            refine j_top (congrArg Value.int (show _ = nI x.1 from by rw [show (0 : Int32).toNatClampNeg = 0 from by decide]; exact hv0812)) ?_
                            refine j_aload dX11_replaceTable_139 rfl rfl ?_
                            refine j_iconst (v := 1) dX11_replaceTable_141 (by decide) ?_
                            refine j_ld dX11_replaceTable_142 ((h78.pr (t := i599) (by omega)).1 p812 hp812).2 (vp_in_nI (n := 1) (by decide) (by decide)) ?_
                            refine j_top (congrArg Value.int (show _ = x.2 from by rw [show (1 : Int32).toNatClampNeg = 1 from by decide]; exact hv1812)) ?_
                            refine j_iload_n dX11_replaceTable_143 rfl ?_
                            refine j_callS dX11_replaceTable_144 kX11_rule lX11_115 stX11_rule (cm_rule_r hl w78 _ _ _ _ (hv _ List.mem_cons_self).2 (sp_vl (by assumption)).2) (Nat.le_of_ble_eq_true rfl) ⟨(by show _ ≤ 2; omega), (by show _ ≤ 11; omega)⟩ rfl (Nat.le_of_ble_eq_true rfl) rfl rfl (fun _ _ h => h.elim) ?_
                            rintro _ _ ⟨⟨rfl, hq820⟩ | ⟨y820, rfl, hq820, hne820⟩, hw820⟩
                            · refine j_w w78 hw820 ?_
                              refine j_istore (lo' := [(7, _), (6, _), (0, _), (1, _), (2, _), (3, _), (4, _), (5, _)]) dX11_replaceTable_147 (by decide) rfl ?_
                              refine j_iload dX11_replaceTable_149 rfl ?_
                              refine j_ldc dX11_replaceTable_151 kcX11_67 ?_
                              refine j_icmp_ne (tgt := 161) dX11_replaceTable_153 (by decide) (fun c_153_1490 => ?_) (fun c_153_1490 => ?_)
                              · exact absurd c_153_1490 (by decide)
                              · refine j_aload_n dX11_replaceTable_156 rfl rfl ?_
                                refine j_callV (q := (RX11, TX11, 8)) dX11_replaceTable_157 kX11_nine lX11_105 inX11_nine seX11_nine h78.m rfl (cm_nine hl w78 _ h78) (Nat.le_of_ble_eq_true rfl) ⟨(by show _ ≤ 2; omega), (by show _ ≤ 11; omega)⟩ rfl (Nat.le_of_ble_eq_true rfl) rfl rfl (fun _ _ h => h.elim) ?_
                                rintro _ w79 ⟨rfl, fm79, h79⟩
                                have g79_it801 := fm79.g hita801 (by rw [hitb801]; decide) g78_it801
                                have g79_x4 := fm79.g hx4a (by rw [hx4b]; decide) g78_x4
                                have R79 := hR.ni
                                refine j_iret dX11_replaceTable_160 rfl rfl ?_ (by show _ ≤ 2; omega) (by show _ ≤ 11; omega)
                                refine cast (congrFun (congrFun hQ9 _) _) ?_
                                rw [sp_rtN hq820] at he
                                try rw [ei599]
                                refine ⟨_, _, rfl, ((((hfm.tr fm76).tr (fw77.fm (q := 59) (by omega))).tr (fw78.fm (q := 59) (by omega))).tr (fm79.le (q' := 59) (by decide))), h79, sp_X0 ?_ hth (by unfold sp_ctbS; rw [← he]; have e := R79; rw [sp_tcn hb54] at e; show sp_MR (sp_nine (sp_tc (sp_uT S _ _) _ _)) _; rw [sp_tcn hb54]; exact e) (by rw [← he]; rfl)⟩
                                first | (first | (refine sp_k32_0 ?_ ?_ <;> (first | (with_reducible assumption) | (refine Or.inl ?_; (with_reducible assumption)) | (refine Or.inr ?_; (with_reducible assumption)) | (refine Or.inr (Or.inl ?_); (with_reducible assumption)) | (refine Or.inr (Or.inr ?_); (with_reducible assumption)) | (refine Or.inr (Or.inr (Or.inl ?_)); (with_reducible assumption)) | (refine Or.inr (Or.inr (Or.inr ?_)); (with_reducible assumption)) | (refine fun z => Or.elim z ?_ ?_ <;> (with_reducible assumption)) | (refine fun z => Or.elim z ?_ (fun z => Or.elim z ?_ ?_) <;> (with_reducible assumption)) | (refine fun z => Or.elim z ?_ (fun z => Or.elim z ?_ (fun z => Or.elim z ?_ ?_)) <;> (with_reducible assumption)) | (refine fun z => Or.elim z (fun z9 => z9 ?_) ?_ <;> (first | (with_reducible assumption) | (refine Or.inl ?_; (with_reducible assumption)) | (refine Or.inr (Or.inl ?_); (with_reducible assumption)) | (refine Or.inr (Or.inr ?_); (with_reducible assumption)) | (refine Or.inr (Or.inr (Or.inl ?_)); (with_reducible assumption)) | (refine Or.inr (Or.inr (Or.inr ?_)); (with_reducible assumption)))) | (refine Or.inl (fun z => Or.elim z ?_ (fun z => Or.elim z ?_ ?_)) <;> (with_reducible assumption)) | (refine Or.inl (fun z => Or.elim z ?_ (fun z => Or.elim z ?_ (fun z => Or.elim z ?_ ?_))) <;> (with_reducible assumption))))) | (first | (refine sp_k32_0 ?_ ?_ <;> (first | assumption | (refine Or.inl ?_; assumption) | (refine Or.inr ?_; assumption) | (refine Or.inr (Or.inl ?_); assumption) | (refine Or.inr (Or.inr ?_); assumption) | (refine Or.inr (Or.inr (Or.inl ?_)); assumption) | (refine Or.inr (Or.inr (Or.inr ?_)); assumption) | (refine fun z => Or.elim z ?_ ?_ <;> assumption) | (refine fun z => Or.elim z ?_ (fun z => Or.elim z ?_ ?_) <;> assumption) | (refine fun z => Or.elim z ?_ (fun z => Or.elim z ?_ (fun z => Or.elim z ?_ ?_)) <;> assumption) | (refine fun z => Or.elim z (fun z9 => z9 ?_) ?_ <;> (first | assumption | (refine Or.inl ?_; assumption) | (refine Or.inr (Or.inl ?_); assumption) | (refine Or.inr (Or.inr ?_); assumption) | (refine Or.inr (Or.inr (Or.inl ?_)); assumption) | (refine Or.inr (Or.inr (Or.inr ?_)); assumption))) | (refine Or.inl (fun z => Or.elim z ?_ (fun z => Or.elim z ?_ ?_)) <;> assumption) | (refine Or.inl (fun z => Or.elim z ?_ (fun z => Or.elim z ?_ (fun z => Or.elim z ?_ ?_))) <;> assumption))))
                            · refine j_w w78 hw820 ?_
                              refine j_istore (lo' := [(7, _), (6, _), (0, _), (1, _), (2, _), (3, _), (4, _), (5, _)]) dX11_replaceTable_147 (by decide) rfl ?_
                              refine j_iload dX11_replaceTable_149 rfl ?_
                              refine j_ldc dX11_replaceTable_151 kcX11_67 ?_
                              refine j_icmp_ne (tgt := 161) dX11_replaceTable_153 (by decide) (fun c_153_1508 => ?_) (fun c_153_1508 => ?_)
                              · refine j_aload dX11_replaceTable_161 rfl rfl ?_
                                refine j_iconst (v := 1) dX11_replaceTable_163 (by decide) ?_
                                refine j_iload dX11_replaceTable_164 rfl ?_
                                refine j_sto (w' := _) dX11_replaceTable_166 ((h78.pr (t := i599) (by omega)).1 p812 hp812).2 (vp_in_nI (n := 1) (by decide) (by decide)) rfl ?_
                                have hnd : (sp_ks (A ++ x :: L2)).Nodup := hR.kd h78 (t := i599) (by omega) ((congrFun sp_tcT _).trans z_fu_self)
                                refine j_seal (((h78.pr (t := i599) (by omega)).1 p812 hp812).1.1) ?_
                                intro w80 u80
                                have hpp80 := ((h78.pr (t := i599) (by omega)).1 p812 hp812).1
                                have hpq80 := hpp80.2.1
                                have g80_it801 := (u80.2.1 it801 (by omega)).trans g78_it801
                                have g80_x4 := (u80.2.1 x4 (by omega)).trans g78_x4
                                have fw80 := u80.fw (ρ := 14 + i599) hpp80.1 hpp80.2.1
                                have h80 := h78.up14 (t0 := i599) (by omega) hp812 u80 (z_ui_ne (by decide))
                                have R80 := hR.uk (t0 := i599) (F := z_ui (z_qk _ p812) ((1 : Int32).toNatClampNeg) y820) (v := y820) h78 (by omega) hp812 (z_ui_ne (by decide)) (by rw [show (1 : Int32).toNatClampNeg = 1 from by decide]; exact z_ui_self)
                                rw [hv0812, z_cla (by omega)] at R80
                                rw [show sp_T (sp_tc (sp_uT S i599 (A ++ x :: L2)) i599 _) i599 = A ++ x :: L2 from (congrFun sp_tcT _).trans z_fu_self, sp_st_mid hnd, sp_tcu, sp_uTT] at R80
                                refine j_aload dX11_replaceTable_167 rfl rfl ?_
                                refine j_iconst (v := 3) dX11_replaceTable_169 (by decide) ?_
                                refine j_dup2 dX11_replaceTable_170 rfl rfl ?_
                                refine j_ld dX11_replaceTable_171 g80_x4 (vp_in_nI (n := 3) (by decide) (by decide)) ?_
                                refine j_iconst (v := 1) dX11_replaceTable_172 (by decide) ?_
                                refine j_iadd dX11_replaceTable_173 ?_
                                refine j_sto (w' := _) dX11_replaceTable_174 g80_x4 (vp_in_nI (n := 3) (by decide) (by decide)) rfl ?_
                                refine j_seal hx4a ?_
                                intro w81 u81
                                have fw81 := u81.fw hx4a hx4b
                                have g81_it801 := (u81.2.1 it801 (Ne.symm n_x4_it801)).trans g80_it801
                                have g81_x4 := u81.1
                                have h81 := h80.gar fw81 (by omega)
                                refine j_goto (tgt := 96) dX11_replaceTable_175 (by decide) ?_
                                refine j_widen (kc' := 2) (ks' := 11) (by omega) (by omega) ?_
                                exact j_lo2 (ih w81 _ (A ++ [(x.1, y820)]) L2 _ (z_bp (z_bp (z_bp c 1) 2) 3) _ (by rw [List.length_cons] at hf9; omega) sp_apl (by rw [sp_rtS hq820] at he; exact he) (fun p hp => hv p (List.mem_cons_of_mem _ hp)) (by rw [← sp_mid]; exact (sp_MR.bpXu hb54 R80)) (by exact hth) h81 (((((hfm.tr fm76).tr (fw77.fm (q := 59) (by omega))).tr (fw78.fm (q := 59) (by omega))).tr (fw80.fm (q := 59) (by omega))).tr (fw81.fm (q := 59) (by omega))) (by rw [List.length_append]; exact g81_it801) g81_x4) (z_q1 rfl (z_q1 rfl (z_q1 rfl (z_q1 rfl (z_q1 rfl (z_q1 rfl z_q0))))))
                              · exact absurd c_153_1508 hne820
                      refine j_widen (kc' := 2) (ks' := 11) (by omega) (by omega) ?_
                      exact j_lo2 (loop96 ((sp_T S i599).length + 1) w73 _ [] (sp_T S i599) _ (z_bp (sp_C S 2) 0) _ (Nat.lt_succ_self _) sp_apl (by exact rfl) (fun p hp => ((ok.2.1 i599 (by omega)).2 p hp).2) (by rw [List.nil_append, sp_uT_id, sp_tcn hb54]; exact R2) (by exact rfl) h73 ((((fm2.le (q' := 59) (by decide)).tr (fw71.fm (q := 59) (by omega))).tr (fw72.fm (q := 59) (by omega))).tr fm73) git801 g73_x4) (z_q1 rfl (z_q1 rfl (z_q1 rfl (z_q1 rfl (z_q1 rfl (z_q1 rfl z_q0))))))
                    · have hb54 : i599 = 0 := nI_inj (a := i599) (b := 0) c_54_1347 (by omega) (by omega)
                      refine j_aload_n dX11_replaceTable_57 rfl rfl ?_
                      refine j_getf dX11_replaceTable_58 fX11_31 h2.m rfl ?_
                      refine j_iconst (v := 2) dX11_replaceTable_61 (by decide) ?_
                      obtain ⟨fz825, gz825, hz825⟩ := h2.co
                      refine j_aald (v := .ref (1004 + 2)) dX11_replaceTable_62 gz825 rfl rfl (vp_in_nI (n := 2) (by decide) (by decide)) (by rw [show (2 : Int32).toNatClampNeg = 2 by decide]; exact hz825 _ (by decide)) ?_
                      refine j_goto (tgt := 70) dX11_replaceTable_63 (by decide) ?_
                      refine j_astore (lo' := [(4, _), (0, _), (1, _), (2, _), (3, _)]) dX11_replaceTable_70 rfl (by decide) rfl ?_
                      refine j_aload dX11_replaceTable_72 rfl rfl ?_
                      refine j_iconst (v := 0) dX11_replaceTable_74 (by decide) ?_
                      refine j_dup2 dX11_replaceTable_75 rfl rfl ?_
                      refine j_ld dX11_replaceTable_76 (h2.cn (i := 2) (by decide)) (vp_in_nI (n := 0) (by decide) (by decide)) ?_
                      refine j_iconst (v := 1) dX11_replaceTable_77 (by decide) ?_
                      refine j_iadd dX11_replaceTable_78 ?_
                      refine j_sto (w' := _) dX11_replaceTable_79 (h2.cn (i := 2) (by decide)) (vp_in_nI (n := 0) (by decide) (by decide)) rfl ?_
                      refine j_seal (by omega) ?_
                      intro w82 u82
                      have fw82 := u82.fw (ρ := 44 + 2) (by omega) (by omega)
                      have h82 := h2.up44 (i0 := 2) (by decide) fw82 u82.1
                      rw [show (0 : Int32).toNatClampNeg = 0 by decide] at h82
                      have R82 := R2.bp (i := 2) (k := 0) (by omega) (by decide)
                      refine j_aload_n dX11_replaceTable_80 rfl rfl ?_
                      refine j_getf dX11_replaceTable_81 fX11_34 h82.m rfl ?_
                      refine j_iload_n dX11_replaceTable_84 rfl ?_
                      obtain ⟨lv829, -, lg829⟩ := z_li.cell h82.tabs
                      refine j_callV (q := (RJx4a65c, TJx4a65c, 3)) dX11_replaceTable_85 kJx4a65c_get_915e3 lX11_82 inJx4a65c_get_915e3 seJx4a65c_get_915e3 lg829 rfl (cl_get hl w82 47 1007 _ _ (i599) _ h82.tabs (z_thr3 (t := i599) (by omega))) (Nat.le_of_ble_eq_true rfl) ⟨(by show _ ≤ 2; omega), (by show _ ≤ 11; omega)⟩ rfl (Nat.le_of_ble_eq_true rfl) rfl rfl (fun _ _ h => h.elim) ?_
                      rintro _ _ ⟨rfl, hw830⟩
                      refine j_w w82 hw830 ?_
                      refine j_castS dX11_replaceTable_88 (z_w 1341 ((lwt_6_3 6).trans rfl) (by decide +kernel)) (z_li.is (h82.tb (t := i599) (by omega))) ?_
                      obtain ⟨lv833, -, lg833⟩ := z_li.cell (h82.tb (t := i599) (by omega))
                      refine j_callV (q := (RJx4a65c, TJx4a65c, 3)) dX11_replaceTable_91 kJx4a65c_iterator_32c93 lX11_162 inJx4a65c_iterator_32c93 seJx4a65c_iterator_32c93 lg833 rfl (cl_iter hl w82 58 (51 + i599) _ _ _ (h82.tb (t := i599) (by omega)) (by decide) (by omega) h82.fn) (Nat.le_of_ble_eq_true rfl) ⟨(by show _ ≤ 2; omega), (by show _ ≤ 11; omega)⟩ rfl (Nat.le_of_ble_eq_true rfl) rfl rfl (fun _ _ h => h.elim) ?_
                      rintro _ w83 ⟨it832, rfl, fw83, hita832, hitb832, hitc832, la832, git832⟩
                      have hita832 : 1000 ≤ it832 := hita832
                      have hitb832 : it832 % 64 = 58 := hitb832
                      have fm83 := fw83.fm (q := 59) (by omega)
                      have h83 := h82.gar fw83 (by omega)
                      refine j_astore (lo' := [(5, _), (4, _), (0, _), (1, _), (2, _), (3, _)]) dX11_replaceTable_94 rfl (by decide) rfl ?_
                      have loop96 : ∀ (n9 : Nat) (w84 : z_W) (s1 : z_Z) (A L : List (Nat × Int32)) (la : Int32) (c : Nat → Int32), (L.length < n9) → (A.length ≤ (A ++ L).length) → (sp_rt r n c A L = sp_ctb S i599 r n) → (∀ p ∈ L, z_vl p.2) → (sp_MR (sp_tc (sp_uT S i599 (A ++ L)) i599 c) s1) → (s1.1.1 = 0) → (z_mst w84 s1) → (z_fm 59 w w84) → (z_g w84 it832 = some (.inr (3, [.int (nI A.length), .int la, .int (z_qp s1 i599).1, .ref (1011 + i599)]))) → z_J G l mX11_replaceTable (22, 2, 11, w, Q9, (fun _ _ => False)) 96 [(0, .ref 1000), (1, .int (nI i599)), (2, .int r), (3, .int n), (4, .ref (1004 + 2)), (5, .ref it832)] [] w84 2 11 := by
                        intro n9
                        induction n9 with
                        | zero => intro w84 s1 A L la c hf9 hAl he hv hR hth hm hfm git; exact absurd hf9 (Nat.not_lt_zero _)
                        | succ n9 ih =>
                          intro w84 s1 A L la c hf9 hAl he hv hR hth hm hfm git
                          refine j_aload dX11_replaceTable_96 rfl rfl ?_
                          refine j_callF (x := ⟨"java/util/Iterator", "hasNext", "()Z"⟩) (q := (RJx35411, TJx35411, 4)) dX11_replaceTable_98 kJx35411_hasNext_aae02 ⟨(z_w 1765 ((lwt_8_1 10).trans rfl) (by decide +kernel)), (z_w 1769 ((lwt_8_1 14).trans rfl) (by decide +kernel)), inJx35411_hasNext_aae02, ⟨by decide, by decide⟩, rfl, fun U h => h.2.1⟩ git rfl (cl_hasN hl w84 _ (51 + i599) _ (A.length) _ _ (hm.tb (t := i599) (by omega)) ⟨_, git⟩ (by rw [z_rs_len, hR.tlB (by omega) ((congrFun sp_tcT _).trans z_fu_self)]; omega)) (Nat.le_of_ble_eq_true rfl) ⟨(by show _ ≤ 2; omega), (by show _ ≤ 11; omega)⟩ rfl (Nat.le_of_ble_eq_true rfl) rfl ?_
                          rintro _ _ ⟨⟨x834, rfl, hz834, hp834⟩, hw834⟩
                          refine j_w w84 hw834 ?_
                          rw [z_rs_len, hR.tlB (by omega) ((congrFun sp_tcT _).trans z_fu_self)] at hz834 hp834
                          refine j_if_eq (tgt := 178) dX11_replaceTable_103 (by decide) (fun c_103_1592 => ?_) (fun c_103_1592 => ?_)
                          · have hk103 : A.length = (A ++ L).length := hz834 c_103_1592
                            obtain rfl : L = [] := List.eq_nil_of_length_eq_zero (by rw [List.length_append] at hk103; omega)
                            refine j_aload dX11_replaceTable_178 rfl rfl ?_
                            refine j_iconst (v := 1) dX11_replaceTable_180 (by decide) ?_
                            refine j_dup2 dX11_replaceTable_181 rfl rfl ?_
                            refine j_ld dX11_replaceTable_182 (hm.cn (i := 2) (by decide)) (vp_in_nI (n := 1) (by decide) (by decide)) ?_
                            refine j_iconst (v := 1) dX11_replaceTable_183 (by decide) ?_
                            refine j_iadd dX11_replaceTable_184 ?_
                            refine j_sto (w' := _) dX11_replaceTable_185 (hm.cn (i := 2) (by decide)) (vp_in_nI (n := 1) (by decide) (by decide)) rfl ?_
                            refine j_seal (by omega) ?_
                            intro w85 u85
                            have fw85 := u85.fw (ρ := 44 + 2) (by omega) (by omega)
                            have g85_it832 := (fun z => (u85.2.1 it832 (fun z9 => by have h9 := hitb832; rw [z9] at h9; omega)).trans z) git
                            have h85 := hm.up44 (i0 := 2) (by decide) fw85 u85.1
                            rw [show (1 : Int32).toNatClampNeg = 1 by decide] at h85
                            have R85 := sp_MR.bpTu (k := 1) hb54 hR (by decide)
                            refine j_aload_n dX11_replaceTable_186 rfl rfl ?_
                            refine j_getf dX11_replaceTable_187 fX11_34 h85.m rfl ?_
                            refine j_iload_n dX11_replaceTable_190 rfl ?_
                            obtain ⟨lv838, -, lg838⟩ := z_li.cell h85.tabs
                            refine j_callV (q := (RJx4a65c, TJx4a65c, 3)) dX11_replaceTable_191 kJx4a65c_get_915e3 lX11_82 inJx4a65c_get_915e3 seJx4a65c_get_915e3 lg838 rfl (cl_get hl w85 47 1007 _ _ (i599) _ h85.tabs (z_thr3 (t := i599) (by omega))) (Nat.le_of_ble_eq_true rfl) ⟨(by show _ ≤ 2; omega), (by show _ ≤ 11; omega)⟩ rfl (Nat.le_of_ble_eq_true rfl) rfl rfl (fun _ _ h => h.elim) ?_
                            rintro _ _ ⟨rfl, hw839⟩
                            refine j_w w85 hw839 ?_
                            refine j_castS dX11_replaceTable_194 (z_w 1341 ((lwt_6_3 6).trans rfl) (by decide +kernel)) (z_li.is (h85.tb (t := i599) (by omega))) ?_
                            obtain ⟨lv841, -, lg841⟩ := z_li.cell (h85.tb (t := i599) (by omega))
                            refine j_callV (q := (RJx4a65c, TJx4a65c, 3)) dX11_replaceTable_197 kJx4a65c_size_8abf5 lX11_86 inJx4a65c_size_8abf5 seJx4a65c_size_8abf5 lg841 rfl (cl_sizeT hl w85 (i599) ((A ++ [])) h85 R85 (by omega) ((congrFun sp_tcT _).trans z_fu_self)) (Nat.le_of_ble_eq_true rfl) ⟨(by show _ ≤ 2; omega), (by show _ ≤ 11; omega)⟩ rfl (Nat.le_of_ble_eq_true rfl) rfl rfl (fun _ _ h => h.elim) ?_
                            rintro _ _ ⟨rfl, hw842⟩
                            refine j_w w85 hw842 ?_
                            have hz842 : ((A ++ [])).length ≤ 20 := R85.l20 h85 (t := i599) (by omega) ((congrFun sp_tcT _).trans z_fu_self)
                            refine j_iret dX11_replaceTable_200 rfl rfl ?_ (by show _ ≤ 2; omega) (by show _ ≤ 11; omega)
                            refine cast (congrFun (congrFun hQ9 _) _) ?_
                            rw [List.append_nil] at R85
                            try rw [ei599]
                            refine ⟨_, _, rfl, (hfm.tr (fw85.fm (q := 59) (by omega))), h85, sp_X0 ?_ hth (by unfold sp_ctbS; rw [← he]; exact R85) (by rw [← he, List.append_nil]; rfl)⟩
                            first | (first | (refine sp_k32_0 ?_ ?_ <;> (first | (with_reducible assumption) | (refine Or.inl ?_; (with_reducible assumption)) | (refine Or.inr ?_; (with_reducible assumption)) | (refine Or.inr (Or.inl ?_); (with_reducible assumption)) | (refine Or.inr (Or.inr ?_); (with_reducible assumption)) | (refine Or.inr (Or.inr (Or.inl ?_)); (with_reducible assumption)) | (refine Or.inr (Or.inr (Or.inr ?_)); (with_reducible assumption)) | (refine fun z => Or.elim z ?_ ?_ <;> (with_reducible assumption)) | (refine fun z => Or.elim z ?_ (fun z => Or.elim z ?_ ?_) <;> (with_reducible assumption)) | (refine fun z => Or.elim z ?_ (fun z => Or.elim z ?_ (fun z => Or.elim z ?_ ?_)) <;> (with_reducible assumption)) | (refine fun z => Or.elim z (fun z9 => z9 ?_) ?_ <;> (first | (with_reducible assumption) | (refine Or.inl ?_; (with_reducible assumption)) | (refine Or.inr (Or.inl ?_); (with_reducible assumption)) | (refine Or.inr (Or.inr ?_); (with_reducible assumption)) | (refine Or.inr (Or.inr (Or.inl ?_)); (with_reducible assumption)) | (refine Or.inr (Or.inr (Or.inr ?_)); (with_reducible assumption)))) | (refine Or.inl (fun z => Or.elim z ?_ (fun z => Or.elim z ?_ ?_)) <;> (with_reducible assumption)) | (refine Or.inl (fun z => Or.elim z ?_ (fun z => Or.elim z ?_ (fun z => Or.elim z ?_ ?_))) <;> (with_reducible assumption))))) | (first | (refine sp_k32_0 ?_ ?_ <;> (first | assumption | (refine Or.inl ?_; assumption) | (refine Or.inr ?_; assumption) | (refine Or.inr (Or.inl ?_); assumption) | (refine Or.inr (Or.inr ?_); assumption) | (refine Or.inr (Or.inr (Or.inl ?_)); assumption) | (refine Or.inr (Or.inr (Or.inr ?_)); assumption) | (refine fun z => Or.elim z ?_ ?_ <;> assumption) | (refine fun z => Or.elim z ?_ (fun z => Or.elim z ?_ ?_) <;> assumption) | (refine fun z => Or.elim z ?_ (fun z => Or.elim z ?_ (fun z => Or.elim z ?_ ?_)) <;> assumption) | (refine fun z => Or.elim z (fun z9 => z9 ?_) ?_ <;> (first | assumption | (refine Or.inl ?_; assumption) | (refine Or.inr (Or.inl ?_); assumption) | (refine Or.inr (Or.inr ?_); assumption) | (refine Or.inr (Or.inr (Or.inl ?_)); assumption) | (refine Or.inr (Or.inr (Or.inr ?_)); assumption))) | (refine Or.inl (fun z => Or.elim z ?_ (fun z => Or.elim z ?_ ?_)) <;> assumption) | (refine Or.inl (fun z => Or.elim z ?_ (fun z => Or.elim z ?_ (fun z => Or.elim z ?_ ?_))) <;> assumption))))
                          · have hk103 : A.length < (A ++ L).length := hp834 c_103_1592
                            obtain ⟨x, L2, rfl⟩ : ∃ x L2, L = x :: L2 := by
                              cases L with
                              | nil => rw [List.append_nil] at hk103; exact absurd hk103 (Nat.lt_irrefl _)
                              | cons x L2 => exact ⟨x, L2, rfl⟩
                            refine j_aload dX11_replaceTable_106 rfl rfl ?_
                            obtain ⟨p843, hp843, hq843, hk843, hv0843, hv1843, hv2843⟩ := hR.prB hm (t := i599) (k := A.length) (by omega) ((congrFun sp_tcT _).trans z_fu_self) sp_mid?
                            refine j_callF (x := ⟨"java/util/Iterator", "next", "()Ljava/lang/Object;"⟩) (q := (RJx35411, TJx35411, 4)) dX11_replaceTable_108 kJx35411_next_0502b ⟨(z_w 1775 ((lwt_8_1 20).trans rfl) (by decide +kernel)), (z_w 1778 ((lwt_8_1 23).trans rfl) (by decide +kernel)), inJx35411_next_0502b, ⟨by decide, by decide⟩, rfl, fun U h => h.2.2.1⟩ git rfl (cl_next hl w84 58 it832 (51 + i599) _ (A.length) _ _ _ (hm.tb (t := i599) (by omega)) ⟨_, git⟩ hq843 hita832 hitb832 (by omega)) (Nat.le_of_ble_eq_true rfl) ⟨(by show _ ≤ 2; omega), (by show _ ≤ 11; omega)⟩ rfl (Nat.le_of_ble_eq_true rfl) rfl ?_
                            rintro _ w86 ⟨rfl, fw86, la86, git86⟩
                            have fm86 := fw86.fm (q := 59) (by omega)
                            have h86 := hm.gar fw86 (by omega)
                            refine j_castS dX11_replaceTable_113 (z_w 1663 ((lwt_7_5 28).trans rfl) (by decide +kernel)) (z_isA ((h86.pr (t := i599) (by omega)).1 p843 hp843).2) ?_
                            refine j_astore (lo' := [(6, _), (0, _), (1, _), (2, _), (3, _), (4, _), (5, _)]) dX11_replaceTable_116 rfl (by decide) rfl ?_
                            refine j_aload dX11_replaceTable_118 rfl rfl ?_
                            refine j_iconst (v := 1) dX11_replaceTable_120 (by decide) ?_
                            refine j_dup2 dX11_replaceTable_121 rfl rfl ?_
                            refine j_ld dX11_replaceTable_122 (h86.cn (i := 2) (by decide)) (vp_in_nI (n := 1) (by decide) (by decide)) ?_
                            refine j_iconst (v := 1) dX11_replaceTable_123 (by decide) ?_
                            refine j_iadd dX11_replaceTable_124 ?_
                            refine j_sto (w' := _) dX11_replaceTable_125 (h86.cn (i := 2) (by decide)) (vp_in_nI (n := 1) (by decide) (by decide)) rfl ?_
                            refine j_seal (by omega) ?_
                            intro w87 u87
                            have fw87 := u87.fw (ρ := 44 + 2) (by omega) (by omega)
                            have g87_it832 := (fun z => (u87.2.1 it832 (fun z9 => by have h9 := hitb832; rw [z9] at h9; omega)).trans z) git86
                            have h87 := h86.up44 (i0 := 2) (by decide) fw87 u87.1
                            rw [show (1 : Int32).toNatClampNeg = 1 by decide] at h87
                            have R87 := sp_MR.bpTu (k := 1) hb54 hR (by decide)
                            refine j_aload dX11_replaceTable_126 rfl rfl ?_
                            refine j_iconst (v := 2) dX11_replaceTable_128 (by decide) ?_
                            refine j_dup2 dX11_replaceTable_129 rfl rfl ?_
                            refine j_ld dX11_replaceTable_130 (h87.cn (i := 2) (by decide)) (vp_in_nI (n := 2) (by decide) (by decide)) ?_
                            refine j_iconst (v := 1) dX11_replaceTable_131 (by decide) ?_
                            refine j_iadd dX11_replaceTable_132 ?_
                            refine j_sto (w' := _) dX11_replaceTable_133 (h87.cn (i := 2) (by decide)) (vp_in_nI (n := 2) (by decide) (by decide)) rfl ?_
                            refine j_seal (by omega) ?_
                            intro w88 u88
                            have fw88 := u88.fw (ρ := 44 + 2) (by omega) (by omega)
                            have g88_it832 := (fun z => (u88.2.1 it832 (fun z9 => by have h9 := hitb832; rw [z9] at h9; omega)).trans z) g87_it832
                            have h88 := h87.up44 (i0 := 2) (by decide) fw88 u88.1
                            rw [show (2 : Int32).toNatClampNeg = 2 by decide] at h88
                            have R88 := sp_MR.bpTu (k := 2) hb54 R87 (by decide)
                            refine j_iload_n dX11_replaceTable_134 rfl ?_
                            refine j_aload dX11_replaceTable_135 rfl rfl ?_
                            refine j_iconst (v := 0) dX11_replaceTable_137 (by decide) ?_
                            refine j_ld dX11_replaceTable_138 ((h88.pr (t := i599) (by omega)).1 p843 hp843).2 (vp_in_nI (n := 0) (by decide) (by decide)) ?_
                            refine j_top (congrArg Value.int (show _ = nI x.1 from by rw [show (0 : Int32).toNatClampNeg = 0 from by decide]; exact hv0843)) ?_
                            refine j_aload dX11_replaceTable_139 rfl rfl ?_
                            refine j_iconst (v := 1) dX11_replaceTable_141 (by decide) ?_
                            refine j_ld dX11_replaceTable_142 ((h88.pr (t := i599) (by omega)).1 p843 hp843).2 (vp_in_nI (n := 1) (by decide) (by decide)) ?_
                            refine j_top (congrArg Value.int (show _ = x.2 from by rw [show (1 : Int32).toNatClampNeg = 1 from by decide]; exact hv1843)) ?_
                            refine j_iload_n dX11_replaceTable_143 rfl ?_
                            refine j_callS dX11_replaceTable_144 kX11_rule lX11_115 stX11_rule (cm_rule_r hl w88 _ _ _ _ (hv _ List.mem_cons_self).2 (sp_vl (by assumption)).2) (Nat.le_of_ble_eq_true rfl) ⟨(by show _ ≤ 2; omega), (by show _ ≤ 11; omega)⟩ rfl (Nat.le_of_ble_eq_true rfl) rfl rfl (fun _ _ h => h.elim) ?_
                            rintro _ _ ⟨⟨rfl, hq851⟩ | ⟨y851, rfl, hq851, hne851⟩, hw851⟩
                            · refine j_w w88 hw851 ?_
                              refine j_istore (lo' := [(7, _), (6, _), (0, _), (1, _), (2, _), (3, _), (4, _), (5, _)]) dX11_replaceTable_147 (by decide) rfl ?_
                              refine j_iload dX11_replaceTable_149 rfl ?_
                              refine j_ldc dX11_replaceTable_151 kcX11_67 ?_
                              refine j_icmp_ne (tgt := 161) dX11_replaceTable_153 (by decide) (fun c_153_1685 => ?_) (fun c_153_1685 => ?_)
                              · exact absurd c_153_1685 (by decide)
                              · refine j_aload_n dX11_replaceTable_156 rfl rfl ?_
                                refine j_callV (q := (RX11, TX11, 8)) dX11_replaceTable_157 kX11_nine lX11_105 inX11_nine seX11_nine h88.m rfl (cm_nine hl w88 _ h88) (Nat.le_of_ble_eq_true rfl) ⟨(by show _ ≤ 2; omega), (by show _ ≤ 11; omega)⟩ rfl (Nat.le_of_ble_eq_true rfl) rfl rfl (fun _ _ h => h.elim) ?_
                                rintro _ w89 ⟨rfl, fm89, h89⟩
                                have g89_it832 := fm89.g hita832 (by rw [hitb832]; decide) g88_it832
                                have R89 := R88.ni
                                refine j_iret dX11_replaceTable_160 rfl rfl ?_ (by show _ ≤ 2; omega) (by show _ ≤ 11; omega)
                                refine cast (congrFun (congrFun hQ9 _) _) ?_
                                rw [sp_rtN hq851] at he
                                try rw [ei599]
                                refine ⟨_, _, rfl, ((((hfm.tr fm86).tr (fw87.fm (q := 59) (by omega))).tr (fw88.fm (q := 59) (by omega))).tr (fm89.le (q' := 59) (by decide))), h89, sp_X0 ?_ hth (by unfold sp_ctbS; rw [← he]; exact R89) (by rw [← he]; rfl)⟩
                                first | (first | (refine sp_k32_0 ?_ ?_ <;> (first | (with_reducible assumption) | (refine Or.inl ?_; (with_reducible assumption)) | (refine Or.inr ?_; (with_reducible assumption)) | (refine Or.inr (Or.inl ?_); (with_reducible assumption)) | (refine Or.inr (Or.inr ?_); (with_reducible assumption)) | (refine Or.inr (Or.inr (Or.inl ?_)); (with_reducible assumption)) | (refine Or.inr (Or.inr (Or.inr ?_)); (with_reducible assumption)) | (refine fun z => Or.elim z ?_ ?_ <;> (with_reducible assumption)) | (refine fun z => Or.elim z ?_ (fun z => Or.elim z ?_ ?_) <;> (with_reducible assumption)) | (refine fun z => Or.elim z ?_ (fun z => Or.elim z ?_ (fun z => Or.elim z ?_ ?_)) <;> (with_reducible assumption)) | (refine fun z => Or.elim z (fun z9 => z9 ?_) ?_ <;> (first | (with_reducible assumption) | (refine Or.inl ?_; (with_reducible assumption)) | (refine Or.inr (Or.inl ?_); (with_reducible assumption)) | (refine Or.inr (Or.inr ?_); (with_reducible assumption)) | (refine Or.inr (Or.inr (Or.inl ?_)); (with_reducible assumption)) | (refine Or.inr (Or.inr (Or.inr ?_)); (with_reducible assumption)))) | (refine Or.inl (fun z => Or.elim z ?_ (fun z => Or.elim z ?_ ?_)) <;> (with_reducible assumption)) | (refine Or.inl (fun z => Or.elim z ?_ (fun z => Or.elim z ?_ (fun z => Or.elim z ?_ ?_))) <;> (with_reducible assumption))))) | (first | (refine sp_k32_0 ?_ ?_ <;> (first | assumption | (refine Or.inl ?_; assumption) | (refine Or.inr ?_; assumption) | (refine Or.inr (Or.inl ?_); assumption) | (refine Or.inr (Or.inr ?_); assumption) | (refine Or.inr (Or.inr (Or.inl ?_)); assumption) | (refine Or.inr (Or.inr (Or.inr ?_)); assumption) | (refine fun z => Or.elim z ?_ ?_ <;> assumption) | (refine fun z => Or.elim z ?_ (fun z => Or.elim z ?_ ?_) <;> assumption) | (refine fun z => Or.elim z ?_ (fun z => Or.elim z ?_ (fun z => Or.elim z ?_ ?_)) <;> assumption) | (refine fun z => Or.elim z (fun z9 => z9 ?_) ?_ <;> (first | assumption | (refine Or.inl ?_; assumption) | (refine Or.inr (Or.inl ?_); assumption) | (refine Or.inr (Or.inr ?_); assumption) | (refine Or.inr (Or.inr (Or.inl ?_)); assumption) | (refine Or.inr (Or.inr (Or.inr ?_)); assumption))) | (refine Or.inl (fun z => Or.elim z ?_ (fun z => Or.elim z ?_ ?_)) <;> assumption) | (refine Or.inl (fun z => Or.elim z ?_ (fun z => Or.elim z ?_ (fun z => Or.elim z ?_ ?_))) <;> assumption))))
                            · refine j_w w88 hw851 ?_
                              refine j_istore (lo' := [(7, _), (6, _), (0, _), (1, _), (2, _), (3, _), (4, _), (5, _)]) dX11_replaceTable_147 (by decide) rfl ?_
                              refine j_iload dX11_replaceTable_149 rfl ?_
                              refine j_ldc dX11_replaceTable_151 kcX11_67 ?_
                              refine j_icmp_ne (tgt := 161) dX11_replaceTable_153 (by decide) (fun c_153_1702 => ?_) (fun c_153_1702 => ?_)
                              · refine j_aload dX11_replaceTable_161 rfl rfl ?_
                                refine j_iconst (v := 1) dX11_replaceTable_163 (by decide) ?_
                                refine j_iload dX11_replaceTable_164 rfl ?_
                                refine j_sto (w' := _) dX11_replaceTable_166 ((h88.pr (t := i599) (by omega)).1 p843 hp843).2 (vp_in_nI (n := 1) (by decide) (by decide)) rfl ?_
                                have hnd : (sp_ks (A ++ x :: L2)).Nodup := R88.kd h88 (t := i599) (by omega) ((congrFun sp_tcT _).trans z_fu_self)
                                refine j_seal (((h88.pr (t := i599) (by omega)).1 p843 hp843).1.1) ?_
                                intro w90 u90
                                have hpp90 := ((h88.pr (t := i599) (by omega)).1 p843 hp843).1
                                have hpq90 := hpp90.2.1
                                have g90_it832 := (u90.2.1 it832 (by omega)).trans g88_it832
                                have fw90 := u90.fw (ρ := 14 + i599) hpp90.1 hpp90.2.1
                                have h90 := h88.up14 (t0 := i599) (by omega) hp843 u90 (z_ui_ne (by decide))
                                have R90 := R88.uk (t0 := i599) (F := z_ui (z_qk _ p843) ((1 : Int32).toNatClampNeg) y851) (v := y851) h88 (by omega) hp843 (z_ui_ne (by decide)) (by rw [show (1 : Int32).toNatClampNeg = 1 from by decide]; exact z_ui_self)
                                rw [hv0843, z_cla (by omega)] at R90
                                rw [show sp_T (sp_tc (sp_uT S i599 (A ++ x :: L2)) i599 _) i599 = A ++ x :: L2 from (congrFun sp_tcT _).trans z_fu_self, sp_st_mid hnd, sp_tcu, sp_uTT] at R90
                                refine j_aload dX11_replaceTable_167 rfl rfl ?_
                                refine j_iconst (v := 3) dX11_replaceTable_169 (by decide) ?_
                                refine j_dup2 dX11_replaceTable_170 rfl rfl ?_
                                refine j_ld dX11_replaceTable_171 (h90.cn (i := 2) (by decide)) (vp_in_nI (n := 3) (by decide) (by decide)) ?_
                                refine j_iconst (v := 1) dX11_replaceTable_172 (by decide) ?_
                                refine j_iadd dX11_replaceTable_173 ?_
                                refine j_sto (w' := _) dX11_replaceTable_174 (h90.cn (i := 2) (by decide)) (vp_in_nI (n := 3) (by decide) (by decide)) rfl ?_
                                refine j_seal (by omega) ?_
                                intro w91 u91
                                have fw91 := u91.fw (ρ := 44 + 2) (by omega) (by omega)
                                have g91_it832 := (fun z => (u91.2.1 it832 (fun z9 => by have h9 := hitb832; rw [z9] at h9; omega)).trans z) g90_it832
                                have h91 := h90.up44 (i0 := 2) (by decide) fw91 u91.1
                                rw [show (3 : Int32).toNatClampNeg = 3 by decide] at h91
                                have R91 := sp_MR.bpTu (k := 3) hb54 R90 (by decide)
                                refine j_goto (tgt := 96) dX11_replaceTable_175 (by decide) ?_
                                refine j_widen (kc' := 2) (ks' := 11) (by omega) (by omega) ?_
                                exact j_lo2 (ih w91 _ (A ++ [(x.1, y851)]) L2 _ (z_bp (z_bp (z_bp c 1) 2) 3) (by rw [List.length_cons] at hf9; omega) sp_apl (by rw [sp_rtS hq851] at he; exact he) (fun p hp => hv p (List.mem_cons_of_mem _ hp)) (by rw [← sp_mid]; exact R91) (by exact hth) h91 (((((hfm.tr fm86).tr (fw87.fm (q := 59) (by omega))).tr (fw88.fm (q := 59) (by omega))).tr (fw90.fm (q := 59) (by omega))).tr (fw91.fm (q := 59) (by omega))) (by rw [List.length_append]; exact g91_it832)) (z_q1 rfl (z_q1 rfl (z_q1 rfl (z_q1 rfl (z_q1 rfl (z_q1 rfl z_q0))))))
                              · exact absurd c_153_1702 hne851
                      refine j_widen (kc' := 2) (ks' := 11) (by omega) (by omega) ?_
                      exact j_lo2 (loop96 ((sp_T S i599).length + 1) w83 _ [] (sp_T S i599) _ (z_bp (sp_C S 2) 0) (Nat.lt_succ_self _) sp_apl (by exact rfl) (fun p hp => ((ok.2.1 i599 (by omega)).2 p hp).2) (by rw [List.nil_append, sp_uT_id, sp_tc0 hb54]; exact R82) (by exact rfl) h83 (((fm2.le (q' := 59) (by decide)).tr (fw82.fm (q := 59) (by omega))).tr fm83) git832) (z_q1 rfl (z_q1 rfl (z_q1 rfl (z_q1 rfl (z_q1 rfl (z_q1 rfl z_q0))))))
                  · exact absurd c_48_1345 (by decide)
                · exact absurd c_36_1339 (by decide)
def sp_tsm (S : sp_S) : Nat → Int32
  | 0 => 0
  | k + 1 => sp_tsm S k + nI (sp_T S k).length
theorem sp_hsq {S : sp_S} {s : z_Z} {F : Nat → Int32} {q : Nat} (R : sp_MR S s) (hq : q < 5) (h0 : F 0 = nI (sp_R S 0).length + nI (sp_R S 1).length) (h1 : F 1 = sp_tsm S 3) (h2 : F 2 = (z_qh s 0).2.1 + (z_qh s 1).2.1) (h3 : F 3 = s.1.2.1) (h4 : F 4 = s.1.2.2) : F q = sp_hse S (nI q) := by
  have e0 : sp_tsm S 3 = nI (sp_T S 0).length + nI (sp_T S 1).length + nI (sp_T S 2).length := by
    show ((0 + nI (sp_T S 0).length) + nI (sp_T S 1).length) + nI (sp_T S 2).length = _
    rw [Int32.zero_add]
  rw [e0] at h1
  rw [R.h (by decide), R.h (by decide)] at h2
  rw [show s.1.2.1 = S.1.1 from congrArg Prod.fst R.1] at h3
  rw [show s.1.2.2 = S.1.2 from congrArg Prod.snd R.1] at h4
  rcases (by omega : q = 0 ∨ q = 1 ∨ q = 2 ∨ q = 3 ∨ q = 4) with rfl | rfl | rfl | rfl | rfl
  · exact h0
  · exact h1
  · exact h2
  · exact h3
  · exact h4
set_option maxRecDepth 100000 in
set_option maxHeartbeats 8000000 in
theorem cx_houseTold (hl : l.stackTraces = false) (w : z_W) (S : sp_S) (s : z_Z) (q : Nat) (h : z_mst w s) (R : sp_MR S s) (hq : q < 5) : z_Con G l mX11_houseTold 20 2 9 w [.ref 1000, .int (nI q)] (fun v w9 => ∃ (s9 : z_Z), v = some (.int (sp_hse S (nI q))) ∧ z_fm 59 w w9 ∧ z_mst w9 s9 ∧ sp_MR S s9 ∧ s9.1.1 = s.1.1) (fun _ _ => False) := by
  generalize hQ9 : (fun (v : Option Value) (w9 : z_W) => ∃ (s9 : z_Z), v = some (.int (sp_hse S (nI q))) ∧ z_fm 59 w w9 ∧ z_mst w9 s9 ∧ sp_MR S s9 ∧ s9.1.1 = s.1.1) = Q9
  refine z_body hl (by decide) rfl (Nat.le_of_ble_eq_true rfl) ?_
  show z_J G l mX11_houseTold _ 0 [(0, _), (1, _)] [] _ 0 0
  refine j_iconst (v := 0) dX11_houseTold_0 (by decide) ?_
  refine j_istore_n (lo' := [(2, _), (0, _), (1, _)]) dX11_houseTold_1 (by decide) rfl ?_
  refine j_aload_n dX11_houseTold_2 rfl rfl ?_
  refine j_getf dX11_houseTold_3 fX11_34 h.m rfl ?_
  obtain ⟨lv857, -, lg857⟩ := z_li.cell h.tabs
  refine j_callV (q := (RJx4a65c, TJx4a65c, 3)) dX11_houseTold_6 kJx4a65c_iterator_32c93 lX11_162 inJx4a65c_iterator_32c93 seJx4a65c_iterator_32c93 lg857 rfl (cl_iter hl w 58 (47) _ _ _ h.tabs (by decide) (by omega) h.fn) (Nat.le_of_ble_eq_true rfl) ⟨(Nat.le_of_ble_eq_true rfl), (Nat.le_of_ble_eq_true rfl)⟩ rfl (Nat.le_of_ble_eq_true rfl) rfl rfl (fun _ _ h => h.elim) ?_
  rintro _ w1 ⟨it856, rfl, fw1, hita856, hitb856, hitc856, la856, git856⟩
  have hita856 : 1000 ≤ it856 := hita856
  have hitb856 : it856 % 64 = 58 := hitb856
  have fm1 := fw1.fm (q := 59) (by omega)
  have h1 := h.gar fw1 (by omega)
  refine j_astore_n (lo' := [(3, _), (2, _), (0, _), (1, _)]) dX11_houseTold_9 rfl (by decide) rfl ?_
  have loop10 : ∀ (n9 : Nat) (w2 : z_W) (s1 : z_Z) (k : Nat) (la : Int32), (k ≤ 3) → (3 < k + n9) → (sp_MR S s1) → (s1.1.1 = s.1.1) → (z_mst w2 s1) → (z_fm 59 w w2) → (z_g w2 it856 = some (.inr (3, [.int (nI k), .int la, .int (z_qt s1), .ref 1007]))) → z_J G l mX11_houseTold (20, 2, 9, w, Q9, (fun _ _ => False)) 10 [(0, .ref 1000), (1, .int (nI q)), (2, .int (sp_tsm S k)), (3, .ref it856)] [] w2 1 4 := by
    intro n9
    induction n9 with
    | zero => intro w2 s1 k la hj hf9 hR hth hm hfm git; exact absurd hf9 (by omega)
    | succ n9 ih =>
      intro w2 s1 k la hj hf9 hR hth hm hfm git
      refine j_aload_n dX11_houseTold_10 rfl rfl ?_
      refine j_callF (x := ⟨"java/util/Iterator", "hasNext", "()Z"⟩) (q := (RJx35411, TJx35411, 4)) dX11_houseTold_11 kJx35411_hasNext_aae02 ⟨(z_w 1765 ((lwt_8_1 10).trans rfl) (by decide +kernel)), (z_w 1769 ((lwt_8_1 14).trans rfl) (by decide +kernel)), inJx35411_hasNext_aae02, ⟨by decide, by decide⟩, rfl, fun U h => h.2.1⟩ git rfl (cl_hasN hl w2 _ (47) _ (k) _ _ hm.tabs ⟨_, git⟩ (by show _ ≤ 3; omega)) (Nat.le_of_ble_eq_true rfl) ⟨(Nat.le_of_ble_eq_true rfl), (Nat.le_of_ble_eq_true rfl)⟩ rfl (Nat.le_of_ble_eq_true rfl) rfl ?_
      rintro _ _ ⟨⟨x858, rfl, hz858, hp858⟩, hw858⟩
      refine j_w w2 hw858 ?_
      refine j_if_eq (tgt := 41) dX11_houseTold_16 (by decide) (fun c_16_24 => ?_) (fun c_16_24 => ?_)
      · have hk16 : k = 3 := hz858 c_16_24
        refine j_iconst (v := 5) dX11_houseTold_41 (by decide) ?_
        obtain ⟨x1, hx1a, hx1b, hx1c⟩ := z_fresh (57) (by decide) hm.fn
        have n_it856_x1 := z_neF hx1c git
        refine j_newa (kd := 0) (N := 5) (w' := _) (n := x1) dX11_houseTold_42 rfl rfl arc_int ⟨rfl, fun _ _ h => h⟩ (by decide) rfl (by decide) rfl (z_alW hx1c hx1a) (Nat.le_of_ble_eq_true rfl) (Nat.le_of_ble_eq_true rfl) ?_
        refine j_seal hx1a ?_
        intro w3 u3
        have fw3 := u3.fw hx1a hx1b
        have g3_it856 := (u3.2.1 it856 n_it856_x1).trans git
        have g3_x1 := u3.1
        have h3 := hm.gar fw3 (by omega)
        refine j_dup dX11_houseTold_44 rfl ?_
        refine j_iconst (v := 0) dX11_houseTold_45 (by decide) ?_
        refine j_aload_n dX11_houseTold_46 rfl rfl ?_
        refine j_getf dX11_houseTold_47 fX11_21 h3.m rfl ?_
        refine j_iconst (v := 0) dX11_houseTold_50 (by decide) ?_
        obtain ⟨lv861, -, lg861⟩ := z_li.cell h3.rows
        refine j_callV (q := (RJx4a65c, TJx4a65c, 3)) dX11_houseTold_51 kJx4a65c_get_915e3 lX11_82 inJx4a65c_get_915e3 seJx4a65c_get_915e3 lg861 rfl (cl_get hl w3 41 1001 _ _ (0) _ h3.rows (z_two2 (i := 0) (by decide))) (Nat.le_of_ble_eq_true rfl) ⟨(Nat.le_of_ble_eq_true rfl), (Nat.le_of_ble_eq_true rfl)⟩ rfl (Nat.le_of_ble_eq_true rfl) rfl rfl (fun _ _ h => h.elim) ?_
        rintro _ _ ⟨rfl, hw862⟩
        refine j_w w3 hw862 ?_
        refine j_castS dX11_houseTold_54 (z_w 1341 ((lwt_6_3 6).trans rfl) (by decide +kernel)) (z_li.is (h3.rw (i := 0) (by decide)).1) ?_
        obtain ⟨lv864, -, lg864⟩ := z_li.cell (h3.rw (i := 0) (by decide)).1
        refine j_callV (q := (RJx4a65c, TJx4a65c, 3)) dX11_houseTold_57 kJx4a65c_size_8abf5 lX11_86 inJx4a65c_size_8abf5 seJx4a65c_size_8abf5 lg864 rfl (cl_sizeW hl w3 (0) (sp_R S (0)) h3 hR (by decide) rfl) (Nat.le_of_ble_eq_true rfl) ⟨(Nat.le_of_ble_eq_true rfl), (Nat.le_of_ble_eq_true rfl)⟩ rfl (Nat.le_of_ble_eq_true rfl) rfl rfl (fun _ _ h => h.elim) ?_
        rintro _ _ ⟨rfl, hw865⟩
        refine j_w w3 hw865 ?_
        have hz865 : (sp_R S (0)).length ≤ 12 := hR.l12 h3 (i := 0) (by decide) rfl
        refine j_aload_n dX11_houseTold_60 rfl rfl ?_
        refine j_getf dX11_houseTold_61 fX11_21 h3.m rfl ?_
        refine j_iconst (v := 1) dX11_houseTold_64 (by decide) ?_
        obtain ⟨lv867, -, lg867⟩ := z_li.cell h3.rows
        refine j_callV (q := (RJx4a65c, TJx4a65c, 3)) dX11_houseTold_65 kJx4a65c_get_915e3 lX11_82 inJx4a65c_get_915e3 seJx4a65c_get_915e3 lg867 rfl (cl_get hl w3 41 1001 _ _ (1) _ h3.rows (z_two2 (i := 1) (by decide))) (Nat.le_of_ble_eq_true rfl) ⟨(Nat.le_of_ble_eq_true rfl), (Nat.le_of_ble_eq_true rfl)⟩ rfl (Nat.le_of_ble_eq_true rfl) rfl rfl (fun _ _ h => h.elim) ?_
        rintro _ _ ⟨rfl, hw868⟩
        refine j_w w3 hw868 ?_
        refine j_castS dX11_houseTold_68 (z_w 1341 ((lwt_6_3 6).trans rfl) (by decide +kernel)) (z_li.is (h3.rw (i := 1) (by decide)).1) ?_
        obtain ⟨lv870, -, lg870⟩ := z_li.cell (h3.rw (i := 1) (by decide)).1
        refine j_callV (q := (RJx4a65c, TJx4a65c, 3)) dX11_houseTold_71 kJx4a65c_size_8abf5 lX11_86 inJx4a65c_size_8abf5 seJx4a65c_size_8abf5 lg870 rfl (cl_sizeW hl w3 (1) (sp_R S (1)) h3 hR (by decide) rfl) (Nat.le_of_ble_eq_true rfl) ⟨(Nat.le_of_ble_eq_true rfl), (Nat.le_of_ble_eq_true rfl)⟩ rfl (Nat.le_of_ble_eq_true rfl) rfl rfl (fun _ _ h => h.elim) ?_
        rintro _ _ ⟨rfl, hw871⟩
        refine j_w w3 hw871 ?_
        have hz871 : (sp_R S (1)).length ≤ 12 := hR.l12 h3 (i := 1) (by decide) rfl
        refine j_iadd dX11_houseTold_74 ?_
        refine j_sto (w' := _) dX11_houseTold_75 g3_x1 (vp_in_nI (n := 0) (by decide) (by decide)) rfl ?_
        refine j_seal hx1a ?_
        intro w4 u4
        have fw4 := u4.fw hx1a hx1b
        have g4_it856 := (u4.2.1 it856 n_it856_x1).trans g3_it856
        have g4_x1 := u4.1
        have h4 := h3.gar fw4 (by omega)
        refine j_dup dX11_houseTold_76 rfl ?_
        refine j_iconst (v := 1) dX11_houseTold_77 (by decide) ?_
        refine j_iload_n dX11_houseTold_78 rfl ?_
        refine j_sto (w' := _) dX11_houseTold_79 g4_x1 (vp_in_nI (n := 1) (by decide) (by decide)) rfl ?_
        refine j_seal hx1a ?_
        intro w5 u5
        have fw5 := u5.fw hx1a hx1b
        have g5_it856 := (u5.2.1 it856 n_it856_x1).trans g4_it856
        have g5_x1 := u5.1
        have h5 := h4.gar fw5 (by omega)
        refine j_dup dX11_houseTold_80 rfl ?_
        refine j_iconst (v := 2) dX11_houseTold_81 (by decide) ?_
        refine j_aload_n dX11_houseTold_82 rfl rfl ?_
        refine j_getf dX11_houseTold_83 fX11_40 h5.m rfl ?_
        refine j_iconst (v := 0) dX11_houseTold_86 (by decide) ?_
        obtain ⟨fz874, gz874, hz874⟩ := h5.hs
        refine j_aald (v := .ref (1009 + 0)) dX11_houseTold_87 gz874 rfl rfl (vp_in_nI (n := 0) (by decide) (by decide)) (by rw [show (0 : Int32).toNatClampNeg = 0 by decide]; exact hz874 _ (by decide)) ?_
        refine j_getf dX11_houseTold_88 fX11_193 (h5.hd (i := 0) (by decide)) rfl ?_
        refine j_aload_n dX11_houseTold_91 rfl rfl ?_
        refine j_getf dX11_houseTold_92 fX11_40 h5.m rfl ?_
        refine j_iconst (v := 1) dX11_houseTold_95 (by decide) ?_
        obtain ⟨fz875, gz875, hz875⟩ := h5.hs
        refine j_aald (v := .ref (1009 + 1)) dX11_houseTold_96 gz875 rfl rfl (vp_in_nI (n := 1) (by decide) (by decide)) (by rw [show (1 : Int32).toNatClampNeg = 1 by decide]; exact hz875 _ (by decide)) ?_
        refine j_getf dX11_houseTold_97 fX11_193 (h5.hd (i := 1) (by decide)) rfl ?_
        refine j_iadd dX11_houseTold_100 ?_
        refine j_sto (w' := _) dX11_houseTold_101 g5_x1 (vp_in_nI (n := 2) (by decide) (by decide)) rfl ?_
        refine j_seal hx1a ?_
        intro w6 u6
        have fw6 := u6.fw hx1a hx1b
        have g6_it856 := (u6.2.1 it856 n_it856_x1).trans g5_it856
        have g6_x1 := u6.1
        have h6 := h5.gar fw6 (by omega)
        refine j_dup dX11_houseTold_102 rfl ?_
        refine j_iconst (v := 3) dX11_houseTold_103 (by decide) ?_
        refine j_aload_n dX11_houseTold_104 rfl rfl ?_
        refine j_getf dX11_houseTold_105 fX11_56 h6.m rfl ?_
        refine j_sto (w' := _) dX11_houseTold_108 g6_x1 (vp_in_nI (n := 3) (by decide) (by decide)) rfl ?_
        refine j_seal hx1a ?_
        intro w7 u7
        have fw7 := u7.fw hx1a hx1b
        have g7_it856 := (u7.2.1 it856 n_it856_x1).trans g6_it856
        have g7_x1 := u7.1
        have h7 := h6.gar fw7 (by omega)
        refine j_dup dX11_houseTold_109 rfl ?_
        refine j_iconst (v := 4) dX11_houseTold_110 (by decide) ?_
        refine j_aload_n dX11_houseTold_111 rfl rfl ?_
        refine j_getf dX11_houseTold_112 fX11_234 h7.m rfl ?_
        refine j_sto (w' := _) dX11_houseTold_115 g7_x1 (vp_in_nI (n := 4) (by decide) (by decide)) rfl ?_
        refine j_seal hx1a ?_
        intro w8 u8
        have fw8 := u8.fw hx1a hx1b
        have g8_it856 := (u8.2.1 it856 n_it856_x1).trans g7_it856
        have g8_x1 := u8.1
        have h8 := h7.gar fw8 (by omega)
        refine j_astore_n (lo' := [(3, _), (0, _), (1, _), (2, _)]) dX11_houseTold_116 rfl (by decide) rfl ?_
        refine j_aload_n dX11_houseTold_117 rfl rfl ?_
        refine j_iload_n dX11_houseTold_118 rfl ?_
        refine j_ld dX11_houseTold_119 g8_x1 (vp_in_nI (by omega) (by omega)) ?_
        refine j_iret dX11_houseTold_120 rfl rfl ?_ (Nat.le_of_ble_eq_true rfl) (Nat.le_of_ble_eq_true rfl)
        refine cast (congrFun (congrFun hQ9 _) _) ?_
        exact ⟨_, by rw [z_cla (by omega)]; exact congrArg (fun z => some (Value.int z)) (sp_hsq hR hq rfl (congrArg (sp_tsm S) (by omega : k = 3)) rfl rfl rfl), ((((((hfm.tr (fw3.fm (q := 59) (by omega))).tr (fw4.fm (q := 59) (by omega))).tr (fw5.fm (q := 59) (by omega))).tr (fw6.fm (q := 59) (by omega))).tr (fw7.fm (q := 59) (by omega))).tr (fw8.fm (q := 59) (by omega))), h8, hR, hth⟩
      · have hk16 : k < 3 := hp858 c_16_24
        refine j_aload_n dX11_houseTold_19 rfl rfl ?_
        refine j_callF (x := ⟨"java/util/Iterator", "next", "()Ljava/lang/Object;"⟩) (q := (RJx35411, TJx35411, 4)) dX11_houseTold_20 kJx35411_next_0502b ⟨(z_w 1775 ((lwt_8_1 20).trans rfl) (by decide +kernel)), (z_w 1778 ((lwt_8_1 23).trans rfl) (by decide +kernel)), inJx35411_next_0502b, ⟨by decide, by decide⟩, rfl, fun U h => h.2.2.1⟩ git rfl (cl_next hl w2 58 it856 (47) _ (k) _ _ _ hm.tabs ⟨_, git⟩ (z_thr3 (t := k) (by omega)) hita856 hitb856 (by omega)) (Nat.le_of_ble_eq_true rfl) ⟨(Nat.le_of_ble_eq_true rfl), (Nat.le_of_ble_eq_true rfl)⟩ rfl (Nat.le_of_ble_eq_true rfl) rfl ?_
        rintro _ w9 ⟨rfl, fw9, la9, git9⟩
        have fm9 := fw9.fm (q := 59) (by omega)
        have h9 := hm.gar fw9 (by omega)
        refine j_castS dX11_houseTold_25 (z_w 1341 ((lwt_6_3 6).trans rfl) (by decide +kernel)) (z_li.is (h9.tb (t := k) (by omega))) ?_
        refine j_astore (lo' := [(4, _), (0, _), (1, _), (2, _), (3, _)]) dX11_houseTold_28 rfl (by decide) rfl ?_
        refine j_iload_n dX11_houseTold_30 rfl ?_
        refine j_aload dX11_houseTold_31 rfl rfl ?_
        obtain ⟨lv882, -, lg882⟩ := z_li.cell (h9.tb (t := k) (by omega))
        refine j_callV (q := (RJx4a65c, TJx4a65c, 3)) dX11_houseTold_33 kJx4a65c_size_8abf5 lX11_86 inJx4a65c_size_8abf5 seJx4a65c_size_8abf5 lg882 rfl (cl_sizeT hl w9 (k) (sp_T S (k)) h9 hR (by omega) rfl) (Nat.le_of_ble_eq_true rfl) ⟨(Nat.le_of_ble_eq_true rfl), (Nat.le_of_ble_eq_true rfl)⟩ rfl (Nat.le_of_ble_eq_true rfl) rfl rfl (fun _ _ h => h.elim) ?_
        rintro _ _ ⟨rfl, hw883⟩
        refine j_w w9 hw883 ?_
        have hz883 : (sp_T S (k)).length ≤ 20 := hR.l20 h9 (t := k) (by omega) rfl
        refine j_iadd dX11_houseTold_36 ?_
        refine j_istore_n (lo' := [(2, _), (4, _), (0, _), (1, _), (3, _)]) dX11_houseTold_37 (by decide) rfl ?_
        refine j_goto (tgt := 10) dX11_houseTold_38 (by decide) ?_
        exact j_lo2 (ih w9 _ (k + 1) _ (by omega) (by omega) hR (by exact hth) h9 (hfm.tr fm9) git9) (z_q1 rfl (z_q1 rfl (z_q1 rfl (z_q1 rfl z_q0))))
  exact j_lo2 (loop10 4 w1 _ 0 _ (by omega) (by omega) R (by exact rfl) h1 fm1 git856) (z_q1 rfl (z_q1 rfl (z_q1 rfl (z_q1 rfl z_q0))))
set_option maxRecDepth 100000 in
set_option maxHeartbeats 8000000 in
theorem cx_house (hl : l.stackTraces = false) (w : z_W) (S : sp_S) (s : z_Z) (w0 : Int32) (h : z_mst w s) (R : sp_MR S s)  : z_Con G l mX11_house 22 2 9 w [.ref 1000, .int w0] (fun v w9 => ∃ (r9 : Int32) (s9 : z_Z), v = some (.int r9) ∧ z_fm 59 w w9 ∧ z_mst w9 s9 ∧ s9.1.1 = q_k1 (w0 < 0 ∨ 4 < w0) ∧ sp_MR (if q_k1 (w0 < 0 ∨ 4 < w0) = 0 then S else S) s9 ∧ (q_k1 (w0 < 0 ∨ 4 < w0) = 0 → r9 = sp_hse S w0)) (fun _ _ => False) := by
  generalize hQ9 : (fun (v : Option Value) (w9 : z_W) => ∃ (r9 : Int32) (s9 : z_Z), v = some (.int r9) ∧ z_fm 59 w w9 ∧ z_mst w9 s9 ∧ s9.1.1 = q_k1 (w0 < 0 ∨ 4 < w0) ∧ sp_MR (if q_k1 (w0 < 0 ∨ 4 < w0) = 0 then S else S) s9 ∧ (q_k1 (w0 < 0 ∨ 4 < w0) = 0 → r9 = sp_hse S w0)) = Q9
  refine z_body hl (by decide) rfl (Nat.le_of_ble_eq_true rfl) ?_
  show z_J G l mX11_house _ 0 [(0, _), (1, _)] [] _ 0 0
  refine j_aload_n dX11_house_0 rfl rfl ?_
  refine j_iload_n dX11_house_1 rfl ?_
  refine j_iconst (v := 0) dX11_house_2 (by decide) ?_
  refine j_iconst (v := 4) dX11_house_3 (by decide) ?_
  refine j_callS dX11_house_4 kX11_isIn lX11_59 stX11_isIn (cm_isIn_r hl w _ (0) (4)) (Nat.le_of_ble_eq_true rfl) ⟨(Nat.le_of_ble_eq_true rfl), (Nat.le_of_ble_eq_true rfl)⟩ rfl (Nat.le_of_ble_eq_true rfl) rfl rfl (fun _ _ h => h.elim) ?_
  rintro _ _ ⟨⟨rfl, hi884⟩ | ⟨rfl, hno884⟩, hw884⟩
  · refine j_w w hw884 ?_
    obtain ⟨i884, hq884, rfl⟩ := sp_nt (m := 4) rfl (by omega) hi884
    have ei884 : sp_i (nI i884) = i884 := sp_in' (by omega)
    refine j_if_ne (tgt := 14) dX11_house_7 (by decide) (fun c_7_11 => ?_) (fun c_7_11 => ?_)
    · refine j_iconst (v := 0) dX11_house_14 (by decide) ?_
      refine j_iconst (v := 1) dX11_house_15 (by decide) ?_
      refine j_callV (q := (RX11, TX11, 8)) dX11_house_16 kX11_start lX11_76 inX11_start seX11_start h.m rfl (cm_start0 hl w _ _ h) (Nat.le_of_ble_eq_true rfl) ⟨(Nat.le_of_ble_eq_true rfl), (Nat.le_of_ble_eq_true rfl)⟩ rfl (Nat.le_of_ble_eq_true rfl) rfl rfl (fun _ _ h => h.elim) ?_
      rintro _ w1 ⟨rfl, fm1, h1⟩
      have R1 := R.th (k := 0)
      refine j_if_eq (tgt := 26) dX11_house_19 (by decide) (fun c_19_17 => ?_) (fun c_19_17 => ?_)
      · refine j_aload_n dX11_house_26 rfl rfl ?_
        refine j_iload_n dX11_house_27 rfl ?_
        refine j_callV (q := (RX11, TX11, 8)) dX11_house_28 kX11_houseTold lX11_237 inX11_houseTold seX11_houseTold h1.m rfl (cx_houseTold hl w1 S _ (i884) h1 R1 (by omega)) (Nat.le_of_ble_eq_true rfl) ⟨(Nat.le_of_ble_eq_true rfl), (Nat.le_of_ble_eq_true rfl)⟩ rfl (Nat.le_of_ble_eq_true rfl) rfl rfl (fun _ _ h => h.elim) ?_
        rintro _ w2 ⟨s2, rfl, fm2, h2, R2, th2⟩
        have tx2 := th2.trans rfl
        refine j_iret dX11_house_31 rfl rfl ?_ (Nat.le_of_ble_eq_true rfl) (Nat.le_of_ble_eq_true rfl)
        refine cast (congrFun (congrFun hQ9 _) _) ?_
        try rw [ei884]
        refine ⟨_, _, rfl, ((fm1.le (q' := 59) (by decide)).tr (fm2.le (q' := 59) (by decide))), h2, sp_X0 ?_ tx2 R2 rfl⟩
        (first | (refine if_neg ?_ <;> (first | assumption | (refine Or.inl ?_; assumption) | (refine Or.inr ?_; assumption) | (refine Or.inr (Or.inl ?_); assumption) | (refine Or.inr (Or.inr ?_); assumption) | (refine Or.inr (Or.inr (Or.inl ?_)); assumption) | (refine Or.inr (Or.inr (Or.inr ?_)); assumption) | (refine fun z => Or.elim z ?_ ?_ <;> assumption) | (refine fun z => Or.elim z ?_ (fun z => Or.elim z ?_ ?_) <;> assumption) | (refine fun z => Or.elim z ?_ (fun z => Or.elim z ?_ (fun z => Or.elim z ?_ ?_)) <;> assumption) | (refine fun z => Or.elim z (fun z9 => z9 ?_) ?_ <;> (first | assumption | (refine Or.inl ?_; assumption) | (refine Or.inr (Or.inl ?_); assumption) | (refine Or.inr (Or.inr ?_); assumption) | (refine Or.inr (Or.inr (Or.inl ?_)); assumption) | (refine Or.inr (Or.inr (Or.inr ?_)); assumption))) | (refine Or.inl (fun z => Or.elim z ?_ (fun z => Or.elim z ?_ ?_)) <;> assumption) | (refine Or.inl (fun z => Or.elim z ?_ (fun z => Or.elim z ?_ (fun z => Or.elim z ?_ ?_))) <;> assumption))))
      · exact absurd c_19_17 (by decide)
    · exact absurd c_7_11 (by decide)
  · refine j_w w hw884 ?_
    refine j_if_ne (tgt := 14) dX11_house_7 (by decide) (fun c_7_31 => ?_) (fun c_7_31 => ?_)
    · exact absurd c_7_31 (by decide)
    · refine j_iconst (v := 1) dX11_house_10 (by decide) ?_
      refine j_goto (tgt := 15) dX11_house_11 (by decide) ?_
      refine j_iconst (v := 1) dX11_house_15 (by decide) ?_
      refine j_callV (q := (RX11, TX11, 8)) dX11_house_16 kX11_start lX11_76 inX11_start seX11_start h.m rfl (cm_start1 hl w _ _ h (by decide)) (Nat.le_of_ble_eq_true rfl) ⟨(Nat.le_of_ble_eq_true rfl), (Nat.le_of_ble_eq_true rfl)⟩ rfl (Nat.le_of_ble_eq_true rfl) rfl rfl (fun _ _ h => h.elim) ?_
      rintro _ w3 ⟨rfl, fm3, h3⟩
      have R3 := R.th (k := 1)
      refine j_if_eq (tgt := 26) dX11_house_19 (by decide) (fun c_19_39 => ?_) (fun c_19_39 => ?_)
      · exact absurd c_19_39 (by decide)
      · refine j_iconst (v := 0) dX11_house_22 (by decide) ?_
        refine j_goto (tgt := 31) dX11_house_23 (by decide) ?_
        refine j_iret dX11_house_31 rfl rfl ?_ (Nat.le_of_ble_eq_true rfl) (Nat.le_of_ble_eq_true rfl)
        refine cast (congrFun (congrFun hQ9 _) _) ?_
        refine ⟨_, _, rfl, (fm3.le (q' := 59) (by decide)), h3, sp_X1 (k := 1) ?_ (by decide) rfl R3⟩
        (first | (refine if_pos ?_ <;> (first | assumption | (refine Or.inl ?_; assumption) | (refine Or.inr ?_; assumption) | (refine Or.inr (Or.inl ?_); assumption) | (refine Or.inr (Or.inr ?_); assumption) | (refine Or.inr (Or.inr (Or.inl ?_)); assumption) | (refine Or.inr (Or.inr (Or.inr ?_)); assumption) | (refine fun z => Or.elim z ?_ ?_ <;> assumption) | (refine fun z => Or.elim z ?_ (fun z => Or.elim z ?_ ?_) <;> assumption) | (refine fun z => Or.elim z ?_ (fun z => Or.elim z ?_ (fun z => Or.elim z ?_ ?_)) <;> assumption) | (refine fun z => Or.elim z (fun z9 => z9 ?_) ?_ <;> (first | assumption | (refine Or.inl ?_; assumption) | (refine Or.inr (Or.inl ?_); assumption) | (refine Or.inr (Or.inr ?_); assumption) | (refine Or.inr (Or.inr (Or.inl ?_)); assumption) | (refine Or.inr (Or.inr (Or.inr ?_)); assumption))) | (refine Or.inl (fun z => Or.elim z ?_ (fun z => Or.elim z ?_ ?_)) <;> assumption) | (refine Or.inl (fun z => Or.elim z ?_ (fun z => Or.elim z ?_ (fun z => Or.elim z ?_ ?_))) <;> assumption))))
def sp_cz (S : sp_S) (k j : Nat) : Nat → Nat → Int32 := fun i => if i < k then q_zr (sp_C S i) 7 else if i = k then q_zr (sp_C S i) j else sp_C S i
abbrev sp_czS (S : sp_S) (k j : Nat) : sp_S := (S.1, S.2.1, S.2.2.1, sp_cz S k j, S.2.2.2.2)
def sp_sz (S : sp_S) : Nat → Int32
  | 0 => 0
  | k + 1 => sp_sz S k + q_sm (sp_C S k) 7
theorem sp_MR.z0 {S : sp_S} {s : z_Z} (R : sp_MR S s) : sp_MR (sp_czS S 0 0) s := R.cong (fun i _ j _ => by
  unfold sp_cz
  rw [if_neg (Nat.not_lt_zero _)]
  split <;> rfl)
theorem sp_MR.zk {S : sp_S} {s : z_Z} {k : Nat} (R : sp_MR (sp_czS S k 7) s) : sp_MR (sp_czS S (k + 1) 0) s := R.cong (fun i _ j _ => by
  show sp_cz S k 7 i j = sp_cz S (k + 1) 0 i j
  unfold sp_cz
  by_cases h1 : i < k
  · rw [if_pos h1, if_pos (by omega)]
  · rw [if_neg h1]
    by_cases h2 : i = k
    · rw [if_pos h2, if_pos (by omega)]
    · rw [if_neg h2, if_neg (by omega)]
      split <;> rfl)
theorem sp_MR.zj {S : sp_S} {s : z_Z} {k j : Nat} (R : sp_MR (sp_czS S k j) s) (hk : k < 3) (hj : j < 7) : sp_MR (sp_czS S k (j + 1)) (z_tc s (z_fu (z_qc s) k (z_ui (z_qc s k) j 0))) := by
  have e : ∀ x, x < 7 → z_qc s k x = q_zr (sp_C S k) j x := fun x hx => by
    rw [R.c hk hx]
    show sp_cz S k j k x = _
    unfold sp_cz
    rw [if_neg (Nat.lt_irrefl _), if_pos rfl]
  have h1 := R.uc (i := k) (F := z_ui (z_qc s k) j 0) (c := q_zr (sp_C S k) (j + 1)) (fun x hx => by
    show z_ui (z_qc s k) j 0 x = z_ui (q_zr (sp_C S k) j) j 0 x
    by_cases hxj : x = j
    · rw [hxj, z_ui_self, z_ui_self]
    · rw [z_ui_ne hxj, z_ui_ne hxj, e x hx])
  refine h1.cong (fun i hi x hx => ?_)
  show z_fu (sp_cz S k j) k (q_zr (sp_C S k) (j + 1)) i x = sp_cz S k (j + 1) i x
  by_cases hik : i = k
  · rw [hik, z_fu_self]; unfold sp_cz; rw [if_neg (Nat.lt_irrefl _), if_pos rfl]
  · rw [z_fu_ne hik]; unfold sp_cz; rw [if_neg hik, if_neg hik]
theorem sp_MR.zr {S : sp_S} {s : z_Z} {k j : Nat} (R : sp_MR (sp_czS S k j) s) (hk : k < 3) (hj : j < 7) : z_qc s k j = sp_C S k j := by
  rw [R.c hk hj]
  show sp_cz S k j k j = _
  unfold sp_cz
  rw [if_neg (Nat.lt_irrefl _), if_pos rfl, q_zr_ge (Nat.le_refl _)]
theorem sp_MR.zend {S : sp_S} {s : z_Z} (R : sp_MR (sp_czS S 3 0) s) : sp_MR (sp_csS S) s := by
  refine R.cong (C := sp_C (sp_csS S)) (fun i hi x hx => ?_)
  show sp_cz S 3 0 i x = z_fu (z_fu (z_fu (sp_C S) 2 (q_zr (sp_C S 2) 7)) 0 (q_zr (sp_C S 0) 7)) 1 (q_zr (sp_C S 1) 7) i x
  unfold sp_cz
  rw [if_pos hi]
  rcases (by omega : i = 0 ∨ i = 1 ∨ i = 2) with rfl | rfl | rfl <;> rfl
theorem sp_sz3 {S : sp_S} : sp_sz S 3 = sp_cs S := by
  show ((0 + q_sm (sp_C S 0) 7) + q_sm (sp_C S 1) 7) + q_sm (sp_C S 2) 7 = q_sm (sp_C S 2) 7 + q_sm (sp_C S 0) 7 + q_sm (sp_C S 1) 7
  rw [Int32.zero_add, Int32.add_comm, ← Int32.add_assoc]
set_option maxRecDepth 100000 in
set_option maxHeartbeats 8000000 in
theorem cx_forgetCounts (hl : l.stackTraces = false) (w : z_W) (S : sp_S) (s : z_Z)  (h : z_mst w s) (R : sp_MR S s)  : z_Con G l mX11_forgetCounts 20 0 0 w [.ref 1000] (fun v w9 => ∃ (r9 : Int32) (s9 : z_Z), v = some (.int r9) ∧ z_fm 59 w w9 ∧ z_mst w9 s9 ∧ s9.1.1 = 0 ∧ sp_MR (sp_csS S) s9 ∧ r9 = sp_cs S) (fun _ _ => False) := by
  generalize hQ9 : (fun (v : Option Value) (w9 : z_W) => ∃ (r9 : Int32) (s9 : z_Z), v = some (.int r9) ∧ z_fm 59 w w9 ∧ z_mst w9 s9 ∧ s9.1.1 = 0 ∧ sp_MR (sp_csS S) s9 ∧ r9 = sp_cs S) = Q9
  refine z_body hl (by decide) rfl (Nat.le_of_ble_eq_true rfl) ?_
  show z_J G l mX11_forgetCounts _ 0 [(0, _)] [] _ 0 0
  refine j_aload_n dX11_forgetCounts_0 rfl rfl ?_
  refine j_iconst (v := 0) dX11_forgetCounts_1 (by decide) ?_
  refine j_put (w' := _) dX11_forgetCounts_2 fX11_48 tX11_0 h.m ⟨rfl, rfl⟩ rfl ?_
  refine j_seal (by omega) ?_
  intro w1 u1
  have fw1 := u1.fw (ρ := 40) (by omega) (by omega)
  have h1 := h.up40 fw1 u1.1
  have R1 := R.th (k := 0)
  refine j_iconst (v := 0) dX11_forgetCounts_5 (by decide) ?_
  refine j_istore_n (lo' := [(1, _), (0, _)]) dX11_forgetCounts_6 (by decide) rfl ?_
  refine j_aload_n dX11_forgetCounts_7 rfl rfl ?_
  refine j_getf dX11_forgetCounts_8 fX11_31 h1.m rfl ?_
  refine j_astore_n (lo' := [(2, _), (1, _), (0, _)]) dX11_forgetCounts_11 rfl (by decide) rfl ?_
  refine j_aload_n dX11_forgetCounts_12 rfl rfl ?_
  obtain ⟨fz885, gz885, hz885⟩ := h1.co
  refine j_alen dX11_forgetCounts_13 gz885 rfl rfl ?_
  refine j_istore_n (lo' := [(3, _), (2, _), (1, _), (0, _)]) dX11_forgetCounts_14 (by decide) rfl ?_
  refine j_iconst (v := 0) dX11_forgetCounts_15 (by decide) ?_
  refine j_istore (lo' := [(4, _), (3, _), (2, _), (1, _), (0, _)]) dX11_forgetCounts_16 (by decide) rfl ?_
  have loop18 : ∀ (n9 : Nat) (w2 : z_W) (s1 : z_Z) (k : Nat) (m : Int32), (k ≤ 3) → (3 < k + n9) → (m = sp_sz S k) → (sp_MR (sp_czS S k 0) s1) → (s1.1.1 = 0) → (z_mst w2 s1) → (z_fm 59 w w2) → z_J G l mX11_forgetCounts (20, 0, 0, w, Q9, (fun _ _ => False)) 18 [(0, .ref 1000), (1, .int m), (2, .ref 1003), (3, .int (nI 3)), (4, .int (nI k))] [] w2 0 0 := by
    intro n9
    induction n9 with
    | zero => intro w2 s1 k m hj hf9 hmm hR hth hm hfm; exact absurd hf9 (by omega)
    | succ n9 ih =>
      intro w2 s1 k m hj hf9 hmm hR hth hm hfm
      refine j_iload dX11_forgetCounts_18 rfl ?_
      refine j_iload_n dX11_forgetCounts_20 rfl ?_
      refine j_icmp_ge (tgt := 67) dX11_forgetCounts_21 (by decide) (fun c_21_29 => ?_) (fun c_21_29 => ?_)
      · have hb21 : 3 ≤ k := (nI_leI (a := 3) (b := k) (by omega) (by omega)).mp c_21_29
        refine j_iload_n dX11_forgetCounts_67 rfl ?_
        refine j_iret dX11_forgetCounts_68 rfl rfl ?_ (Nat.le_of_ble_eq_true rfl) (Nat.le_of_ble_eq_true rfl)
        refine cast (congrFun (congrFun hQ9 _) _) ?_
        exact ⟨_, _, rfl, hfm, hm, hth, (by have e9 : k = 3 := (by omega); have e := hR; rw [e9] at e; exact e.zend), (by have e9 : k = 3 := (by omega); rw [hmm, e9]; exact sp_sz3)⟩
      · have hb21 : k < 3 := Nat.not_le.mp (fun z => c_21_29 ((nI_leI (a := 3) (b := k) (by omega) (by omega)).mpr z))
        refine j_aload_n dX11_forgetCounts_24 rfl rfl ?_
        refine j_iload dX11_forgetCounts_25 rfl ?_
        obtain ⟨fz886, gz886, hz886⟩ := hm.co
        refine j_aald (v := .ref (1004 + k)) dX11_forgetCounts_27 gz886 rfl rfl (vp_in_nI (by omega) (by omega)) (by rw [z_cla (by omega)]; exact hz886 _ (by omega)) ?_
        refine j_astore (lo' := [(5, _), (0, _), (1, _), (2, _), (3, _), (4, _)]) dX11_forgetCounts_28 rfl (by decide) rfl ?_
        refine j_iconst (v := 0) dX11_forgetCounts_30 (by decide) ?_
        refine j_istore (lo' := [(6, _), (5, _), (0, _), (1, _), (2, _), (3, _), (4, _)]) dX11_forgetCounts_31 (by decide) rfl ?_
        have loop33 : ∀ (n8 : Nat) (w3 : z_W) (s1 : z_Z) (j : Nat) (m : Int32), (j ≤ 7) → (7 < j + n8) → (m = sp_sz S k + q_sm (sp_C S k) j) → (sp_MR (sp_czS S k j) s1) → (s1.1.1 = 0) → (z_mst w3 s1) → (z_fm 59 w w3) → z_J G l mX11_forgetCounts (20, 0, 0, w, Q9, (fun _ _ => False)) 33 [(0, .ref 1000), (1, .int m), (2, .ref 1003), (3, .int (nI 3)), (4, .int (nI k)), (5, .ref (1004 + k)), (6, .int (nI j))] [] w3 0 0 := by
          intro n8
          induction n8 with
          | zero => intro w3 s1 j m hj hf8 hmm hR hth hm hfm; exact absurd hf8 (by omega)
          | succ n8 ih8 =>
            intro w3 s1 j m hj hf8 hmm hR hth hm hfm
            refine j_iload dX11_forgetCounts_33 rfl ?_
            refine j_aload dX11_forgetCounts_35 rfl rfl ?_
            refine j_alen dX11_forgetCounts_37 (hm.cn (i := k) (by omega)) rfl rfl ?_
            refine j_icmp_ge (tgt := 61) dX11_forgetCounts_38 (by decide) (fun c_38_52 => ?_) (fun c_38_52 => ?_)
            · have hb38 : 7 ≤ j := (nI_leI (a := 7) (b := j) (by omega) (by omega)).mp c_38_52
              refine j_iinc (lo' := [(4, _), (0, _), (1, _), (2, _), (3, _), (5, _), (6, _)]) dX11_forgetCounts_61 rfl (z_inc _) (by decide) rfl ?_
              refine j_goto (tgt := 18) dX11_forgetCounts_64 (by decide) ?_
              exact j_lo2 (ih w3 _ (k + 1) _ (by omega) (by omega) (by have e9 : j = 7 := (by omega); rw [hmm, e9]; rfl) (by have e9 : j = 7 := (by omega); have e := hR; rw [e9] at e; exact e.zk) (by exact hth) hm hfm) (z_q1 rfl (z_q1 rfl (z_q1 rfl (z_q1 rfl (z_q1 rfl z_q0)))))
            · have hb38 : j < 7 := Nat.not_le.mp (fun z => c_38_52 ((nI_leI (a := 7) (b := j) (by omega) (by omega)).mpr z))
              refine j_iload_n dX11_forgetCounts_41 rfl ?_
              refine j_aload dX11_forgetCounts_42 rfl rfl ?_
              refine j_iload dX11_forgetCounts_44 rfl ?_
              refine j_ld dX11_forgetCounts_46 (hm.cn (i := k) (by omega)) (vp_in_nI (by omega) (by omega)) ?_
              refine j_iadd dX11_forgetCounts_47 ?_
              refine j_istore_n (lo' := [(1, _), (0, _), (2, _), (3, _), (4, _), (5, _), (6, _)]) dX11_forgetCounts_48 (by decide) rfl ?_
              refine j_aload dX11_forgetCounts_49 rfl rfl ?_
              refine j_iload dX11_forgetCounts_51 rfl ?_
              refine j_iconst (v := 0) dX11_forgetCounts_53 (by decide) ?_
              refine j_sto (w' := _) dX11_forgetCounts_54 (hm.cn (i := k) (by omega)) (vp_in_nI (by omega) (by omega)) rfl ?_
              refine j_seal (by omega) ?_
              intro w4 u4
              have fw4 := u4.fw (ρ := 44 + k) (by omega) (by omega)
              have h4 := hm.up44 (i0 := k) (by omega) fw4 u4.1
              rw [z_cla (by omega)] at h4
              have R4 := hR.zj (by omega) (by omega)
              refine j_iinc (lo' := [(6, _), (1, _), (0, _), (2, _), (3, _), (4, _), (5, _)]) dX11_forgetCounts_55 rfl (z_inc _) (by decide) rfl ?_
              refine j_goto (tgt := 33) dX11_forgetCounts_58 (by decide) ?_
              exact j_lo2 (ih8 w4 _ (j + 1) _ (by omega) (by omega) (by rw [z_cla (by omega), hR.zr (by omega) (by omega), hmm, Int32.add_assoc]; rfl) R4 (by exact hth) h4 (hfm.tr (fw4.fm (q := 59) (by omega)))) (z_q1 rfl (z_q1 rfl (z_q1 rfl (z_q1 rfl (z_q1 rfl (z_q1 rfl (z_q1 rfl z_q0)))))))
        exact j_lo2 (loop33 8 w2 _ 0 _ (by omega) (by omega) (by rw [hmm]; exact (Int32.add_zero _).symm) hR (by exact hth) hm hfm) (z_q1 rfl (z_q1 rfl (z_q1 rfl (z_q1 rfl (z_q1 rfl (z_q1 rfl (z_q1 rfl z_q0)))))))
  exact j_lo2 (loop18 4 w1 _ 0 _ (by omega) (by omega) (by exact rfl) R1.z0 (by exact rfl) h1 (fw1.fm (q := 59) (by omega))) (z_q1 rfl (z_q1 rfl (z_q1 rfl (z_q1 rfl (z_q1 rfl z_q0)))))
end ZMe7
end ZM0
section ZM1
section ZOk
variable {S : sp_S}
theorem ok_uR {i : Nat} {B : List Int32} (ok : sp_ok S) (hB : B.length ≤ 12 ∧ ∀ v ∈ B, z_vl v) : sp_ok (sp_uR S i B) := by
  refine ⟨fun j hj => ?_, ok.2⟩
  show (z_fu (sp_R S) i B j).length ≤ 12 ∧ ∀ v ∈ z_fu (sp_R S) i B j, z_vl v
  by_cases e : j = i
  · rw [e, z_fu_self]; exact hB
  · rw [z_fu_ne e]; exact ok.1 j hj
theorem ok_uC {i : Nat} {c : Nat → Int32} (ok : sp_ok S) : sp_ok (sp_uC S i c) := ok
theorem ok_uF {i : Nat} {b : Bool} (ok : sp_ok S) : sp_ok (sp_uF S i b) := ok
theorem ok_uT {t : Nat} {T : List (Nat × Int32)} (ok : sp_ok S) (hT : sp_okT T) (h2 : t = 2 → sp_ri2 T) : sp_ok (sp_uT S t T) := by
  refine ⟨ok.1, fun j hj => ?_, ?_, ok.2.2.2⟩
  · show sp_okT (z_fu (sp_T S) t T j)
    by_cases e : j = t
    · rw [e, z_fu_self]; exact hT
    · rw [z_fu_ne e]; exact ok.2.1 j hj
  · show sp_ri2 (z_fu (sp_T S) t T 2)
    by_cases e : 2 = t
    · rw [← e, z_fu_self]; exact h2 e.symm
    · rw [z_fu_ne e]; exact ok.2.2.1
theorem ok_uE {g : Nat} {h : sp_H} (ok : sp_ok S) (hh : h.2.length ≤ 10) : sp_ok (sp_uE S g h) := by
  refine ⟨ok.1, ok.2.1, ok.2.2.1, fun j hj => ?_⟩
  show (z_fu (sp_E S) g h j).2.length ≤ 10
  by_cases e : j = g
  · rw [e, z_fu_self]; exact hh
  · rw [z_fu_ne e]; exact ok.2.2.2 j hj
theorem ok_nn {α : Type} {o : Option α} (ok : sp_ok S) : sp_ok (sp_nn S o) := ok
theorem ok_bn {b : Bool} (ok : sp_ok S) : sp_ok (sp_bn S b) := ok
theorem ok_nine (ok : sp_ok S) : sp_ok (sp_nine S) := ok
theorem ok_kno (ok : sp_ok S) : sp_ok (sp_kno S) := ok
theorem ok_tc {t : Nat} {c : Nat → Int32} (ok : sp_ok S) : sp_ok (sp_tc S t c) := by
  unfold sp_tc
  cases Nat.beq t 0
  · exact ok
  · exact ok
theorem ok_S0 : sp_ok sp_S0 := ⟨fun _ _ => ⟨Nat.zero_le _, fun _ h => by cases h⟩, fun _ _ => ⟨List.nodup_nil, fun _ h => by cases h⟩, List.Pairwise.nil, fun _ _ => Nat.zero_le _⟩
theorem sp_i_2 {r : Int32} (h : sp_two r) : sp_i r < 2 := by rcases h with rfl | rfl <;> decide
theorem sp_i_3 {r : Int32} (h : sp_thr r) : sp_i r < 3 := by rcases h with rfl | rfl | rfl <;> decide
theorem z_k23 {r : Int32} {P Q : Prop} [Decidable P] [Decidable Q] (h : sp_k23 r P Q = 0) : sp_two r ∧ ¬ P ∧ ¬ Q := by
  unfold sp_k23 at h
  by_cases a : sp_two r
  · rw [if_pos a] at h
    by_cases b : P
    · rw [if_pos b] at h; exact absurd h (by decide)
    · rw [if_neg b] at h
      by_cases c : Q
      · rw [if_pos c] at h; exact absurd h (by decide)
      · exact ⟨a, b, c⟩
  · rw [if_neg a] at h; exact absurd h (by decide)
theorem z_k22 {r : Int32} {P : Prop} [Decidable P] (h : q_k22 r P = 0) : sp_two r ∧ ¬ P := by
  by_cases a : sp_two r
  · rw [q_k22, if_pos a] at h
    by_cases b : P
    · rw [if_pos b] at h; exact absurd h (by decide)
    · exact ⟨a, b⟩
  · rw [q_k22, if_neg a] at h; exact absurd h (by decide)
theorem z_k2 {r : Int32} (h : q_k2 r = 0) : sp_two r := by
  by_cases a : sp_two r
  · exact a
  · rw [q_k2, if_neg a] at h; exact absurd h (by decide)
theorem z_k2b {r g : Int32} (h : sp_k2b r g = 0) : sp_two r ∧ sp_two g := by
  unfold sp_k2b at h
  by_cases a : sp_two r ∧ sp_two g
  · exact a
  · rw [if_neg a] at h; exact absurd h (by decide)
theorem z_k2c {r g : Int32} {P : Prop} [Decidable P] (h : sp_k2c r g P = 0) : sp_two r ∧ sp_two g ∧ ¬ P := by
  unfold sp_k2c at h
  by_cases a : sp_two r ∧ sp_two g
  · rw [if_pos a] at h
    by_cases b : P
    · rw [if_pos b] at h; exact absurd h (by decide)
    · exact ⟨a.1, a.2, b⟩
  · rw [if_neg a] at h; exact absurd h (by decide)
theorem z_k3b {r g : Int32} (h : sp_k3b r g = 0) : sp_thr r ∧ sp_two g := by
  unfold sp_k3b at h
  by_cases a : sp_thr r ∧ sp_two g
  · exact a
  · rw [if_neg a] at h; exact absurd h (by decide)
theorem z_k32 {r : Int32} {P : Prop} [Decidable P] (h : sp_k32 r P = 0) : sp_thr r ∧ ¬ P := by
  unfold sp_k32 at h
  by_cases a : sp_thr r
  · rw [if_pos a] at h
    by_cases b : P
    · rw [if_pos b] at h; exact absurd h (by decide)
    · exact ⟨a, b⟩
  · rw [if_neg a] at h; exact absurd h (by decide)
theorem q_mxv {v n : Int32} (hv : z_vl v) (hn : z_vl n) : z_vl (q_mx v n) := by
  unfold q_mx
  split
  · exact hn
  · exact hv
theorem q_rtv {r k v n y : Int32} (hv : z_vl v) (hn : z_vl n) (h : q_rt r k v n = some y) : y = -1000 ∨ z_vl y := by
  unfold q_rt at h
  split at h
  · cases h; exact Or.inr (q_bdr _)
  split at h
  · cases h; exact Or.inr (q_mxv hv hn)
  split at h
  · cases h
    cases q_ev (q_bd (v + n)) with
    | true => exact Or.inr (q_bdr _)
    | false => exact Or.inl rfl
  split at h
  · cases h; exact Or.inl rfl
  split at h
  · revert h
    cases q_ev (q_bd (v + n)) with
    | true => intro h; cases h; exact Or.inr (q_bdr _)
    | false => intro h; cases h
  · cases h; exact Or.inr (q_bdr _)
theorem q_rtv2 {r k v n y : Int32} (hr : r = 0 ∨ r = 1 ∨ r = 4 ∨ r = 5) (hv : z_vl v) (hn : z_vl n) (h : q_rt r k v n = some y) : z_vl y := by
  rcases hr with rfl | rfl | rfl | rfl
  · rw [q_rt0] at h; cases h; exact q_bdr _
  · rw [q_rt1] at h; cases h; exact q_mxv hv hn
  · rw [q_rt4] at h
    revert h
    cases q_ev (q_bd (v + n)) with
    | true => intro h; cases h; exact q_bdr _
    | false => intro h; cases h
  · rw [q_rt5 (Or.inr (by decide))] at h; cases h; exact q_bdr _
theorem sp_ri_ok {b : Bool} {t n : Int32} : ∀ {L A : List Int32} {c : Nat → Int32} {k : Bool}, (sp_ri b t n c A k L).2.2.length ≤ A.length + L.length ∧ ∀ v ∈ (sp_ri b t n c A k L).2.2, v ∈ A ∨ v ∈ L
  | [], A, c, k => ⟨Nat.le_refl _, fun v h => Or.inl h⟩
  | x :: L, A, c, k => by
    have all : (A ++ x :: L).length ≤ A.length + (x :: L).length ∧ ∀ v ∈ A ++ x :: L, v ∈ A ∨ v ∈ x :: L := ⟨by rw [List.length_append]; exact Nat.le_refl _, fun v h => List.mem_append.mp h⟩
    rcases q_tt_s (t := t) (x := x) (n := n) with e | e | e
    · rw [sp_riN e]; exact all
    · cases b with
      | true => rw [sp_riF e]; exact all
      | false =>
        rw [sp_riT e]
        have ih := sp_ri_ok (b := false) (t := t) (n := n) (L := L) (A := A) (c := z_bp (z_bp (z_bp c 1) 2) 4) (k := true)
        exact ⟨Nat.le_trans ih.1 (by rw [List.length_cons]; omega), fun v h => (ih.2 v h).imp id (List.mem_cons_of_mem _)⟩
    · rw [sp_riO e (by decide)]
      have ih := sp_ri_ok (b := b) (t := t) (n := n) (L := L) (A := A ++ [x]) (c := z_bp (z_bp c 1) 2) (k := k)
      refine ⟨Nat.le_trans ih.1 (by rw [List.length_append, List.length_cons, List.length_cons, List.length_nil]; omega), fun v h => ?_⟩
      rcases ih.2 v h with h | h
      · rcases List.mem_append.mp h with h | h
        · exact Or.inl h
        · exact Or.inr (by rw [List.mem_singleton.mp h]; exact List.mem_cons_self)
      · exact Or.inr (List.mem_cons_of_mem _ h)
theorem sp_ra_ok {b : Bool} {r n : Int32} (hr : r = 0 ∨ r = 1 ∨ r = 4 ∨ r = 5) (hn : z_vl n) : ∀ {L A : List Int32} {c : Nat → Int32}, (∀ v ∈ A, z_vl v) → (∀ v ∈ L, z_vl v) → (sp_ra b r n c A L).2.2.length = A.length + L.length ∧ ∀ v ∈ (sp_ra b r n c A L).2.2, z_vl v
  | [], A, c, hA, _ => ⟨rfl, hA⟩
  | x :: L, A, c, hA, hL => by
    have all : (A ++ x :: L).length = A.length + (x :: L).length ∧ ∀ v ∈ A ++ x :: L, z_vl v := ⟨by rw [List.length_append], fun v h => (List.mem_append.mp h).elim (hA v) (hL v)⟩
    cases e : q_rt r 0 x n with
    | none => rw [sp_raN e]; exact all
    | some y =>
      cases b with
      | true => rw [sp_raF e]; exact all
      | false =>
        rw [sp_raT e]
        have ih := sp_ra_ok (b := false) hr hn (L := L) (A := A ++ [y]) (c := z_bp (z_bp (z_bp c 1) 2) 3) (fun v h => (List.mem_append.mp h).elim (hA v) (fun z => by rw [List.mem_singleton.mp z]; exact q_rtv2 hr (hL x List.mem_cons_self) hn e)) (fun v h => hL v (List.mem_cons_of_mem _ h))
        exact ⟨by rw [ih.1, List.length_append, List.length_cons, List.length_cons, List.length_nil]; omega, ih.2⟩
theorem sp_rt_ok {r n : Int32} (hr : r = 0 ∨ r = 1 ∨ r = 4 ∨ r = 5) (hn : z_vl n) : ∀ {L A : List (Nat × Int32)} {c : Nat → Int32}, (∀ p ∈ A, p.1 < 20 ∧ z_vl p.2) → (∀ p ∈ L, p.1 < 20 ∧ z_vl p.2) → sp_ks (sp_rt r n c A L).2.2 = sp_ks (A ++ L) ∧ ∀ p ∈ (sp_rt r n c A L).2.2, p.1 < 20 ∧ z_vl p.2
  | [], A, c, hA, _ => ⟨by rw [List.append_nil]; rfl, hA⟩
  | x :: L, A, c, hA, hL => by
    cases e : q_rt r (nI x.1) x.2 n with
    | none => rw [sp_rtN e]; exact ⟨rfl, fun v h => (List.mem_append.mp h).elim (hA v) (hL v)⟩
    | some y =>
      rw [sp_rtS e]
      have hx := hL x List.mem_cons_self
      have ih := sp_rt_ok hr hn (L := L) (A := A ++ [(x.1, y)]) (c := z_bp (z_bp (z_bp c 1) 2) 3) (fun v h => (List.mem_append.mp h).elim (hA v) (fun z => by rw [List.mem_singleton.mp z]; exact ⟨hx.1, q_rtv2 hr hx.2 hn e⟩)) (fun v h => hL v (List.mem_cons_of_mem _ h))
      refine ⟨?_, ih.2⟩
      rw [ih.1]
      unfold sp_ks
      rw [List.map_append, List.map_append, List.map_append, List.append_assoc]
      rfl
theorem ok_hr {i g a : Nat} (ok : sp_ok S) (hg : g < 2) : sp_ok (sp_hrS S i g a) := ok_nn (ok_uE (ok_uC ok) (sp_ho_le _ _ _ _ (ok.2.2.2 g hg)))
theorem ok_sft {i : Nat} {t n : Int32} (ok : sp_ok S) (hi : i < 2) : sp_ok (sp_sftS S i t n) := by
  have h := sp_ri_ok (b := sp_F S i) (t := t) (n := n) (L := sp_R S i) (A := []) (c := z_bp (sp_C S i) 0) (k := false)
  exact ok_nn (ok_uR (ok_uC ok) ⟨Nat.le_trans h.1 (by rw [List.length_nil, Nat.zero_add]; exact (ok.1 i hi).1), fun v hv => (h.2 v hv).elim (fun z => by cases z) ((ok.1 i hi).2 v)⟩)
theorem ok_chg {i : Nat} {r n : Int32} (ok : sp_ok S) (hi : i < 2) (hr : r = 0 ∨ r = 1 ∨ r = 4 ∨ r = 5) (hn : z_vl n) : sp_ok (sp_chgS S i r n) := by
  have h := sp_ra_ok (b := sp_F S i) hr hn (L := sp_R S i) (A := []) (c := z_bp (sp_C S i) 0) (fun v z => by cases z) (ok.1 i hi).2
  exact ok_bn (ok_uR (ok_uC ok) ⟨by unfold sp_chg; rw [h.1, List.length_nil, Nat.zero_add]; exact (ok.1 i hi).1, h.2⟩)
theorem ok_tb {t : Nat} {o : sp_O} (ok : sp_ok S) (h1 : sp_okT o.2.1) (h2 : t = 2 → sp_ri2 o.2.1) : sp_ok (sp_tb S t o) := ok_nn (ok_tc (ok_uT ok h1 h2))
theorem ok_pt {t k : Nat} {v : Int32} (ok : sp_ok S) (ht : t < 3) (hk : k < 20) (hv : z_vl v) : sp_okT (sp_pt (sp_srt t) (sp_T S t) k v) ∧ (t = 2 → sp_ri2 (sp_pt (sp_srt t) (sp_T S t) k v)) :=
  ⟨sp_pt_ok (ok.2.1 t ht) hk hv, fun e => by subst e; exact sp_pt_ri (ok.2.1 2 ht) ok.2.2.1⟩
theorem ok_go {t k : Nat} (ok : sp_ok S) (ht : t < 3) : sp_okT (sp_go (sp_T S t) k) ∧ (t = 2 → sp_ri2 (sp_go (sp_T S t) k)) :=
  ⟨sp_go_ok (ok.2.1 t ht), fun e => by subst e; exact sp_go_ri ok.2.2.1⟩
theorem ok_id {t : Nat} (ok : sp_ok S) (ht : t < 3) : sp_okT (sp_T S t) ∧ (t = 2 → sp_ri2 (sp_T S t)) := ⟨ok.2.1 t ht, fun e => by subst e; exact ok.2.2.1⟩
theorem ok_bec {t k : Nat} {o : Option Int32} {c : Nat → Int32} (ok : sp_ok S) (ht : t < 3) (hk : k < 20) (ho : ∀ y, o = some y → y = -1000 ∨ z_vl y) : sp_okT (sp_bec (sp_srt t) (sp_T S t) c k o).2.1 ∧ (t = 2 → sp_ri2 (sp_bec (sp_srt t) (sp_T S t) c k o).2.1) := by
  cases o with
  | none => exact ok_id ok ht
  | some y =>
    by_cases e : y = -1000
    · by_cases e2 : sp_lk (sp_T S t) k = -1000
      · have h9 : sp_bec (sp_srt t) (sp_T S t) c k (some y) = (some y, sp_T S t, c) := (if_pos e).trans (if_pos e2)
        rw [h9]; exact ok_id ok ht
      · have h9 : sp_bec (sp_srt t) (sp_T S t) c k (some y) = (some y, sp_go (sp_T S t) k, z_bp c 6) := (if_pos e).trans (if_neg e2)
        rw [h9]; exact ok_go ok ht
    · have h9 : sp_bec (sp_srt t) (sp_T S t) c k (some y) = (some y, sp_pt (sp_srt t) (sp_T S t) k y, z_bp c 5) := if_neg e
      rw [h9]; exact ok_pt ok ht hk ((ho y rfl).resolve_left e)
theorem sp_k20 {k : Int32} (h : ¬ sp_bk k) : sp_i k < 20 := by
  obtain ⟨i, hi, rfl⟩ := sp_nt (m := 19) (b := 19) rfl (by decide) h
  rw [sp_in' (by omega)]
  omega
theorem ok_type {r y : Int32} (ok : sp_ok S) (h : sp_k23 r (sp_bv y) ((sp_R S (sp_i r)).length = 12) = 0) : sp_ok (sp_uR S (sp_i r) (sp_R S (sp_i r) ++ [y])) := by
  obtain ⟨h1, h2, h3⟩ := z_k23 h
  have h4 := ok.1 (sp_i r) (sp_i_2 h1)
  refine ok_uR ok ⟨by rw [List.length_append]; show _ + 1 ≤ 12; omega, fun v hv => ?_⟩
  rcases List.mem_append.mp hv with z | z
  · exact h4.2 v z
  · rw [List.mem_singleton.mp z]; exact sp_vl h2
theorem ok_drop {r : Int32} {n : Nat} {P : Prop} [Decidable P] (ok : sp_ok S) (h : q_k22 r P = 0) : sp_ok (sp_uR S (sp_i r) ((sp_R S (sp_i r)).take n)) := by
  have h4 := ok.1 (sp_i r) (sp_i_2 (z_k22 h).1)
  exact ok_uR ok ⟨by rw [List.length_take]; have := h4.1; omega, fun v hv => h4.2 v (List.mem_of_mem_take hv)⟩
theorem ok_copy {r : Int32} (ok : sp_ok S) (h : q_k2 r = 0) : sp_ok (sp_uR S (sp_i r) (sp_R S (1 - sp_i r))) := ok_uR ok (ok.1 _ (by have := sp_i_2 (z_k2 h); omega))
theorem ok_put {t k y : Int32} (ok : sp_ok S) (h : sp_k32 t (sp_bk k ∨ sp_bv y) = 0) : sp_ok (sp_tb S (sp_i t) (sp_put (sp_srt (sp_i t)) (sp_T S (sp_i t)) (sp_C S 2) (sp_i k) y)) := by
  obtain ⟨h1, h2⟩ := z_k32 h
  have h3 := ok_pt (v := y) ok (sp_i_3 h1) (sp_k20 (fun z => h2 (Or.inl z))) (sp_vl (fun z => h2 (Or.inr z)))
  exact ok_tb ok h3.1 h3.2
theorem ok_remove {t k : Int32} (ok : sp_ok S) (h : sp_k32 t (sp_bk k) = 0) : sp_ok (sp_tb S (sp_i t) (sp_del (sp_T S (sp_i t)) (sp_C S 2) (sp_i k))) := by
  have h3 := ok_go (k := sp_i k) ok (sp_i_3 (z_k32 h).1)
  exact ok_tb ok h3.1 h3.2
theorem ok_putIfAbsent {t k y : Int32} (ok : sp_ok S) (h : sp_k32 t (sp_bk k ∨ sp_bv y) = 0) : sp_ok (sp_tb S (sp_i t) (sp_pia (sp_srt (sp_i t)) (sp_T S (sp_i t)) (sp_C S 2) (sp_i k) y)) := by
  obtain ⟨h1, h2⟩ := z_k32 h
  unfold sp_pia
  split
  · have h3 := ok_pt (v := y) ok (sp_i_3 h1) (sp_k20 (fun z => h2 (Or.inl z))) (sp_vl (fun z => h2 (Or.inr z)))
    exact ok_tb ok h3.1 h3.2
  · have h3 := ok_id ok (sp_i_3 h1)
    exact ok_tb ok h3.1 h3.2
theorem ok_replace {t k y : Int32} (ok : sp_ok S) (h : sp_k32 t (sp_bk k ∨ sp_bv y) = 0) : sp_ok (sp_tb S (sp_i t) (sp_rep (sp_srt (sp_i t)) (sp_T S (sp_i t)) (sp_C S 2) (sp_i k) y)) := by
  obtain ⟨h1, h2⟩ := z_k32 h
  unfold sp_rep
  split
  · have h3 := ok_id ok (sp_i_3 h1)
    exact ok_tb ok h3.1 h3.2
  · have h3 := ok_pt (v := y) ok (sp_i_3 h1) (sp_k20 (fun z => h2 (Or.inl z))) (sp_vl (fun z => h2 (Or.inr z)))
    exact ok_tb ok h3.1 h3.2
theorem ok_replaceIf {t k o y : Int32} (ok : sp_ok S) (h : sp_k32 t (sp_bk k ∨ sp_bv o ∨ sp_bv y) = 0) : sp_ok (sp_tb S (sp_i t) (sp_rif (sp_srt (sp_i t)) (sp_T S (sp_i t)) (sp_C S 2) (sp_i k) o y)) := by
  obtain ⟨h1, h2⟩ := z_k32 h
  unfold sp_rif
  split
  · have h3 := ok_pt (v := y) ok (sp_i_3 h1) (sp_k20 (fun z => h2 (Or.inl z))) (sp_vl (fun z => h2 (Or.inr (Or.inr z))))
    exact ok_tb ok h3.1 h3.2
  · have h3 := ok_id ok (sp_i_3 h1)
    exact ok_tb ok h3.1 h3.2
theorem ok_removePair {t k y : Int32} (ok : sp_ok S) (h : sp_k32 t (sp_bk k ∨ sp_bv y) = 0) : sp_ok (sp_tb S (sp_i t) (sp_rmp (sp_T S (sp_i t)) (sp_C S 2) (sp_i k) y)) := by
  obtain ⟨h1, h2⟩ := z_k32 h
  unfold sp_rmp
  split
  · have h3 := ok_go (k := sp_i k) ok (sp_i_3 h1)
    exact ok_tb ok h3.1 h3.2
  · have h3 := ok_id ok (sp_i_3 h1)
    exact ok_tb ok h3.1 h3.2
theorem ok_computeIfAbsent {t k r n : Int32} (ok : sp_ok S) (h : sp_k32 t (sp_bk k ∨ (r < 0 ∨ 5 < r) ∨ sp_bv n) = 0) : sp_ok (sp_tb S (sp_i t) (sp_cia (sp_srt (sp_i t)) (sp_T S (sp_i t)) (sp_C S 2) (sp_i k) r n)) := by
  obtain ⟨h1, h2⟩ := z_k32 h
  unfold sp_cia
  split
  · have h3 := ok_bec (c := sp_C S 2) (o := q_rt r (nI (sp_i k)) 0 n) ok (sp_i_3 h1) (sp_k20 (fun z => h2 (Or.inl z))) (fun y hy => q_rtv ⟨by decide, by decide⟩ (sp_vl (fun z => h2 (Or.inr (Or.inr z)))) hy)
    exact ok_tb ok h3.1 h3.2
  · have h3 := ok_id ok (sp_i_3 h1)
    exact ok_tb ok h3.1 h3.2
theorem ok_computeIfPresent {t k r n : Int32} (ok : sp_ok S) (h : sp_k32 t (sp_bk k ∨ (r < 0 ∨ 5 < r) ∨ sp_bv n) = 0) : sp_ok (sp_tb S (sp_i t) (sp_cip (sp_srt (sp_i t)) (sp_T S (sp_i t)) (sp_C S 2) (sp_i k) r n)) := by
  obtain ⟨h1, h2⟩ := z_k32 h
  unfold sp_cip
  split
  · have h3 := ok_id ok (sp_i_3 h1)
    exact ok_tb ok h3.1 h3.2
  · rename_i c
    have h3 := ok_bec (c := sp_C S 2) (o := q_rt r (nI (sp_i k)) (sp_lk (sp_T S (sp_i t)) (sp_i k)) n) ok (sp_i_3 h1) (sp_k20 (fun z => h2 (Or.inl z))) (fun y hy => q_rtv (sp_lk_vl (ok.2.1 _ (sp_i_3 h1)).2 (sp_memk (ok.2.1 _ (sp_i_3 h1)) c)) (sp_vl (fun z => h2 (Or.inr (Or.inr z)))) hy)
    exact ok_tb ok h3.1 h3.2
theorem ok_compute {t k r n : Int32} (ok : sp_ok S) (h : sp_k32 t (sp_bk k ∨ (r < 0 ∨ 5 < r) ∨ sp_bv n) = 0) : sp_ok (sp_tb S (sp_i t) (sp_cmp (sp_srt (sp_i t)) (sp_T S (sp_i t)) (sp_C S 2) (sp_i k) r n)) := by
  obtain ⟨h1, h2⟩ := z_k32 h
  have h3 := ok_bec (c := sp_C S 2) (o := q_rt r (nI (sp_i k)) (q_d (sp_lk (sp_T S (sp_i t)) (sp_i k))) n) ok (sp_i_3 h1) (sp_k20 (fun z => h2 (Or.inl z))) (fun y hy => q_rtv (q_d_vl (ok.2.1 _ (sp_i_3 h1))) (sp_vl (fun z => h2 (Or.inr (Or.inr z)))) hy)
  exact ok_tb ok h3.1 h3.2
theorem ok_merge {t k y r : Int32} (ok : sp_ok S) (h : sp_k32 t (sp_bk k ∨ (r < 0 ∨ 5 < r) ∨ sp_bv y) = 0) : sp_ok (sp_tb S (sp_i t) (sp_mrg (sp_srt (sp_i t)) (sp_T S (sp_i t)) (sp_C S 2) (sp_i k) y r)) := by
  obtain ⟨h1, h2⟩ := z_k32 h
  unfold sp_mrg
  split
  · have h3 := ok_pt (v := y) ok (sp_i_3 h1) (sp_k20 (fun z => h2 (Or.inl z))) (sp_vl (fun z => h2 (Or.inr (Or.inr z))))
    exact ok_tb ok h3.1 h3.2
  · rename_i c
    have h3 := ok_bec (c := sp_C S 2) (o := q_rt r (nI (sp_i k)) (sp_lk (sp_T S (sp_i t)) (sp_i k)) y) ok (sp_i_3 h1) (sp_k20 (fun z => h2 (Or.inl z))) (fun y2 hy => q_rtv (sp_lk_vl (ok.2.1 _ (sp_i_3 h1)).2 (sp_memk (ok.2.1 _ (sp_i_3 h1)) c)) (sp_vl (fun z => h2 (Or.inr (Or.inr z)))) hy)
    exact ok_tb ok h3.1 h3.2
theorem ok_htb {t g : Nat} (ok : sp_ok S) (hg : g < 2) : sp_ok (sp_htbS S t g) := ok_nn (ok_uE (ok_tc ok) (sp_ho_le _ _ _ _ (ok.2.2.2 g hg)))
theorem ok_ctb {t : Nat} {r n : Int32} (ok : sp_ok S) (ht : t < 3) (hr : r = 0 ∨ r = 1 ∨ r = 4 ∨ r = 5) (hn : z_vl n) : sp_ok (sp_ctbS S t r n) := by
  have h := sp_rt_ok hr hn (L := sp_T S t) (A := []) (c := z_bp (sp_C S 2) 0) (fun v z => by cases z) (ok.2.1 t ht).2
  have hk : sp_ks (sp_ctb S t r n).2.2 = sp_ks (sp_T S t) := h.1
  refine ok_bn (ok_tc (ok_uT ok ⟨?_, h.2⟩ (fun e => ?_)))
  · rw [hk]; exact (ok.2.1 t ht).1
  · show (sp_ks (sp_ctb S t r n).2.2).Pairwise (· < ·)
    rw [hk]; subst e; exact ok.2.2.1
theorem ok_clear {t : Nat} (ok : sp_ok S) : sp_ok (sp_uT S t []) := ok_uT ok ⟨List.nodup_nil, fun _ h => by cases h⟩ (fun _ => List.Pairwise.nil)
theorem ok_hsp {a b c : Int32} {d g : Nat} (ok : sp_ok S) (hg : g < 2) : sp_ok (sp_hspS S a b c d g) := ok_nn (ok_uE ok (sp_ho_le _ _ _ _ (ok.2.2.2 g hg)))
theorem ok_stop {g : Nat} {n : Int32} (ok : sp_ok S) (hg : g < 2) : sp_ok (sp_uE S g (sp_stp' (sp_E S g) n)) := ok_uE ok (ok.2.2.2 g hg)
theorem ok_forget {g : Nat} (ok : sp_ok S) : sp_ok (sp_uE S g (sp_fgt (sp_E S g))) := ok_uE ok (Nat.zero_le _)
theorem ok_csS (ok : sp_ok S) : sp_ok (sp_csS S) := ok
end ZOk
end ZM1
section ZM2
section ZMtx
variable {G : z_G} {l : Launch}
theorem sp_ke {w : z_W} {S : sp_S} {s1 s2 : z_Z} (_ : z_mst w s2) (k : sp_MR S s1) (e : s2.1.2 = s1.1.2 ∧ s2.2 = s1.2) : sp_MR S s2 := by
  obtain ⟨a1, a2⟩ := s1
  obtain ⟨b1, b2⟩ := s2
  obtain ⟨e1, e2⟩ := e
  have e1 : b1.2 = a1.2 := e1
  have e2 : b2 = a2 := e2
  subst e2
  exact ⟨e1.trans k.1, k.2⟩
end ZMtx
end ZM2
section ZM3
section ZMi
variable {G : z_G} {l : Launch}
set_option maxRecDepth 100000 in
set_option maxHeartbeats 16000000 in
theorem cx_init (hl : l.stackTraces = false) (w : z_W)  (hfn : z_fn w) (hno : ∀ k, 1001 ≤ k → z_g w k = none) (gm : z_g w 1000 = some (.inr (15, [.int 0, .null, .null, .null, .null, .null, .int 0, .int 0]))) : z_Con G l mX11_init 20 40 300 w [.ref 1000] (fun v w9 => v = none ∧ w9.1 = w.1 ∧ ∃ s9, z_mst w9 s9 ∧ sp_MR sp_S0 s9) (fun _ _ => False) := by
  have f_1001 : z_g w 1001 = none := hno 1001 (by decide)
  have f_1002 : z_g w 1002 = none := hno 1002 (by decide)
  have f_1003 : z_g w 1003 = none := hno 1003 (by decide)
  have f_1004 : z_g w 1004 = none := hno 1004 (by decide)
  have f_1005 : z_g w 1005 = none := hno 1005 (by decide)
  have f_1006 : z_g w 1006 = none := hno 1006 (by decide)
  have f_1007 : z_g w 1007 = none := hno 1007 (by decide)
  have f_1008 : z_g w 1008 = none := hno 1008 (by decide)
  have f_1009 : z_g w 1009 = none := hno 1009 (by decide)
  have f_1010 : z_g w 1010 = none := hno 1010 (by decide)
  have f_1011 : z_g w 1011 = none := hno 1011 (by decide)
  have f_1012 : z_g w 1012 = none := hno 1012 (by decide)
  have f_1013 : z_g w 1013 = none := hno 1013 (by decide)
  have f_1014 : z_g w 1014 = none := hno 1014 (by decide)
  have f_1015 : z_g w 1015 = none := hno 1015 (by decide)
  have f_1035 : z_g w 1035 = none := hno 1035 (by decide)
  have f_1036 : z_g w 1036 = none := hno 1036 (by decide)
  have b0 : w.1 = w.1 := rfl
  refine z_body hl (by decide) rfl (Nat.le_of_ble_eq_true rfl) ?_
  show z_J G l mX11_init _ 0 [(0, _)] [] _ 0 0
  refine j_aload_n dX11_init_0 rfl rfl ?_
  refine j_objI dX11_init_1 oX11_12 z_oi1 z_oi2 (Nat.le_of_ble_eq_true rfl) (Nat.le_of_ble_eq_true rfl) ?_
  refine j_aload_n dX11_init_4 rfl rfl ?_
  refine j_new (w' := _) (n := 1001) dX11_init_5 nX11_18 rfl (z_alW f_1001 (by decide)) (Nat.le_of_ble_eq_true rfl) (Nat.le_of_ble_eq_true rfl) ?_
  refine j_seal (n := 1001) (by decide) ?_
  intro w1 u1
  have fw1 := u1.fw (ρ := 41) (by decide) (by decide)
  have g1_1002 := (fw1.2.2 1002 (Or.inr (by decide))).trans f_1002
  have g1_1003 := (fw1.2.2 1003 (Or.inr (by decide))).trans f_1003
  have g1_1004 := (fw1.2.2 1004 (Or.inr (by decide))).trans f_1004
  have g1_1005 := (fw1.2.2 1005 (Or.inr (by decide))).trans f_1005
  have g1_1006 := (fw1.2.2 1006 (Or.inr (by decide))).trans f_1006
  have g1_1007 := (fw1.2.2 1007 (Or.inr (by decide))).trans f_1007
  have g1_1008 := (fw1.2.2 1008 (Or.inr (by decide))).trans f_1008
  have g1_1009 := (fw1.2.2 1009 (Or.inr (by decide))).trans f_1009
  have g1_1010 := (fw1.2.2 1010 (Or.inr (by decide))).trans f_1010
  have g1_1011 := (fw1.2.2 1011 (Or.inr (by decide))).trans f_1011
  have g1_1012 := (fw1.2.2 1012 (Or.inr (by decide))).trans f_1012
  have g1_1013 := (fw1.2.2 1013 (Or.inr (by decide))).trans f_1013
  have g1_1014 := (fw1.2.2 1014 (Or.inr (by decide))).trans f_1014
  have g1_1015 := (fw1.2.2 1015 (Or.inr (by decide))).trans f_1015
  have g1_1035 := (fw1.2.2 1035 (Or.inr (by decide))).trans f_1035
  have g1_1036 := (fw1.2.2 1036 (Or.inr (by decide))).trans f_1036
  have g1_1000 := (fw1.2.2 1000 (Or.inr (by decide))).trans gm
  have g1_1001 := u1.1
  have b1 := (fw1.1).trans b0
  have hf1 := fw1.2.1 hfn
  refine j_dup dX11_init_8 rfl ?_
  refine j_callI dX11_init_9 kJx4a65c_init_da8c8 rfl lX11_20 inJx4a65c_init_da8c8 rfl (cl_init hl w1 41 1001 (by decide) (by decide) g1_1001) (Nat.le_of_ble_eq_true rfl) ⟨(Nat.le_of_ble_eq_true rfl), (Nat.le_of_ble_eq_true rfl)⟩ rfl (Nat.le_of_ble_eq_true rfl) rfl rfl (fun _ _ h => h.elim) ?_
  rintro _ w2 ⟨rfl, fw2, hk2, l2_1001⟩
  have g2_1002 := (fw2.2.2 1002 (Or.inr (by decide))).trans g1_1002
  have g2_1003 := (fw2.2.2 1003 (Or.inr (by decide))).trans g1_1003
  have g2_1004 := (fw2.2.2 1004 (Or.inr (by decide))).trans g1_1004
  have g2_1005 := (fw2.2.2 1005 (Or.inr (by decide))).trans g1_1005
  have g2_1006 := (fw2.2.2 1006 (Or.inr (by decide))).trans g1_1006
  have g2_1007 := (fw2.2.2 1007 (Or.inr (by decide))).trans g1_1007
  have g2_1008 := (fw2.2.2 1008 (Or.inr (by decide))).trans g1_1008
  have g2_1009 := (fw2.2.2 1009 (Or.inr (by decide))).trans g1_1009
  have g2_1010 := (fw2.2.2 1010 (Or.inr (by decide))).trans g1_1010
  have g2_1011 := (fw2.2.2 1011 (Or.inr (by decide))).trans g1_1011
  have g2_1012 := (fw2.2.2 1012 (Or.inr (by decide))).trans g1_1012
  have g2_1013 := (fw2.2.2 1013 (Or.inr (by decide))).trans g1_1013
  have g2_1014 := (fw2.2.2 1014 (Or.inr (by decide))).trans g1_1014
  have g2_1015 := (fw2.2.2 1015 (Or.inr (by decide))).trans g1_1015
  have g2_1035 := (fw2.2.2 1035 (Or.inr (by decide))).trans g1_1035
  have g2_1036 := (fw2.2.2 1036 (Or.inr (by decide))).trans g1_1036
  have g2_1000 := (fw2.2.2 1000 (Or.inr (by decide))).trans g1_1000
  clear g1_1002 g1_1003 g1_1004 g1_1005 g1_1006 g1_1007 g1_1008 g1_1009 g1_1010 g1_1011 g1_1012 g1_1013 g1_1014 g1_1015 g1_1035 g1_1036 g1_1000
  have b2 := (fw2.1).trans b1
  have hf2 := fw2.2.1 hf1
  refine j_putF (w' := _) dX11_init_12 fX11_21 tX11_1 rfl (z_dc rfl rfl (z_w 1454 ((lwt_6_6 29).trans rfl) (by decide +kernel))) g2_1000 (Or.inl ⟨_, rfl⟩) rfl ?_
  refine j_seal (n := 1000) (by decide) ?_
  intro w3 u3
  have fw3 := u3.fw (ρ := 40) (by decide) (by decide)
  have g3_1002 := (fw3.2.2 1002 (Or.inr (by decide))).trans g2_1002
  have g3_1003 := (fw3.2.2 1003 (Or.inr (by decide))).trans g2_1003
  have g3_1004 := (fw3.2.2 1004 (Or.inr (by decide))).trans g2_1004
  have g3_1005 := (fw3.2.2 1005 (Or.inr (by decide))).trans g2_1005
  have g3_1006 := (fw3.2.2 1006 (Or.inr (by decide))).trans g2_1006
  have g3_1007 := (fw3.2.2 1007 (Or.inr (by decide))).trans g2_1007
  have g3_1008 := (fw3.2.2 1008 (Or.inr (by decide))).trans g2_1008
  have g3_1009 := (fw3.2.2 1009 (Or.inr (by decide))).trans g2_1009
  have g3_1010 := (fw3.2.2 1010 (Or.inr (by decide))).trans g2_1010
  have g3_1011 := (fw3.2.2 1011 (Or.inr (by decide))).trans g2_1011
  have g3_1012 := (fw3.2.2 1012 (Or.inr (by decide))).trans g2_1012
  have g3_1013 := (fw3.2.2 1013 (Or.inr (by decide))).trans g2_1013
  have g3_1014 := (fw3.2.2 1014 (Or.inr (by decide))).trans g2_1014
  have g3_1015 := (fw3.2.2 1015 (Or.inr (by decide))).trans g2_1015
  have g3_1035 := (fw3.2.2 1035 (Or.inr (by decide))).trans g2_1035
  have g3_1036 := (fw3.2.2 1036 (Or.inr (by decide))).trans g2_1036
  clear g2_1002 g2_1003 g2_1004 g2_1005 g2_1006 g2_1007 g2_1008 g2_1009 g2_1010 g2_1011 g2_1012 g2_1013 g2_1014 g2_1015 g2_1035 g2_1036
  have l3_1001 := l2_1001.fw fw3 (by decide)
  have g3_1000 := u3.1
  have b3 := (fw3.1).trans b2
  have hf3 := fw3.2.1 hf2
  refine j_aload_n dX11_init_15 rfl rfl ?_
  refine j_iconst (v := 2) dX11_init_16 (by decide) ?_
  refine j_newa (kd := 1) (N := 2) (w' := _) (n := 1002) dX11_init_17 rfl rfl arc_boolean ⟨rfl, fun _ _ h => h⟩ (by decide) rfl (by decide) rfl (z_alW g3_1002 (by decide)) (Nat.le_of_ble_eq_true rfl) (Nat.le_of_ble_eq_true rfl) ?_
  refine j_seal (n := 1002) (by decide) ?_
  intro w4 u4
  have fw4 := u4.fw (ρ := 42) (by decide) (by decide)
  have g4_1003 := (fw4.2.2 1003 (Or.inr (by decide))).trans g3_1003
  have g4_1004 := (fw4.2.2 1004 (Or.inr (by decide))).trans g3_1004
  have g4_1005 := (fw4.2.2 1005 (Or.inr (by decide))).trans g3_1005
  have g4_1006 := (fw4.2.2 1006 (Or.inr (by decide))).trans g3_1006
  have g4_1007 := (fw4.2.2 1007 (Or.inr (by decide))).trans g3_1007
  have g4_1008 := (fw4.2.2 1008 (Or.inr (by decide))).trans g3_1008
  have g4_1009 := (fw4.2.2 1009 (Or.inr (by decide))).trans g3_1009
  have g4_1010 := (fw4.2.2 1010 (Or.inr (by decide))).trans g3_1010
  have g4_1011 := (fw4.2.2 1011 (Or.inr (by decide))).trans g3_1011
  have g4_1012 := (fw4.2.2 1012 (Or.inr (by decide))).trans g3_1012
  have g4_1013 := (fw4.2.2 1013 (Or.inr (by decide))).trans g3_1013
  have g4_1014 := (fw4.2.2 1014 (Or.inr (by decide))).trans g3_1014
  have g4_1015 := (fw4.2.2 1015 (Or.inr (by decide))).trans g3_1015
  have g4_1035 := (fw4.2.2 1035 (Or.inr (by decide))).trans g3_1035
  have g4_1036 := (fw4.2.2 1036 (Or.inr (by decide))).trans g3_1036
  have g4_1000 := (fw4.2.2 1000 (Or.inr (by decide))).trans g3_1000
  clear g3_1003 g3_1004 g3_1005 g3_1006 g3_1007 g3_1008 g3_1009 g3_1010 g3_1011 g3_1012 g3_1013 g3_1014 g3_1015 g3_1035 g3_1036 g3_1000
  have l4_1001 := l3_1001.fw fw4 (by decide)
  have g4_1002 := u4.1
  have b4 := (fw4.1).trans b3
  have hf4 := fw4.2.1 hf3
  refine j_putF (w' := _) dX11_init_19 fX11_25 tX11_2 rfl (z_dc rfl rfl (z_w 1455 ((lwt_6_7 0).trans rfl) (by decide +kernel))) g4_1000 (Or.inr ⟨_, rfl⟩) rfl ?_
  refine j_seal (n := 1000) (by decide) ?_
  intro w5 u5
  have fw5 := u5.fw (ρ := 40) (by decide) (by decide)
  have g5_1002 := (fw5.2.2 1002 (Or.inr (by decide))).trans g4_1002
  have g5_1003 := (fw5.2.2 1003 (Or.inr (by decide))).trans g4_1003
  have g5_1004 := (fw5.2.2 1004 (Or.inr (by decide))).trans g4_1004
  have g5_1005 := (fw5.2.2 1005 (Or.inr (by decide))).trans g4_1005
  have g5_1006 := (fw5.2.2 1006 (Or.inr (by decide))).trans g4_1006
  have g5_1007 := (fw5.2.2 1007 (Or.inr (by decide))).trans g4_1007
  have g5_1008 := (fw5.2.2 1008 (Or.inr (by decide))).trans g4_1008
  have g5_1009 := (fw5.2.2 1009 (Or.inr (by decide))).trans g4_1009
  have g5_1010 := (fw5.2.2 1010 (Or.inr (by decide))).trans g4_1010
  have g5_1011 := (fw5.2.2 1011 (Or.inr (by decide))).trans g4_1011
  have g5_1012 := (fw5.2.2 1012 (Or.inr (by decide))).trans g4_1012
  have g5_1013 := (fw5.2.2 1013 (Or.inr (by decide))).trans g4_1013
  have g5_1014 := (fw5.2.2 1014 (Or.inr (by decide))).trans g4_1014
  have g5_1015 := (fw5.2.2 1015 (Or.inr (by decide))).trans g4_1015
  have g5_1035 := (fw5.2.2 1035 (Or.inr (by decide))).trans g4_1035
  have g5_1036 := (fw5.2.2 1036 (Or.inr (by decide))).trans g4_1036
  clear g4_1002 g4_1003 g4_1004 g4_1005 g4_1006 g4_1007 g4_1008 g4_1009 g4_1010 g4_1011 g4_1012 g4_1013 g4_1014 g4_1015 g4_1035 g4_1036
  have l5_1001 := l4_1001.fw fw5 (by decide)
  have g5_1000 := u5.1
  have b5 := (fw5.1).trans b4
  have hf5 := fw5.2.1 hf4
  refine j_aload_n dX11_init_22 rfl rfl ?_
  refine j_iconst (v := 3) dX11_init_23 (by decide) ?_
  refine j_bipush (v := 7) dX11_init_24 (by decide) ?_
  refine j_mnew2 (a := 1003) (b := 1004) (c := 1005) (d := 1006) dX11_init_26 (z_w 1370 ((lwt_6_4 5).trans rfl) (by decide +kernel)) (z_wn 1371 ((lwt_6_4 6).trans rfl) (by decide +kernel)) arc_int (by decide) (by decide) (by decide) (by decide) g5_1003 g5_1004 g5_1005 g5_1006 (by decide) (by decide) (by decide) (by decide) (by decide) (by decide) (Nat.le_of_ble_eq_true rfl) (Nat.le_of_ble_eq_true rfl) ?_
  intro w6 hb6 hfn6 hk6 x6_1003 g6_1004 g6_1005 g6_1006
  obtain ⟨fq3, g6_1003, qb3, qc3, qd3⟩ := x6_1003
  have g6_1002 := (hk6 1002 (by decide) (by decide) (by decide) (by decide)).trans g5_1002
  have g6_1007 := (hk6 1007 (by decide) (by decide) (by decide) (by decide)).trans g5_1007
  have g6_1008 := (hk6 1008 (by decide) (by decide) (by decide) (by decide)).trans g5_1008
  have g6_1009 := (hk6 1009 (by decide) (by decide) (by decide) (by decide)).trans g5_1009
  have g6_1010 := (hk6 1010 (by decide) (by decide) (by decide) (by decide)).trans g5_1010
  have g6_1011 := (hk6 1011 (by decide) (by decide) (by decide) (by decide)).trans g5_1011
  have g6_1012 := (hk6 1012 (by decide) (by decide) (by decide) (by decide)).trans g5_1012
  have g6_1013 := (hk6 1013 (by decide) (by decide) (by decide) (by decide)).trans g5_1013
  have g6_1014 := (hk6 1014 (by decide) (by decide) (by decide) (by decide)).trans g5_1014
  have g6_1015 := (hk6 1015 (by decide) (by decide) (by decide) (by decide)).trans g5_1015
  have g6_1035 := (hk6 1035 (by decide) (by decide) (by decide) (by decide)).trans g5_1035
  have g6_1036 := (hk6 1036 (by decide) (by decide) (by decide) (by decide)).trans g5_1036
  have g6_1000 := (hk6 1000 (by decide) (by decide) (by decide) (by decide)).trans g5_1000
  clear g5_1002 g5_1007 g5_1008 g5_1009 g5_1010 g5_1011 g5_1012 g5_1013 g5_1014 g5_1015 g5_1035 g5_1036 g5_1000
  have l6_1001 := z_li.m (fun n9 _ h2 => hk6 n9 (by omega) (by omega) (by omega) (by omega)) l5_1001
  have b6 := (hb6).trans b5
  have hf6 := hfn6 hf5
  refine j_putF (w' := _) dX11_init_30 fX11_31 tX11_3 rfl (z_dc rfl rfl (z_w 1456 ((lwt_6_7 1).trans rfl) (by decide +kernel))) g6_1000 (Or.inr ⟨_, rfl⟩) rfl ?_
  refine j_seal (n := 1000) (by decide) ?_
  intro w7 u7
  have fw7 := u7.fw (ρ := 40) (by decide) (by decide)
  have g7_1002 := (fw7.2.2 1002 (Or.inr (by decide))).trans g6_1002
  have g7_1003 := (fw7.2.2 1003 (Or.inr (by decide))).trans g6_1003
  have g7_1004 := (fw7.2.2 1004 (Or.inr (by decide))).trans g6_1004
  have g7_1005 := (fw7.2.2 1005 (Or.inr (by decide))).trans g6_1005
  have g7_1006 := (fw7.2.2 1006 (Or.inr (by decide))).trans g6_1006
  have g7_1007 := (fw7.2.2 1007 (Or.inr (by decide))).trans g6_1007
  have g7_1008 := (fw7.2.2 1008 (Or.inr (by decide))).trans g6_1008
  have g7_1009 := (fw7.2.2 1009 (Or.inr (by decide))).trans g6_1009
  have g7_1010 := (fw7.2.2 1010 (Or.inr (by decide))).trans g6_1010
  have g7_1011 := (fw7.2.2 1011 (Or.inr (by decide))).trans g6_1011
  have g7_1012 := (fw7.2.2 1012 (Or.inr (by decide))).trans g6_1012
  have g7_1013 := (fw7.2.2 1013 (Or.inr (by decide))).trans g6_1013
  have g7_1014 := (fw7.2.2 1014 (Or.inr (by decide))).trans g6_1014
  have g7_1015 := (fw7.2.2 1015 (Or.inr (by decide))).trans g6_1015
  have g7_1035 := (fw7.2.2 1035 (Or.inr (by decide))).trans g6_1035
  have g7_1036 := (fw7.2.2 1036 (Or.inr (by decide))).trans g6_1036
  clear g6_1002 g6_1007 g6_1008 g6_1009 g6_1010 g6_1011 g6_1012 g6_1013 g6_1014 g6_1015 g6_1035 g6_1036
  have l7_1001 := l6_1001.fw fw7 (by decide)
  have g7_1000 := u7.1
  have b7 := (fw7.1).trans b6
  have hf7 := fw7.2.1 hf6
  refine j_aload_n dX11_init_33 rfl rfl ?_
  refine j_new (w' := _) (n := 1007) dX11_init_34 nX11_18 rfl (z_alW g7_1007 (by decide)) (Nat.le_of_ble_eq_true rfl) (Nat.le_of_ble_eq_true rfl) ?_
  refine j_seal (n := 1007) (by decide) ?_
  intro w8 u8
  have fw8 := u8.fw (ρ := 47) (by decide) (by decide)
  have g8_1002 := (fw8.2.2 1002 (Or.inr (by decide))).trans g7_1002
  have g8_1003 := (fw8.2.2 1003 (Or.inr (by decide))).trans g7_1003
  have g8_1004 := (fw8.2.2 1004 (Or.inr (by decide))).trans g7_1004
  have g8_1005 := (fw8.2.2 1005 (Or.inr (by decide))).trans g7_1005
  have g8_1006 := (fw8.2.2 1006 (Or.inr (by decide))).trans g7_1006
  have g8_1008 := (fw8.2.2 1008 (Or.inr (by decide))).trans g7_1008
  have g8_1009 := (fw8.2.2 1009 (Or.inr (by decide))).trans g7_1009
  have g8_1010 := (fw8.2.2 1010 (Or.inr (by decide))).trans g7_1010
  have g8_1011 := (fw8.2.2 1011 (Or.inr (by decide))).trans g7_1011
  have g8_1012 := (fw8.2.2 1012 (Or.inr (by decide))).trans g7_1012
  have g8_1013 := (fw8.2.2 1013 (Or.inr (by decide))).trans g7_1013
  have g8_1014 := (fw8.2.2 1014 (Or.inr (by decide))).trans g7_1014
  have g8_1015 := (fw8.2.2 1015 (Or.inr (by decide))).trans g7_1015
  have g8_1035 := (fw8.2.2 1035 (Or.inr (by decide))).trans g7_1035
  have g8_1036 := (fw8.2.2 1036 (Or.inr (by decide))).trans g7_1036
  have g8_1000 := (fw8.2.2 1000 (Or.inr (by decide))).trans g7_1000
  clear g7_1002 g7_1003 g7_1004 g7_1005 g7_1006 g7_1008 g7_1009 g7_1010 g7_1011 g7_1012 g7_1013 g7_1014 g7_1015 g7_1035 g7_1036 g7_1000
  have l8_1001 := l7_1001.fw fw8 (by decide)
  have g8_1007 := u8.1
  have b8 := (fw8.1).trans b7
  have hf8 := fw8.2.1 hf7
  refine j_dup dX11_init_37 rfl ?_
  refine j_callI dX11_init_38 kJx4a65c_init_da8c8 rfl lX11_20 inJx4a65c_init_da8c8 rfl (cl_init hl w8 47 1007 (by decide) (by decide) g8_1007) (Nat.le_of_ble_eq_true rfl) ⟨(Nat.le_of_ble_eq_true rfl), (Nat.le_of_ble_eq_true rfl)⟩ rfl (Nat.le_of_ble_eq_true rfl) rfl rfl (fun _ _ h => h.elim) ?_
  rintro _ w9 ⟨rfl, fw9, hk9, l9_1007⟩
  have g9_1002 := (fw9.2.2 1002 (Or.inr (by decide))).trans g8_1002
  have g9_1003 := (fw9.2.2 1003 (Or.inr (by decide))).trans g8_1003
  have g9_1004 := (fw9.2.2 1004 (Or.inr (by decide))).trans g8_1004
  have g9_1005 := (fw9.2.2 1005 (Or.inr (by decide))).trans g8_1005
  have g9_1006 := (fw9.2.2 1006 (Or.inr (by decide))).trans g8_1006
  have g9_1008 := (fw9.2.2 1008 (Or.inr (by decide))).trans g8_1008
  have g9_1009 := (fw9.2.2 1009 (Or.inr (by decide))).trans g8_1009
  have g9_1010 := (fw9.2.2 1010 (Or.inr (by decide))).trans g8_1010
  have g9_1011 := (fw9.2.2 1011 (Or.inr (by decide))).trans g8_1011
  have g9_1012 := (fw9.2.2 1012 (Or.inr (by decide))).trans g8_1012
  have g9_1013 := (fw9.2.2 1013 (Or.inr (by decide))).trans g8_1013
  have g9_1014 := (fw9.2.2 1014 (Or.inr (by decide))).trans g8_1014
  have g9_1015 := (fw9.2.2 1015 (Or.inr (by decide))).trans g8_1015
  have g9_1035 := (fw9.2.2 1035 (Or.inr (by decide))).trans g8_1035
  have g9_1036 := (fw9.2.2 1036 (Or.inr (by decide))).trans g8_1036
  have g9_1000 := (fw9.2.2 1000 (Or.inr (by decide))).trans g8_1000
  clear g8_1002 g8_1003 g8_1004 g8_1005 g8_1006 g8_1008 g8_1009 g8_1010 g8_1011 g8_1012 g8_1013 g8_1014 g8_1015 g8_1035 g8_1036 g8_1000
  have l9_1001 := l8_1001.fw fw9 (by decide)
  have b9 := (fw9.1).trans b8
  have hf9 := fw9.2.1 hf8
  refine j_putF (w' := _) dX11_init_41 fX11_34 tX11_4 rfl (z_dc rfl rfl (z_w 1457 ((lwt_6_7 2).trans rfl) (by decide +kernel))) g9_1000 (Or.inl ⟨_, rfl⟩) rfl ?_
  refine j_seal (n := 1000) (by decide) ?_
  intro w10 u10
  have fw10 := u10.fw (ρ := 40) (by decide) (by decide)
  have g10_1002 := (fw10.2.2 1002 (Or.inr (by decide))).trans g9_1002
  have g10_1003 := (fw10.2.2 1003 (Or.inr (by decide))).trans g9_1003
  have g10_1004 := (fw10.2.2 1004 (Or.inr (by decide))).trans g9_1004
  have g10_1005 := (fw10.2.2 1005 (Or.inr (by decide))).trans g9_1005
  have g10_1006 := (fw10.2.2 1006 (Or.inr (by decide))).trans g9_1006
  have g10_1008 := (fw10.2.2 1008 (Or.inr (by decide))).trans g9_1008
  have g10_1009 := (fw10.2.2 1009 (Or.inr (by decide))).trans g9_1009
  have g10_1010 := (fw10.2.2 1010 (Or.inr (by decide))).trans g9_1010
  have g10_1011 := (fw10.2.2 1011 (Or.inr (by decide))).trans g9_1011
  have g10_1012 := (fw10.2.2 1012 (Or.inr (by decide))).trans g9_1012
  have g10_1013 := (fw10.2.2 1013 (Or.inr (by decide))).trans g9_1013
  have g10_1014 := (fw10.2.2 1014 (Or.inr (by decide))).trans g9_1014
  have g10_1015 := (fw10.2.2 1015 (Or.inr (by decide))).trans g9_1015
  have g10_1035 := (fw10.2.2 1035 (Or.inr (by decide))).trans g9_1035
  have g10_1036 := (fw10.2.2 1036 (Or.inr (by decide))).trans g9_1036
  clear g9_1002 g9_1003 g9_1004 g9_1005 g9_1006 g9_1008 g9_1009 g9_1010 g9_1011 g9_1012 g9_1013 g9_1014 g9_1015 g9_1035 g9_1036
  have l10_1001 := l9_1001.fw fw10 (by decide)
  have l10_1007 := l9_1007.fw fw10 (by decide)
  have g10_1000 := u10.1
  have b10 := (fw10.1).trans b9
  have hf10 := fw10.2.1 hf9
  refine j_aload_n dX11_init_44 rfl rfl ?_
  refine j_iconst (v := 2) dX11_init_45 (by decide) ?_
  refine j_anew (kd := 7) (N := 2) (w' := _) (n := 1008) dX11_init_46 rfl aX11_37 ao_X10 (by decide) (by decide) (by decide) (z_alW g10_1008 (by decide)) (Nat.le_of_ble_eq_true rfl) (Nat.le_of_ble_eq_true rfl) ?_
  refine j_seal (n := 1008) (by decide) ?_
  intro w11 u11
  have fw11 := u11.fw (ρ := 48) (by decide) (by decide)
  have g11_1002 := (fw11.2.2 1002 (Or.inr (by decide))).trans g10_1002
  have g11_1003 := (fw11.2.2 1003 (Or.inr (by decide))).trans g10_1003
  have g11_1004 := (fw11.2.2 1004 (Or.inr (by decide))).trans g10_1004
  have g11_1005 := (fw11.2.2 1005 (Or.inr (by decide))).trans g10_1005
  have g11_1006 := (fw11.2.2 1006 (Or.inr (by decide))).trans g10_1006
  have g11_1009 := (fw11.2.2 1009 (Or.inr (by decide))).trans g10_1009
  have g11_1010 := (fw11.2.2 1010 (Or.inr (by decide))).trans g10_1010
  have g11_1011 := (fw11.2.2 1011 (Or.inr (by decide))).trans g10_1011
  have g11_1012 := (fw11.2.2 1012 (Or.inr (by decide))).trans g10_1012
  have g11_1013 := (fw11.2.2 1013 (Or.inr (by decide))).trans g10_1013
  have g11_1014 := (fw11.2.2 1014 (Or.inr (by decide))).trans g10_1014
  have g11_1015 := (fw11.2.2 1015 (Or.inr (by decide))).trans g10_1015
  have g11_1035 := (fw11.2.2 1035 (Or.inr (by decide))).trans g10_1035
  have g11_1036 := (fw11.2.2 1036 (Or.inr (by decide))).trans g10_1036
  have g11_1000 := (fw11.2.2 1000 (Or.inr (by decide))).trans g10_1000
  clear g10_1002 g10_1003 g10_1004 g10_1005 g10_1006 g10_1009 g10_1010 g10_1011 g10_1012 g10_1013 g10_1014 g10_1015 g10_1035 g10_1036 g10_1000
  have l11_1001 := l10_1001.fw fw11 (by decide)
  have l11_1007 := l10_1007.fw fw11 (by decide)
  have g11_1008 := u11.1
  have b11 := (fw11.1).trans b10
  have hf11 := fw11.2.1 hf10
  refine j_dup dX11_init_49 rfl ?_
  refine j_iconst (v := 0) dX11_init_50 (by decide) ?_
  refine j_new (w' := _) (n := 1009) dX11_init_51 nX11_37 rfl (z_alW g11_1009 (by decide)) (Nat.le_of_ble_eq_true rfl) (Nat.le_of_ble_eq_true rfl) ?_
  refine j_seal (n := 1009) (by decide) ?_
  intro w12 u12
  have fw12 := u12.fw (ρ := 49) (by decide) (by decide)
  have g12_1002 := (fw12.2.2 1002 (Or.inr (by decide))).trans g11_1002
  have g12_1003 := (fw12.2.2 1003 (Or.inr (by decide))).trans g11_1003
  have g12_1004 := (fw12.2.2 1004 (Or.inr (by decide))).trans g11_1004
  have g12_1005 := (fw12.2.2 1005 (Or.inr (by decide))).trans g11_1005
  have g12_1006 := (fw12.2.2 1006 (Or.inr (by decide))).trans g11_1006
  have g12_1008 := (fw12.2.2 1008 (Or.inr (by decide))).trans g11_1008
  have g12_1010 := (fw12.2.2 1010 (Or.inr (by decide))).trans g11_1010
  have g12_1011 := (fw12.2.2 1011 (Or.inr (by decide))).trans g11_1011
  have g12_1012 := (fw12.2.2 1012 (Or.inr (by decide))).trans g11_1012
  have g12_1013 := (fw12.2.2 1013 (Or.inr (by decide))).trans g11_1013
  have g12_1014 := (fw12.2.2 1014 (Or.inr (by decide))).trans g11_1014
  have g12_1015 := (fw12.2.2 1015 (Or.inr (by decide))).trans g11_1015
  have g12_1035 := (fw12.2.2 1035 (Or.inr (by decide))).trans g11_1035
  have g12_1036 := (fw12.2.2 1036 (Or.inr (by decide))).trans g11_1036
  have g12_1000 := (fw12.2.2 1000 (Or.inr (by decide))).trans g11_1000
  clear g11_1002 g11_1003 g11_1004 g11_1005 g11_1006 g11_1008 g11_1010 g11_1011 g11_1012 g11_1013 g11_1014 g11_1015 g11_1035 g11_1036 g11_1000
  have l12_1001 := l11_1001.fw fw12 (by decide)
  have l12_1007 := l11_1007.fw fw12 (by decide)
  have g12_1009 := u12.1
  have b12 := (fw12.1).trans b11
  have hf12 := fw12.2.1 hf11
  refine j_dup dX11_init_54 rfl ?_
  refine j_callIN dX11_init_55 kX10_init rfl lX11_39 inX10_init rfl (cm_init1009 hl w12 hf12 (fun k hk => by subst hk; exact g12_1014) g12_1009) (Nat.le_of_ble_eq_true rfl) ⟨(Nat.le_of_ble_eq_true rfl), (Nat.le_of_ble_eq_true rfl)⟩ rfl (Nat.le_of_ble_eq_true rfl) rfl rfl (fun _ _ h => h.elim) ?_
  rintro _ w13 ⟨rfl, hb13, hfn13, hk13, g13_1009, l13_1014⟩
  have g13_1002 := (hk13 1002 (Or.inr ⟨by decide, by decide⟩)).trans g12_1002
  have g13_1003 := (hk13 1003 (Or.inr ⟨by decide, by decide⟩)).trans g12_1003
  have g13_1004 := (hk13 1004 (Or.inr ⟨by decide, by decide⟩)).trans g12_1004
  have g13_1005 := (hk13 1005 (Or.inr ⟨by decide, by decide⟩)).trans g12_1005
  have g13_1006 := (hk13 1006 (Or.inr ⟨by decide, by decide⟩)).trans g12_1006
  have g13_1008 := (hk13 1008 (Or.inr ⟨by decide, by decide⟩)).trans g12_1008
  have g13_1010 := (hk13 1010 (Or.inr ⟨by decide, by decide⟩)).trans g12_1010
  have g13_1011 := (hk13 1011 (Or.inr ⟨by decide, by decide⟩)).trans g12_1011
  have g13_1012 := (hk13 1012 (Or.inr ⟨by decide, by decide⟩)).trans g12_1012
  have g13_1013 := (hk13 1013 (Or.inr ⟨by decide, by decide⟩)).trans g12_1013
  have g13_1015 := (hk13 1015 (Or.inr ⟨by decide, by decide⟩)).trans g12_1015
  have g13_1035 := (hk13 1035 (Or.inr ⟨by decide, by decide⟩)).trans g12_1035
  have g13_1036 := (hk13 1036 (Or.inr ⟨by decide, by decide⟩)).trans g12_1036
  have g13_1000 := (hk13 1000 (Or.inr ⟨by decide, by decide⟩)).trans g12_1000
  clear g12_1002 g12_1003 g12_1004 g12_1005 g12_1006 g12_1008 g12_1010 g12_1011 g12_1012 g12_1013 g12_1015 g12_1035 g12_1036 g12_1000
  have l13_1001 := z_li.m (fun n9 _ h2 => hk13 n9 (Or.inr ⟨by omega, by omega⟩)) l12_1001
  have l13_1007 := z_li.m (fun n9 _ h2 => hk13 n9 (Or.inr ⟨by omega, by omega⟩)) l12_1007
  have b13 := hb13.trans b12
  refine j_aast (w' := _) (a := 1008) (b := 1009) dX11_init_58 g13_1008 rfl g13_1009 rfl (vp_in_iff.mpr (by decide)) rfl ?_
  refine j_seal (n := 1008) (by decide) ?_
  intro w14 u14
  have fw14 := u14.fw (ρ := 48) (by decide) (by decide)
  have g14_1002 := (fw14.2.2 1002 (Or.inr (by decide))).trans g13_1002
  have g14_1003 := (fw14.2.2 1003 (Or.inr (by decide))).trans g13_1003
  have g14_1004 := (fw14.2.2 1004 (Or.inr (by decide))).trans g13_1004
  have g14_1005 := (fw14.2.2 1005 (Or.inr (by decide))).trans g13_1005
  have g14_1006 := (fw14.2.2 1006 (Or.inr (by decide))).trans g13_1006
  have g14_1009 := (fw14.2.2 1009 (Or.inr (by decide))).trans g13_1009
  have g14_1010 := (fw14.2.2 1010 (Or.inr (by decide))).trans g13_1010
  have g14_1011 := (fw14.2.2 1011 (Or.inr (by decide))).trans g13_1011
  have g14_1012 := (fw14.2.2 1012 (Or.inr (by decide))).trans g13_1012
  have g14_1013 := (fw14.2.2 1013 (Or.inr (by decide))).trans g13_1013
  have g14_1015 := (fw14.2.2 1015 (Or.inr (by decide))).trans g13_1015
  have g14_1035 := (fw14.2.2 1035 (Or.inr (by decide))).trans g13_1035
  have g14_1036 := (fw14.2.2 1036 (Or.inr (by decide))).trans g13_1036
  have g14_1000 := (fw14.2.2 1000 (Or.inr (by decide))).trans g13_1000
  clear g13_1002 g13_1003 g13_1004 g13_1005 g13_1006 g13_1010 g13_1011 g13_1012 g13_1013 g13_1015 g13_1035 g13_1036 g13_1000
  have l14_1001 := l13_1001.fw fw14 (by decide)
  have l14_1007 := l13_1007.fw fw14 (by decide)
  have l14_1014 := l13_1014.fw fw14 (by decide)
  have g14_1008 := u14.1
  have b14 := (fw14.1).trans b13
  have hf14 := fw14.2.1 hfn13
  refine j_dup dX11_init_59 rfl ?_
  refine j_iconst (v := 1) dX11_init_60 (by decide) ?_
  refine j_new (w' := _) (n := 1010) dX11_init_61 nX11_37 rfl (z_alW g14_1010 (by decide)) (Nat.le_of_ble_eq_true rfl) (Nat.le_of_ble_eq_true rfl) ?_
  refine j_seal (n := 1010) (by decide) ?_
  intro w15 u15
  have fw15 := u15.fw (ρ := 50) (by decide) (by decide)
  have g15_1002 := (fw15.2.2 1002 (Or.inr (by decide))).trans g14_1002
  have g15_1003 := (fw15.2.2 1003 (Or.inr (by decide))).trans g14_1003
  have g15_1004 := (fw15.2.2 1004 (Or.inr (by decide))).trans g14_1004
  have g15_1005 := (fw15.2.2 1005 (Or.inr (by decide))).trans g14_1005
  have g15_1006 := (fw15.2.2 1006 (Or.inr (by decide))).trans g14_1006
  have g15_1008 := (fw15.2.2 1008 (Or.inr (by decide))).trans g14_1008
  have g15_1009 := (fw15.2.2 1009 (Or.inr (by decide))).trans g14_1009
  have g15_1011 := (fw15.2.2 1011 (Or.inr (by decide))).trans g14_1011
  have g15_1012 := (fw15.2.2 1012 (Or.inr (by decide))).trans g14_1012
  have g15_1013 := (fw15.2.2 1013 (Or.inr (by decide))).trans g14_1013
  have g15_1015 := (fw15.2.2 1015 (Or.inr (by decide))).trans g14_1015
  have g15_1035 := (fw15.2.2 1035 (Or.inr (by decide))).trans g14_1035
  have g15_1036 := (fw15.2.2 1036 (Or.inr (by decide))).trans g14_1036
  have g15_1000 := (fw15.2.2 1000 (Or.inr (by decide))).trans g14_1000
  clear g14_1002 g14_1003 g14_1004 g14_1005 g14_1006 g14_1008 g14_1009 g14_1011 g14_1012 g14_1013 g14_1015 g14_1035 g14_1036 g14_1000
  have l15_1001 := l14_1001.fw fw15 (by decide)
  have l15_1007 := l14_1007.fw fw15 (by decide)
  have l15_1014 := l14_1014.fw fw15 (by decide)
  have g15_1010 := u15.1
  have b15 := (fw15.1).trans b14
  have hf15 := fw15.2.1 hf14
  refine j_dup dX11_init_64 rfl ?_
  refine j_callIN dX11_init_65 kX10_init rfl lX11_39 inX10_init rfl (cm_init1010 hl w15 hf15 (fun k hk => by subst hk; exact g15_1015) g15_1010) (Nat.le_of_ble_eq_true rfl) ⟨(Nat.le_of_ble_eq_true rfl), (Nat.le_of_ble_eq_true rfl)⟩ rfl (Nat.le_of_ble_eq_true rfl) rfl rfl (fun _ _ h => h.elim) ?_
  rintro _ w16 ⟨rfl, hb16, hfn16, hk16, g16_1010, l16_1015⟩
  have g16_1002 := (hk16 1002 (Or.inr ⟨by decide, by decide⟩)).trans g15_1002
  have g16_1003 := (hk16 1003 (Or.inr ⟨by decide, by decide⟩)).trans g15_1003
  have g16_1004 := (hk16 1004 (Or.inr ⟨by decide, by decide⟩)).trans g15_1004
  have g16_1005 := (hk16 1005 (Or.inr ⟨by decide, by decide⟩)).trans g15_1005
  have g16_1006 := (hk16 1006 (Or.inr ⟨by decide, by decide⟩)).trans g15_1006
  have g16_1008 := (hk16 1008 (Or.inr ⟨by decide, by decide⟩)).trans g15_1008
  have g16_1009 := (hk16 1009 (Or.inr ⟨by decide, by decide⟩)).trans g15_1009
  have g16_1011 := (hk16 1011 (Or.inr ⟨by decide, by decide⟩)).trans g15_1011
  have g16_1012 := (hk16 1012 (Or.inr ⟨by decide, by decide⟩)).trans g15_1012
  have g16_1013 := (hk16 1013 (Or.inr ⟨by decide, by decide⟩)).trans g15_1013
  have g16_1035 := (hk16 1035 (Or.inr ⟨by decide, by decide⟩)).trans g15_1035
  have g16_1036 := (hk16 1036 (Or.inr ⟨by decide, by decide⟩)).trans g15_1036
  have g16_1000 := (hk16 1000 (Or.inr ⟨by decide, by decide⟩)).trans g15_1000
  clear g15_1002 g15_1003 g15_1004 g15_1005 g15_1006 g15_1008 g15_1009 g15_1011 g15_1012 g15_1013 g15_1035 g15_1036 g15_1000
  have l16_1001 := z_li.m (fun n9 _ h2 => hk16 n9 (Or.inr ⟨by omega, by omega⟩)) l15_1001
  have l16_1007 := z_li.m (fun n9 _ h2 => hk16 n9 (Or.inr ⟨by omega, by omega⟩)) l15_1007
  have l16_1014 := z_li.m (fun n9 _ h2 => hk16 n9 (Or.inr ⟨by omega, by omega⟩)) l15_1014
  have b16 := hb16.trans b15
  refine j_aast (w' := _) (a := 1008) (b := 1010) dX11_init_68 g16_1008 rfl g16_1010 rfl (vp_in_iff.mpr (by decide)) rfl ?_
  refine j_seal (n := 1008) (by decide) ?_
  intro w17 u17
  have fw17 := u17.fw (ρ := 48) (by decide) (by decide)
  have g17_1002 := (fw17.2.2 1002 (Or.inr (by decide))).trans g16_1002
  have g17_1003 := (fw17.2.2 1003 (Or.inr (by decide))).trans g16_1003
  have g17_1004 := (fw17.2.2 1004 (Or.inr (by decide))).trans g16_1004
  have g17_1005 := (fw17.2.2 1005 (Or.inr (by decide))).trans g16_1005
  have g17_1006 := (fw17.2.2 1006 (Or.inr (by decide))).trans g16_1006
  have g17_1009 := (fw17.2.2 1009 (Or.inr (by decide))).trans g16_1009
  have g17_1010 := (fw17.2.2 1010 (Or.inr (by decide))).trans g16_1010
  have g17_1011 := (fw17.2.2 1011 (Or.inr (by decide))).trans g16_1011
  have g17_1012 := (fw17.2.2 1012 (Or.inr (by decide))).trans g16_1012
  have g17_1013 := (fw17.2.2 1013 (Or.inr (by decide))).trans g16_1013
  have g17_1035 := (fw17.2.2 1035 (Or.inr (by decide))).trans g16_1035
  have g17_1036 := (fw17.2.2 1036 (Or.inr (by decide))).trans g16_1036
  have g17_1000 := (fw17.2.2 1000 (Or.inr (by decide))).trans g16_1000
  clear g16_1002 g16_1003 g16_1004 g16_1005 g16_1006 g16_1009 g16_1011 g16_1012 g16_1013 g16_1035 g16_1036 g16_1000
  have l17_1001 := l16_1001.fw fw17 (by decide)
  have l17_1007 := l16_1007.fw fw17 (by decide)
  have l17_1014 := l16_1014.fw fw17 (by decide)
  have l17_1015 := l16_1015.fw fw17 (by decide)
  have g17_1008 := u17.1
  have b17 := (fw17.1).trans b16
  have hf17 := fw17.2.1 hfn16
  refine j_putF (w' := _) dX11_init_69 fX11_40 tX11_5 rfl (z_dc rfl rfl (z_w 1458 ((lwt_6_7 3).trans rfl) (by decide +kernel))) g17_1000 (Or.inr ⟨_, rfl⟩) rfl ?_
  refine j_seal (n := 1000) (by decide) ?_
  intro w18 u18
  have fw18 := u18.fw (ρ := 40) (by decide) (by decide)
  have g18_1002 := (fw18.2.2 1002 (Or.inr (by decide))).trans g17_1002
  have g18_1003 := (fw18.2.2 1003 (Or.inr (by decide))).trans g17_1003
  have g18_1004 := (fw18.2.2 1004 (Or.inr (by decide))).trans g17_1004
  have g18_1005 := (fw18.2.2 1005 (Or.inr (by decide))).trans g17_1005
  have g18_1006 := (fw18.2.2 1006 (Or.inr (by decide))).trans g17_1006
  have g18_1008 := (fw18.2.2 1008 (Or.inr (by decide))).trans g17_1008
  have g18_1009 := (fw18.2.2 1009 (Or.inr (by decide))).trans g17_1009
  have g18_1010 := (fw18.2.2 1010 (Or.inr (by decide))).trans g17_1010
  have g18_1011 := (fw18.2.2 1011 (Or.inr (by decide))).trans g17_1011
  have g18_1012 := (fw18.2.2 1012 (Or.inr (by decide))).trans g17_1012
  have g18_1013 := (fw18.2.2 1013 (Or.inr (by decide))).trans g17_1013
  have g18_1035 := (fw18.2.2 1035 (Or.inr (by decide))).trans g17_1035
  have g18_1036 := (fw18.2.2 1036 (Or.inr (by decide))).trans g17_1036
  clear g17_1002 g17_1003 g17_1004 g17_1005 g17_1006 g17_1008 g17_1009 g17_1010 g17_1011 g17_1012 g17_1013 g17_1035 g17_1036
  have l18_1001 := l17_1001.fw fw18 (by decide)
  have l18_1007 := l17_1007.fw fw18 (by decide)
  have l18_1014 := l17_1014.fw fw18 (by decide)
  have l18_1015 := l17_1015.fw fw18 (by decide)
  have g18_1000 := u18.1
  have b18 := (fw18.1).trans b17
  have hf18 := fw18.2.1 hf17
  refine j_iconst (v := 0) dX11_init_72 (by decide) ?_
  refine j_istore_n (lo' := [(1, _), (0, _)]) dX11_init_73 (by decide) rfl ?_
  refine j_iload_n dX11_init_74 rfl ?_
  refine j_iconst (v := 2) dX11_init_75 (by decide) ?_
  refine j_icmp_ge (tgt := 100) dX11_init_76 (by decide) (fun c_76_436 => ?_) (fun c_76_436 => ?_)
  · exact absurd c_76_436 (by decide)
  · refine j_aload_n dX11_init_79 rfl rfl ?_
    refine j_getf dX11_init_80 fX11_21 g18_1000 rfl ?_
    refine j_new (w' := _) (n := 1035) dX11_init_83 nX11_18 rfl (z_alW g18_1035 (by decide)) (Nat.le_of_ble_eq_true rfl) (Nat.le_of_ble_eq_true rfl) ?_
    refine j_seal (n := 1035) (by decide) ?_
    intro w19 u19
    have fw19 := u19.fw (ρ := 11) (by decide) (by decide)
    have g19_1002 := (fw19.2.2 1002 (Or.inr (by decide))).trans g18_1002
    have g19_1003 := (fw19.2.2 1003 (Or.inr (by decide))).trans g18_1003
    have g19_1004 := (fw19.2.2 1004 (Or.inr (by decide))).trans g18_1004
    have g19_1005 := (fw19.2.2 1005 (Or.inr (by decide))).trans g18_1005
    have g19_1006 := (fw19.2.2 1006 (Or.inr (by decide))).trans g18_1006
    have g19_1008 := (fw19.2.2 1008 (Or.inr (by decide))).trans g18_1008
    have g19_1009 := (fw19.2.2 1009 (Or.inr (by decide))).trans g18_1009
    have g19_1010 := (fw19.2.2 1010 (Or.inr (by decide))).trans g18_1010
    have g19_1011 := (fw19.2.2 1011 (Or.inr (by decide))).trans g18_1011
    have g19_1012 := (fw19.2.2 1012 (Or.inr (by decide))).trans g18_1012
    have g19_1013 := (fw19.2.2 1013 (Or.inr (by decide))).trans g18_1013
    have g19_1036 := (fw19.2.2 1036 (Or.inr (by decide))).trans g18_1036
    have g19_1000 := (fw19.2.2 1000 (Or.inr (by decide))).trans g18_1000
    clear g18_1002 g18_1003 g18_1004 g18_1005 g18_1006 g18_1008 g18_1009 g18_1010 g18_1011 g18_1012 g18_1013 g18_1036 g18_1000
    have l19_1001 := l18_1001.fw fw19 (by decide)
    have l19_1007 := l18_1007.fw fw19 (by decide)
    have l19_1014 := l18_1014.fw fw19 (by decide)
    have l19_1015 := l18_1015.fw fw19 (by decide)
    have g19_1035 := u19.1
    have b19 := (fw19.1).trans b18
    have hf19 := fw19.2.1 hf18
    refine j_dup dX11_init_86 rfl ?_
    refine j_callI dX11_init_87 kJx4a65c_init_da8c8 rfl lX11_20 inJx4a65c_init_da8c8 rfl (cl_init hl w19 11 1035 (by decide) (by decide) g19_1035) (Nat.le_of_ble_eq_true rfl) ⟨(Nat.le_of_ble_eq_true rfl), (Nat.le_of_ble_eq_true rfl)⟩ rfl (Nat.le_of_ble_eq_true rfl) rfl rfl (fun _ _ h => h.elim) ?_
    rintro _ w20 ⟨rfl, fw20, hk20, l20_1035⟩
    have g20_1002 := (fw20.2.2 1002 (Or.inr (by decide))).trans g19_1002
    have g20_1003 := (fw20.2.2 1003 (Or.inr (by decide))).trans g19_1003
    have g20_1004 := (fw20.2.2 1004 (Or.inr (by decide))).trans g19_1004
    have g20_1005 := (fw20.2.2 1005 (Or.inr (by decide))).trans g19_1005
    have g20_1006 := (fw20.2.2 1006 (Or.inr (by decide))).trans g19_1006
    have g20_1008 := (fw20.2.2 1008 (Or.inr (by decide))).trans g19_1008
    have g20_1009 := (fw20.2.2 1009 (Or.inr (by decide))).trans g19_1009
    have g20_1010 := (fw20.2.2 1010 (Or.inr (by decide))).trans g19_1010
    have g20_1011 := (fw20.2.2 1011 (Or.inr (by decide))).trans g19_1011
    have g20_1012 := (fw20.2.2 1012 (Or.inr (by decide))).trans g19_1012
    have g20_1013 := (fw20.2.2 1013 (Or.inr (by decide))).trans g19_1013
    have g20_1036 := (fw20.2.2 1036 (Or.inr (by decide))).trans g19_1036
    have g20_1000 := (fw20.2.2 1000 (Or.inr (by decide))).trans g19_1000
    clear g19_1002 g19_1003 g19_1004 g19_1005 g19_1006 g19_1008 g19_1009 g19_1010 g19_1011 g19_1012 g19_1013 g19_1036 g19_1000
    have l20_1001 := l19_1001.fw fw20 (by decide)
    have l20_1007 := l19_1007.fw fw20 (by decide)
    have l20_1014 := l19_1014.fw fw20 (by decide)
    have l20_1015 := l19_1015.fw fw20 (by decide)
    have b20 := (fw20.1).trans b19
    have hf20 := fw20.2.1 hf19
    obtain ⟨lv1, -, lg1⟩ := z_li.cell l20_1001
    refine j_callV (q := (RJx4a65c, TJx4a65c, 3)) dX11_init_90 kJx4a65c_add_9ea2d lX11_44 inJx4a65c_add_9ea2d seJx4a65c_add_9ea2d lg1 rfl (cl_add hl w20 41 1001 _ _ 2 (.ref 1035) l20_1001 (by decide) hf20 (by decide) (by decide) (fun v hv => by cases hv) ⟨Or.inr ⟨1035, rfl, Or.inr (by decide)⟩, "java/util/ArrayList", l20_1035.is, (z_wn 1992 ((lwg_9 27).trans rfl) (by decide +kernel))⟩) (Nat.le_of_ble_eq_true rfl) ⟨(Nat.le_of_ble_eq_true rfl), (Nat.le_of_ble_eq_true rfl)⟩ rfl (Nat.le_of_ble_eq_true rfl) rfl rfl (fun _ _ h => h.elim) ?_
    rintro _ w21 ⟨rfl, fw21, mo21, l21_1001⟩
    have g21_1002 := (fw21.2.2 1002 (Or.inr (by decide))).trans g20_1002
    have g21_1003 := (fw21.2.2 1003 (Or.inr (by decide))).trans g20_1003
    have g21_1004 := (fw21.2.2 1004 (Or.inr (by decide))).trans g20_1004
    have g21_1005 := (fw21.2.2 1005 (Or.inr (by decide))).trans g20_1005
    have g21_1006 := (fw21.2.2 1006 (Or.inr (by decide))).trans g20_1006
    have g21_1008 := (fw21.2.2 1008 (Or.inr (by decide))).trans g20_1008
    have g21_1009 := (fw21.2.2 1009 (Or.inr (by decide))).trans g20_1009
    have g21_1010 := (fw21.2.2 1010 (Or.inr (by decide))).trans g20_1010
    have g21_1011 := (fw21.2.2 1011 (Or.inr (by decide))).trans g20_1011
    have g21_1012 := (fw21.2.2 1012 (Or.inr (by decide))).trans g20_1012
    have g21_1013 := (fw21.2.2 1013 (Or.inr (by decide))).trans g20_1013
    have g21_1036 := (fw21.2.2 1036 (Or.inr (by decide))).trans g20_1036
    have g21_1000 := (fw21.2.2 1000 (Or.inr (by decide))).trans g20_1000
    clear g20_1002 g20_1003 g20_1004 g20_1005 g20_1006 g20_1008 g20_1009 g20_1010 g20_1011 g20_1012 g20_1013 g20_1036 g20_1000
    have l21_1007 := l20_1007.fw fw21 (by decide)
    have l21_1014 := l20_1014.fw fw21 (by decide)
    have l21_1015 := l20_1015.fw fw21 (by decide)
    have l21_1035 := l20_1035.fw fw21 (by decide)
    have b21 := (fw21.1).trans b20
    have hf21 := fw21.2.1 hf20
    refine j_pop dX11_init_93 rfl ?_
    refine j_iinc (lo' := [(1, _), (0, _)]) dX11_init_94 rfl rfl (by decide) rfl ?_
    refine j_goto (tgt := 74) dX11_init_97 (by decide) ?_
    refine j_iload_n dX11_init_74 rfl ?_
    refine j_iconst (v := 2) dX11_init_75 (by decide) ?_
    refine j_icmp_ge (tgt := 100) dX11_init_76 (by decide) (fun c_76_513 => ?_) (fun c_76_513 => ?_)
    · exact absurd c_76_513 (by decide)
    · refine j_aload_n dX11_init_79 rfl rfl ?_
      refine j_getf dX11_init_80 fX11_21 g21_1000 rfl ?_
      refine j_new (w' := _) (n := 1036) dX11_init_83 nX11_18 rfl (z_alW g21_1036 (by decide)) (Nat.le_of_ble_eq_true rfl) (Nat.le_of_ble_eq_true rfl) ?_
      refine j_seal (n := 1036) (by decide) ?_
      intro w22 u22
      have fw22 := u22.fw (ρ := 12) (by decide) (by decide)
      have g22_1002 := (fw22.2.2 1002 (Or.inr (by decide))).trans g21_1002
      have g22_1003 := (fw22.2.2 1003 (Or.inr (by decide))).trans g21_1003
      have g22_1004 := (fw22.2.2 1004 (Or.inr (by decide))).trans g21_1004
      have g22_1005 := (fw22.2.2 1005 (Or.inr (by decide))).trans g21_1005
      have g22_1006 := (fw22.2.2 1006 (Or.inr (by decide))).trans g21_1006
      have g22_1008 := (fw22.2.2 1008 (Or.inr (by decide))).trans g21_1008
      have g22_1009 := (fw22.2.2 1009 (Or.inr (by decide))).trans g21_1009
      have g22_1010 := (fw22.2.2 1010 (Or.inr (by decide))).trans g21_1010
      have g22_1011 := (fw22.2.2 1011 (Or.inr (by decide))).trans g21_1011
      have g22_1012 := (fw22.2.2 1012 (Or.inr (by decide))).trans g21_1012
      have g22_1013 := (fw22.2.2 1013 (Or.inr (by decide))).trans g21_1013
      have g22_1000 := (fw22.2.2 1000 (Or.inr (by decide))).trans g21_1000
      clear g21_1002 g21_1003 g21_1004 g21_1005 g21_1006 g21_1008 g21_1009 g21_1010 g21_1011 g21_1012 g21_1013 g21_1000
      have l22_1001 := l21_1001.fw fw22 (by decide)
      have l22_1007 := l21_1007.fw fw22 (by decide)
      have l22_1014 := l21_1014.fw fw22 (by decide)
      have l22_1015 := l21_1015.fw fw22 (by decide)
      have l22_1035 := l21_1035.fw fw22 (by decide)
      have g22_1036 := u22.1
      have b22 := (fw22.1).trans b21
      have hf22 := fw22.2.1 hf21
      refine j_dup dX11_init_86 rfl ?_
      refine j_callI dX11_init_87 kJx4a65c_init_da8c8 rfl lX11_20 inJx4a65c_init_da8c8 rfl (cl_init hl w22 12 1036 (by decide) (by decide) g22_1036) (Nat.le_of_ble_eq_true rfl) ⟨(Nat.le_of_ble_eq_true rfl), (Nat.le_of_ble_eq_true rfl)⟩ rfl (Nat.le_of_ble_eq_true rfl) rfl rfl (fun _ _ h => h.elim) ?_
      rintro _ w23 ⟨rfl, fw23, hk23, l23_1036⟩
      have g23_1002 := (fw23.2.2 1002 (Or.inr (by decide))).trans g22_1002
      have g23_1003 := (fw23.2.2 1003 (Or.inr (by decide))).trans g22_1003
      have g23_1004 := (fw23.2.2 1004 (Or.inr (by decide))).trans g22_1004
      have g23_1005 := (fw23.2.2 1005 (Or.inr (by decide))).trans g22_1005
      have g23_1006 := (fw23.2.2 1006 (Or.inr (by decide))).trans g22_1006
      have g23_1008 := (fw23.2.2 1008 (Or.inr (by decide))).trans g22_1008
      have g23_1009 := (fw23.2.2 1009 (Or.inr (by decide))).trans g22_1009
      have g23_1010 := (fw23.2.2 1010 (Or.inr (by decide))).trans g22_1010
      have g23_1011 := (fw23.2.2 1011 (Or.inr (by decide))).trans g22_1011
      have g23_1012 := (fw23.2.2 1012 (Or.inr (by decide))).trans g22_1012
      have g23_1013 := (fw23.2.2 1013 (Or.inr (by decide))).trans g22_1013
      have g23_1000 := (fw23.2.2 1000 (Or.inr (by decide))).trans g22_1000
      clear g22_1002 g22_1003 g22_1004 g22_1005 g22_1006 g22_1008 g22_1009 g22_1010 g22_1011 g22_1012 g22_1013 g22_1000
      have l23_1001 := l22_1001.fw fw23 (by decide)
      have l23_1007 := l22_1007.fw fw23 (by decide)
      have l23_1014 := l22_1014.fw fw23 (by decide)
      have l23_1015 := l22_1015.fw fw23 (by decide)
      have l23_1035 := l22_1035.fw fw23 (by decide)
      have b23 := (fw23.1).trans b22
      have hf23 := fw23.2.1 hf22
      obtain ⟨lv2, -, lg2⟩ := z_li.cell l23_1001
      refine j_callV (q := (RJx4a65c, TJx4a65c, 3)) dX11_init_90 kJx4a65c_add_9ea2d lX11_44 inJx4a65c_add_9ea2d seJx4a65c_add_9ea2d lg2 rfl (cl_add hl w23 41 1001 _ _ 2 (.ref 1036) l23_1001 (by decide) hf23 (by decide) (by decide) (z_mem2 (fun v hv => by cases hv) ⟨Or.inr ⟨1035, rfl, Or.inr (by decide)⟩, "java/util/ArrayList", l23_1035.is, (z_wn 1992 ((lwg_9 27).trans rfl) (by decide +kernel))⟩) ⟨Or.inr ⟨1036, rfl, Or.inr (by decide)⟩, "java/util/ArrayList", l23_1036.is, (z_wn 1992 ((lwg_9 27).trans rfl) (by decide +kernel))⟩) (Nat.le_of_ble_eq_true rfl) ⟨(Nat.le_of_ble_eq_true rfl), (Nat.le_of_ble_eq_true rfl)⟩ rfl (Nat.le_of_ble_eq_true rfl) rfl rfl (fun _ _ h => h.elim) ?_
      rintro _ w24 ⟨rfl, fw24, mo24, l24_1001⟩
      have g24_1002 := (fw24.2.2 1002 (Or.inr (by decide))).trans g23_1002
      have g24_1003 := (fw24.2.2 1003 (Or.inr (by decide))).trans g23_1003
      have g24_1004 := (fw24.2.2 1004 (Or.inr (by decide))).trans g23_1004
      have g24_1005 := (fw24.2.2 1005 (Or.inr (by decide))).trans g23_1005
      have g24_1006 := (fw24.2.2 1006 (Or.inr (by decide))).trans g23_1006
      have g24_1008 := (fw24.2.2 1008 (Or.inr (by decide))).trans g23_1008
      have g24_1009 := (fw24.2.2 1009 (Or.inr (by decide))).trans g23_1009
      have g24_1010 := (fw24.2.2 1010 (Or.inr (by decide))).trans g23_1010
      have g24_1011 := (fw24.2.2 1011 (Or.inr (by decide))).trans g23_1011
      have g24_1012 := (fw24.2.2 1012 (Or.inr (by decide))).trans g23_1012
      have g24_1013 := (fw24.2.2 1013 (Or.inr (by decide))).trans g23_1013
      have g24_1000 := (fw24.2.2 1000 (Or.inr (by decide))).trans g23_1000
      clear g23_1002 g23_1003 g23_1004 g23_1005 g23_1006 g23_1008 g23_1009 g23_1010 g23_1011 g23_1012 g23_1013 g23_1000
      have l24_1007 := l23_1007.fw fw24 (by decide)
      have l24_1014 := l23_1014.fw fw24 (by decide)
      have l24_1015 := l23_1015.fw fw24 (by decide)
      have l24_1035 := l23_1035.fw fw24 (by decide)
      have l24_1036 := l23_1036.fw fw24 (by decide)
      have b24 := (fw24.1).trans b23
      have hf24 := fw24.2.1 hf23
      refine j_pop dX11_init_93 rfl ?_
      refine j_iinc (lo' := [(1, _), (0, _)]) dX11_init_94 rfl rfl (by decide) rfl ?_
      refine j_goto (tgt := 74) dX11_init_97 (by decide) ?_
      refine j_iload_n dX11_init_74 rfl ?_
      refine j_iconst (v := 2) dX11_init_75 (by decide) ?_
      refine j_icmp_ge (tgt := 100) dX11_init_76 (by decide) (fun c_76_590 => ?_) (fun c_76_590 => ?_)
      · refine j_iconst (v := 0) dX11_init_100 (by decide) ?_
        refine j_istore_n (lo' := [(1, _), (0, _)]) dX11_init_101 (by decide) rfl ?_
        refine j_iload_n dX11_init_102 rfl ?_
        refine j_iconst (v := 3) dX11_init_103 (by decide) ?_
        refine j_icmp_ge (tgt := 128) dX11_init_104 (by decide) (fun c_104_595 => ?_) (fun c_104_595 => ?_)
        · exact absurd c_104_595 (by decide)
        · refine j_aload_n dX11_init_107 rfl rfl ?_
          refine j_getf dX11_init_108 fX11_34 g24_1000 rfl ?_
          refine j_new (w' := _) (n := 1011) dX11_init_111 nX11_18 rfl (z_alW g24_1011 (by decide)) (Nat.le_of_ble_eq_true rfl) (Nat.le_of_ble_eq_true rfl) ?_
          refine j_seal (n := 1011) (by decide) ?_
          intro w25 u25
          have fw25 := u25.fw (ρ := 51) (by decide) (by decide)
          have g25_1002 := (fw25.2.2 1002 (Or.inr (by decide))).trans g24_1002
          have g25_1003 := (fw25.2.2 1003 (Or.inr (by decide))).trans g24_1003
          have g25_1004 := (fw25.2.2 1004 (Or.inr (by decide))).trans g24_1004
          have g25_1005 := (fw25.2.2 1005 (Or.inr (by decide))).trans g24_1005
          have g25_1006 := (fw25.2.2 1006 (Or.inr (by decide))).trans g24_1006
          have g25_1008 := (fw25.2.2 1008 (Or.inr (by decide))).trans g24_1008
          have g25_1009 := (fw25.2.2 1009 (Or.inr (by decide))).trans g24_1009
          have g25_1010 := (fw25.2.2 1010 (Or.inr (by decide))).trans g24_1010
          have g25_1012 := (fw25.2.2 1012 (Or.inr (by decide))).trans g24_1012
          have g25_1013 := (fw25.2.2 1013 (Or.inr (by decide))).trans g24_1013
          have g25_1000 := (fw25.2.2 1000 (Or.inr (by decide))).trans g24_1000
          clear g24_1002 g24_1003 g24_1004 g24_1005 g24_1006 g24_1008 g24_1009 g24_1010 g24_1012 g24_1013 g24_1000
          have l25_1001 := l24_1001.fw fw25 (by decide)
          have l25_1007 := l24_1007.fw fw25 (by decide)
          have l25_1014 := l24_1014.fw fw25 (by decide)
          have l25_1015 := l24_1015.fw fw25 (by decide)
          have l25_1035 := l24_1035.fw fw25 (by decide)
          have l25_1036 := l24_1036.fw fw25 (by decide)
          have g25_1011 := u25.1
          have b25 := (fw25.1).trans b24
          have hf25 := fw25.2.1 hf24
          refine j_dup dX11_init_114 rfl ?_
          refine j_callI dX11_init_115 kJx4a65c_init_da8c8 rfl lX11_20 inJx4a65c_init_da8c8 rfl (cl_init hl w25 51 1011 (by decide) (by decide) g25_1011) (Nat.le_of_ble_eq_true rfl) ⟨(Nat.le_of_ble_eq_true rfl), (Nat.le_of_ble_eq_true rfl)⟩ rfl (Nat.le_of_ble_eq_true rfl) rfl rfl (fun _ _ h => h.elim) ?_
          rintro _ w26 ⟨rfl, fw26, hk26, l26_1011⟩
          have g26_1002 := (fw26.2.2 1002 (Or.inr (by decide))).trans g25_1002
          have g26_1003 := (fw26.2.2 1003 (Or.inr (by decide))).trans g25_1003
          have g26_1004 := (fw26.2.2 1004 (Or.inr (by decide))).trans g25_1004
          have g26_1005 := (fw26.2.2 1005 (Or.inr (by decide))).trans g25_1005
          have g26_1006 := (fw26.2.2 1006 (Or.inr (by decide))).trans g25_1006
          have g26_1008 := (fw26.2.2 1008 (Or.inr (by decide))).trans g25_1008
          have g26_1009 := (fw26.2.2 1009 (Or.inr (by decide))).trans g25_1009
          have g26_1010 := (fw26.2.2 1010 (Or.inr (by decide))).trans g25_1010
          have g26_1012 := (fw26.2.2 1012 (Or.inr (by decide))).trans g25_1012
          have g26_1013 := (fw26.2.2 1013 (Or.inr (by decide))).trans g25_1013
          have g26_1000 := (fw26.2.2 1000 (Or.inr (by decide))).trans g25_1000
          clear g25_1002 g25_1003 g25_1004 g25_1005 g25_1006 g25_1008 g25_1009 g25_1010 g25_1012 g25_1013 g25_1000
          have l26_1001 := l25_1001.fw fw26 (by decide)
          have l26_1007 := l25_1007.fw fw26 (by decide)
          have l26_1014 := l25_1014.fw fw26 (by decide)
          have l26_1015 := l25_1015.fw fw26 (by decide)
          have l26_1035 := l25_1035.fw fw26 (by decide)
          have l26_1036 := l25_1036.fw fw26 (by decide)
          have b26 := (fw26.1).trans b25
          have hf26 := fw26.2.1 hf25
          obtain ⟨lv3, -, lg3⟩ := z_li.cell l26_1007
          refine j_callV (q := (RJx4a65c, TJx4a65c, 3)) dX11_init_118 kJx4a65c_add_9ea2d lX11_44 inJx4a65c_add_9ea2d seJx4a65c_add_9ea2d lg3 rfl (cl_add hl w26 47 1007 _ _ 2 (.ref 1011) l26_1007 (by decide) hf26 (by decide) (by decide) (fun v hv => by cases hv) ⟨Or.inr ⟨1011, rfl, Or.inr (by decide)⟩, "java/util/ArrayList", l26_1011.is, (z_wn 1992 ((lwg_9 27).trans rfl) (by decide +kernel))⟩) (Nat.le_of_ble_eq_true rfl) ⟨(Nat.le_of_ble_eq_true rfl), (Nat.le_of_ble_eq_true rfl)⟩ rfl (Nat.le_of_ble_eq_true rfl) rfl rfl (fun _ _ h => h.elim) ?_
          rintro _ w27 ⟨rfl, fw27, mo27, l27_1007⟩
          have g27_1002 := (fw27.2.2 1002 (Or.inr (by decide))).trans g26_1002
          have g27_1003 := (fw27.2.2 1003 (Or.inr (by decide))).trans g26_1003
          have g27_1004 := (fw27.2.2 1004 (Or.inr (by decide))).trans g26_1004
          have g27_1005 := (fw27.2.2 1005 (Or.inr (by decide))).trans g26_1005
          have g27_1006 := (fw27.2.2 1006 (Or.inr (by decide))).trans g26_1006
          have g27_1008 := (fw27.2.2 1008 (Or.inr (by decide))).trans g26_1008
          have g27_1009 := (fw27.2.2 1009 (Or.inr (by decide))).trans g26_1009
          have g27_1010 := (fw27.2.2 1010 (Or.inr (by decide))).trans g26_1010
          have g27_1012 := (fw27.2.2 1012 (Or.inr (by decide))).trans g26_1012
          have g27_1013 := (fw27.2.2 1013 (Or.inr (by decide))).trans g26_1013
          have g27_1000 := (fw27.2.2 1000 (Or.inr (by decide))).trans g26_1000
          clear g26_1002 g26_1003 g26_1004 g26_1005 g26_1006 g26_1008 g26_1009 g26_1010 g26_1012 g26_1013 g26_1000
          have l27_1001 := l26_1001.fw fw27 (by decide)
          have l27_1014 := l26_1014.fw fw27 (by decide)
          have l27_1015 := l26_1015.fw fw27 (by decide)
          have l27_1035 := l26_1035.fw fw27 (by decide)
          have l27_1036 := l26_1036.fw fw27 (by decide)
          have l27_1011 := l26_1011.fw fw27 (by decide)
          have b27 := (fw27.1).trans b26
          have hf27 := fw27.2.1 hf26
          refine j_pop dX11_init_121 rfl ?_
          refine j_iinc (lo' := [(1, _), (0, _)]) dX11_init_122 rfl rfl (by decide) rfl ?_
          refine j_goto (tgt := 102) dX11_init_125 (by decide) ?_
          refine j_iload_n dX11_init_102 rfl ?_
          refine j_iconst (v := 3) dX11_init_103 (by decide) ?_
          refine j_icmp_ge (tgt := 128) dX11_init_104 (by decide) (fun c_104_672 => ?_) (fun c_104_672 => ?_)
          · exact absurd c_104_672 (by decide)
          · refine j_aload_n dX11_init_107 rfl rfl ?_
            refine j_getf dX11_init_108 fX11_34 g27_1000 rfl ?_
            refine j_new (w' := _) (n := 1012) dX11_init_111 nX11_18 rfl (z_alW g27_1012 (by decide)) (Nat.le_of_ble_eq_true rfl) (Nat.le_of_ble_eq_true rfl) ?_
            refine j_seal (n := 1012) (by decide) ?_
            intro w28 u28
            have fw28 := u28.fw (ρ := 52) (by decide) (by decide)
            have g28_1002 := (fw28.2.2 1002 (Or.inr (by decide))).trans g27_1002
            have g28_1003 := (fw28.2.2 1003 (Or.inr (by decide))).trans g27_1003
            have g28_1004 := (fw28.2.2 1004 (Or.inr (by decide))).trans g27_1004
            have g28_1005 := (fw28.2.2 1005 (Or.inr (by decide))).trans g27_1005
            have g28_1006 := (fw28.2.2 1006 (Or.inr (by decide))).trans g27_1006
            have g28_1008 := (fw28.2.2 1008 (Or.inr (by decide))).trans g27_1008
            have g28_1009 := (fw28.2.2 1009 (Or.inr (by decide))).trans g27_1009
            have g28_1010 := (fw28.2.2 1010 (Or.inr (by decide))).trans g27_1010
            have g28_1013 := (fw28.2.2 1013 (Or.inr (by decide))).trans g27_1013
            have g28_1000 := (fw28.2.2 1000 (Or.inr (by decide))).trans g27_1000
            clear g27_1002 g27_1003 g27_1004 g27_1005 g27_1006 g27_1008 g27_1009 g27_1010 g27_1013 g27_1000
            have l28_1001 := l27_1001.fw fw28 (by decide)
            have l28_1007 := l27_1007.fw fw28 (by decide)
            have l28_1014 := l27_1014.fw fw28 (by decide)
            have l28_1015 := l27_1015.fw fw28 (by decide)
            have l28_1035 := l27_1035.fw fw28 (by decide)
            have l28_1036 := l27_1036.fw fw28 (by decide)
            have l28_1011 := l27_1011.fw fw28 (by decide)
            have g28_1012 := u28.1
            have b28 := (fw28.1).trans b27
            have hf28 := fw28.2.1 hf27
            refine j_dup dX11_init_114 rfl ?_
            refine j_callI dX11_init_115 kJx4a65c_init_da8c8 rfl lX11_20 inJx4a65c_init_da8c8 rfl (cl_init hl w28 52 1012 (by decide) (by decide) g28_1012) (Nat.le_of_ble_eq_true rfl) ⟨(Nat.le_of_ble_eq_true rfl), (Nat.le_of_ble_eq_true rfl)⟩ rfl (Nat.le_of_ble_eq_true rfl) rfl rfl (fun _ _ h => h.elim) ?_
            rintro _ w29 ⟨rfl, fw29, hk29, l29_1012⟩
            have g29_1002 := (fw29.2.2 1002 (Or.inr (by decide))).trans g28_1002
            have g29_1003 := (fw29.2.2 1003 (Or.inr (by decide))).trans g28_1003
            have g29_1004 := (fw29.2.2 1004 (Or.inr (by decide))).trans g28_1004
            have g29_1005 := (fw29.2.2 1005 (Or.inr (by decide))).trans g28_1005
            have g29_1006 := (fw29.2.2 1006 (Or.inr (by decide))).trans g28_1006
            have g29_1008 := (fw29.2.2 1008 (Or.inr (by decide))).trans g28_1008
            have g29_1009 := (fw29.2.2 1009 (Or.inr (by decide))).trans g28_1009
            have g29_1010 := (fw29.2.2 1010 (Or.inr (by decide))).trans g28_1010
            have g29_1013 := (fw29.2.2 1013 (Or.inr (by decide))).trans g28_1013
            have g29_1000 := (fw29.2.2 1000 (Or.inr (by decide))).trans g28_1000
            clear g28_1002 g28_1003 g28_1004 g28_1005 g28_1006 g28_1008 g28_1009 g28_1010 g28_1013 g28_1000
            have l29_1001 := l28_1001.fw fw29 (by decide)
            have l29_1007 := l28_1007.fw fw29 (by decide)
            have l29_1014 := l28_1014.fw fw29 (by decide)
            have l29_1015 := l28_1015.fw fw29 (by decide)
            have l29_1035 := l28_1035.fw fw29 (by decide)
            have l29_1036 := l28_1036.fw fw29 (by decide)
            have l29_1011 := l28_1011.fw fw29 (by decide)
            have b29 := (fw29.1).trans b28
            have hf29 := fw29.2.1 hf28
            obtain ⟨lv4, -, lg4⟩ := z_li.cell l29_1007
            refine j_callV (q := (RJx4a65c, TJx4a65c, 3)) dX11_init_118 kJx4a65c_add_9ea2d lX11_44 inJx4a65c_add_9ea2d seJx4a65c_add_9ea2d lg4 rfl (cl_add hl w29 47 1007 _ _ 2 (.ref 1012) l29_1007 (by decide) hf29 (by decide) (by decide) (z_mem2 (fun v hv => by cases hv) ⟨Or.inr ⟨1011, rfl, Or.inr (by decide)⟩, "java/util/ArrayList", l29_1011.is, (z_wn 1992 ((lwg_9 27).trans rfl) (by decide +kernel))⟩) ⟨Or.inr ⟨1012, rfl, Or.inr (by decide)⟩, "java/util/ArrayList", l29_1012.is, (z_wn 1992 ((lwg_9 27).trans rfl) (by decide +kernel))⟩) (Nat.le_of_ble_eq_true rfl) ⟨(Nat.le_of_ble_eq_true rfl), (Nat.le_of_ble_eq_true rfl)⟩ rfl (Nat.le_of_ble_eq_true rfl) rfl rfl (fun _ _ h => h.elim) ?_
            rintro _ w30 ⟨rfl, fw30, mo30, l30_1007⟩
            have g30_1002 := (fw30.2.2 1002 (Or.inr (by decide))).trans g29_1002
            have g30_1003 := (fw30.2.2 1003 (Or.inr (by decide))).trans g29_1003
            have g30_1004 := (fw30.2.2 1004 (Or.inr (by decide))).trans g29_1004
            have g30_1005 := (fw30.2.2 1005 (Or.inr (by decide))).trans g29_1005
            have g30_1006 := (fw30.2.2 1006 (Or.inr (by decide))).trans g29_1006
            have g30_1008 := (fw30.2.2 1008 (Or.inr (by decide))).trans g29_1008
            have g30_1009 := (fw30.2.2 1009 (Or.inr (by decide))).trans g29_1009
            have g30_1010 := (fw30.2.2 1010 (Or.inr (by decide))).trans g29_1010
            have g30_1013 := (fw30.2.2 1013 (Or.inr (by decide))).trans g29_1013
            have g30_1000 := (fw30.2.2 1000 (Or.inr (by decide))).trans g29_1000
            clear g29_1002 g29_1003 g29_1004 g29_1005 g29_1006 g29_1008 g29_1009 g29_1010 g29_1013 g29_1000
            have l30_1001 := l29_1001.fw fw30 (by decide)
            have l30_1014 := l29_1014.fw fw30 (by decide)
            have l30_1015 := l29_1015.fw fw30 (by decide)
            have l30_1035 := l29_1035.fw fw30 (by decide)
            have l30_1036 := l29_1036.fw fw30 (by decide)
            have l30_1011 := l29_1011.fw fw30 (by decide)
            have l30_1012 := l29_1012.fw fw30 (by decide)
            have b30 := (fw30.1).trans b29
            have hf30 := fw30.2.1 hf29
            refine j_pop dX11_init_121 rfl ?_
            refine j_iinc (lo' := [(1, _), (0, _)]) dX11_init_122 rfl rfl (by decide) rfl ?_
            refine j_goto (tgt := 102) dX11_init_125 (by decide) ?_
            refine j_iload_n dX11_init_102 rfl ?_
            refine j_iconst (v := 3) dX11_init_103 (by decide) ?_
            refine j_icmp_ge (tgt := 128) dX11_init_104 (by decide) (fun c_104_749 => ?_) (fun c_104_749 => ?_)
            · exact absurd c_104_749 (by decide)
            · refine j_aload_n dX11_init_107 rfl rfl ?_
              refine j_getf dX11_init_108 fX11_34 g30_1000 rfl ?_
              refine j_new (w' := _) (n := 1013) dX11_init_111 nX11_18 rfl (z_alW g30_1013 (by decide)) (Nat.le_of_ble_eq_true rfl) (Nat.le_of_ble_eq_true rfl) ?_
              refine j_seal (n := 1013) (by decide) ?_
              intro w31 u31
              have fw31 := u31.fw (ρ := 53) (by decide) (by decide)
              have g31_1002 := (fw31.2.2 1002 (Or.inr (by decide))).trans g30_1002
              have g31_1003 := (fw31.2.2 1003 (Or.inr (by decide))).trans g30_1003
              have g31_1004 := (fw31.2.2 1004 (Or.inr (by decide))).trans g30_1004
              have g31_1005 := (fw31.2.2 1005 (Or.inr (by decide))).trans g30_1005
              have g31_1006 := (fw31.2.2 1006 (Or.inr (by decide))).trans g30_1006
              have g31_1008 := (fw31.2.2 1008 (Or.inr (by decide))).trans g30_1008
              have g31_1009 := (fw31.2.2 1009 (Or.inr (by decide))).trans g30_1009
              have g31_1010 := (fw31.2.2 1010 (Or.inr (by decide))).trans g30_1010
              have g31_1000 := (fw31.2.2 1000 (Or.inr (by decide))).trans g30_1000
              clear g30_1002 g30_1003 g30_1004 g30_1005 g30_1006 g30_1008 g30_1009 g30_1010 g30_1000
              have l31_1001 := l30_1001.fw fw31 (by decide)
              have l31_1007 := l30_1007.fw fw31 (by decide)
              have l31_1014 := l30_1014.fw fw31 (by decide)
              have l31_1015 := l30_1015.fw fw31 (by decide)
              have l31_1035 := l30_1035.fw fw31 (by decide)
              have l31_1036 := l30_1036.fw fw31 (by decide)
              have l31_1011 := l30_1011.fw fw31 (by decide)
              have l31_1012 := l30_1012.fw fw31 (by decide)
              have g31_1013 := u31.1
              have b31 := (fw31.1).trans b30
              have hf31 := fw31.2.1 hf30
              refine j_dup dX11_init_114 rfl ?_
              refine j_callI dX11_init_115 kJx4a65c_init_da8c8 rfl lX11_20 inJx4a65c_init_da8c8 rfl (cl_init hl w31 53 1013 (by decide) (by decide) g31_1013) (Nat.le_of_ble_eq_true rfl) ⟨(Nat.le_of_ble_eq_true rfl), (Nat.le_of_ble_eq_true rfl)⟩ rfl (Nat.le_of_ble_eq_true rfl) rfl rfl (fun _ _ h => h.elim) ?_
              rintro _ w32 ⟨rfl, fw32, hk32, l32_1013⟩
              have g32_1002 := (fw32.2.2 1002 (Or.inr (by decide))).trans g31_1002
              have g32_1003 := (fw32.2.2 1003 (Or.inr (by decide))).trans g31_1003
              have g32_1004 := (fw32.2.2 1004 (Or.inr (by decide))).trans g31_1004
              have g32_1005 := (fw32.2.2 1005 (Or.inr (by decide))).trans g31_1005
              have g32_1006 := (fw32.2.2 1006 (Or.inr (by decide))).trans g31_1006
              have g32_1008 := (fw32.2.2 1008 (Or.inr (by decide))).trans g31_1008
              have g32_1009 := (fw32.2.2 1009 (Or.inr (by decide))).trans g31_1009
              have g32_1010 := (fw32.2.2 1010 (Or.inr (by decide))).trans g31_1010
              have g32_1000 := (fw32.2.2 1000 (Or.inr (by decide))).trans g31_1000
              clear g31_1002 g31_1003 g31_1004 g31_1005 g31_1006 g31_1008 g31_1009 g31_1010 g31_1000
              have l32_1001 := l31_1001.fw fw32 (by decide)
              have l32_1007 := l31_1007.fw fw32 (by decide)
              have l32_1014 := l31_1014.fw fw32 (by decide)
              have l32_1015 := l31_1015.fw fw32 (by decide)
              have l32_1035 := l31_1035.fw fw32 (by decide)
              have l32_1036 := l31_1036.fw fw32 (by decide)
              have l32_1011 := l31_1011.fw fw32 (by decide)
              have l32_1012 := l31_1012.fw fw32 (by decide)
              have b32 := (fw32.1).trans b31
              have hf32 := fw32.2.1 hf31
              obtain ⟨lv5, -, lg5⟩ := z_li.cell l32_1007
              refine j_callV (q := (RJx4a65c, TJx4a65c, 3)) dX11_init_118 kJx4a65c_add_9ea2d lX11_44 inJx4a65c_add_9ea2d seJx4a65c_add_9ea2d lg5 rfl (cl_add hl w32 47 1007 _ _ 2 (.ref 1013) l32_1007 (by decide) hf32 (by decide) (by decide) (z_mem2 (z_mem2 (fun v hv => by cases hv) ⟨Or.inr ⟨1011, rfl, Or.inr (by decide)⟩, "java/util/ArrayList", l32_1011.is, (z_wn 1992 ((lwg_9 27).trans rfl) (by decide +kernel))⟩) ⟨Or.inr ⟨1012, rfl, Or.inr (by decide)⟩, "java/util/ArrayList", l32_1012.is, (z_wn 1992 ((lwg_9 27).trans rfl) (by decide +kernel))⟩) ⟨Or.inr ⟨1013, rfl, Or.inr (by decide)⟩, "java/util/ArrayList", l32_1013.is, (z_wn 1992 ((lwg_9 27).trans rfl) (by decide +kernel))⟩) (Nat.le_of_ble_eq_true rfl) ⟨(Nat.le_of_ble_eq_true rfl), (Nat.le_of_ble_eq_true rfl)⟩ rfl (Nat.le_of_ble_eq_true rfl) rfl rfl (fun _ _ h => h.elim) ?_
              rintro _ w33 ⟨rfl, fw33, mo33, l33_1007⟩
              have g33_1002 := (fw33.2.2 1002 (Or.inr (by decide))).trans g32_1002
              have g33_1003 := (fw33.2.2 1003 (Or.inr (by decide))).trans g32_1003
              have g33_1004 := (fw33.2.2 1004 (Or.inr (by decide))).trans g32_1004
              have g33_1005 := (fw33.2.2 1005 (Or.inr (by decide))).trans g32_1005
              have g33_1006 := (fw33.2.2 1006 (Or.inr (by decide))).trans g32_1006
              have g33_1008 := (fw33.2.2 1008 (Or.inr (by decide))).trans g32_1008
              have g33_1009 := (fw33.2.2 1009 (Or.inr (by decide))).trans g32_1009
              have g33_1010 := (fw33.2.2 1010 (Or.inr (by decide))).trans g32_1010
              have g33_1000 := (fw33.2.2 1000 (Or.inr (by decide))).trans g32_1000
              clear g32_1002 g32_1003 g32_1004 g32_1005 g32_1006 g32_1008 g32_1009 g32_1010 g32_1000
              have l33_1001 := l32_1001.fw fw33 (by decide)
              have l33_1014 := l32_1014.fw fw33 (by decide)
              have l33_1015 := l32_1015.fw fw33 (by decide)
              have l33_1035 := l32_1035.fw fw33 (by decide)
              have l33_1036 := l32_1036.fw fw33 (by decide)
              have l33_1011 := l32_1011.fw fw33 (by decide)
              have l33_1012 := l32_1012.fw fw33 (by decide)
              have l33_1013 := l32_1013.fw fw33 (by decide)
              have b33 := (fw33.1).trans b32
              have hf33 := fw33.2.1 hf32
              refine j_pop dX11_init_121 rfl ?_
              refine j_iinc (lo' := [(1, _), (0, _)]) dX11_init_122 rfl rfl (by decide) rfl ?_
              refine j_goto (tgt := 102) dX11_init_125 (by decide) ?_
              refine j_iload_n dX11_init_102 rfl ?_
              refine j_iconst (v := 3) dX11_init_103 (by decide) ?_
              refine j_icmp_ge (tgt := 128) dX11_init_104 (by decide) (fun c_104_826 => ?_) (fun c_104_826 => ?_)
              · refine j_vret dX11_init_128 rfl ?_ (Nat.le_of_ble_eq_true rfl) (Nat.le_of_ble_eq_true rfl)
                refine ⟨rfl, b33, ((0, 0, 0), (_, fun i => 1035 + i), (fun _ => 0), (fun _ _ => 0), _, (fun _ => (-1000, 0, 0, -1)), (fun _ => (0, [])), (fun _ => (0, [])), (fun _ => (0, [])), fun _ _ => 0), ⟨hf33, g33_1000, l33_1001, g33_1002, ?_, ?_, l33_1007, ?_, ?_, ?_, ?_, ?_, fun t ht => z_pr.nil⟩, ⟨rfl, fun _ _ => rfl, fun _ _ => rfl, fun _ _ _ _ => rfl, fun _ _ => rfl, fun _ _ => ⟨rfl, rfl⟩⟩⟩
                · exact ⟨fq3, g33_1003, fun j hj => by rcases (by omega : j = 0 ∨ j = 1 ∨ j = 2) with rfl | rfl | rfl; exact qb3; exact qc3; exact qd3⟩
                · exact fun i hi => by rcases (by omega : i = 0 ∨ i = 1 ∨ i = 2) with rfl | rfl | rfl; exact g33_1004; exact g33_1005; exact g33_1006
                · exact ⟨_, g33_1008, fun j hj => by rcases (by omega : j = 0 ∨ j = 1) with rfl | rfl <;> rfl⟩
                · exact fun i hi => by rcases (by omega : i = 0 ∨ i = 1) with rfl | rfl; exact g33_1009; exact g33_1010
                · exact fun i hi => by rcases (by omega : i = 0 ∨ i = 1 ∨ i = 2) with rfl | rfl | rfl; exact l33_1011; exact l33_1012; exact l33_1013
                · exact fun i hi => by rcases (by omega : i = 0 ∨ i = 1) with rfl | rfl; exact ⟨l33_1014, Nat.zero_le _⟩; exact ⟨l33_1015, Nat.zero_le _⟩
                · exact fun i hi => by rcases (by omega : i = 0 ∨ i = 1) with rfl | rfl; exact ⟨l33_1035, Nat.zero_le _⟩; exact ⟨l33_1036, Nat.zero_le _⟩
              · exact absurd c_104_826 (by decide)
      · exact absurd c_76_590 (by decide)
end ZMi
end ZM3
