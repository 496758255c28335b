section ZMe3
variable {G : z_G} {l : Launch}
set_option maxRecDepth 100000 in
set_option maxHeartbeats 8000000 in
theorem cx_removeIf (hl : l.stackTraces = false) (w : z_W) (S : sp_S) (s : z_Z) (r : Int32) (t : Int32) (n : Int32) (h : z_mst w s) (R : sp_MR S s)  : z_Con G l mX11_removeIf 22 0 0 w [.ref 1000, .int r, .int t, .int n] (fun v w9 => ∃ (r9 : Int32) (s9 : z_Z), v = some (.int r9) ∧ z_fm 59 w w9 ∧ z_mst w9 s9 ∧ s9.1.1 = q_k22 r ((t < 0 ∨ 5 < t) ∨ sp_bv n) ∧ sp_MR (if q_k22 r ((t < 0 ∨ 5 < t) ∨ sp_bv n) = 0 then sp_sftS S (sp_i r) t n else S) s9 ∧ (q_k22 r ((t < 0 ∨ 5 < t) ∨ sp_bv n) = 0 → r9 = sp_ab (sp_sft S (sp_i r) t n).1)) (fun _ _ => False) := by
  generalize hQ9 : (fun (v : Option Value) (w9 : z_W) => ∃ (r9 : Int32) (s9 : z_Z), v = some (.int r9) ∧ z_fm 59 w w9 ∧ z_mst w9 s9 ∧ s9.1.1 = q_k22 r ((t < 0 ∨ 5 < t) ∨ sp_bv n) ∧ sp_MR (if q_k22 r ((t < 0 ∨ 5 < t) ∨ sp_bv n) = 0 then sp_sftS S (sp_i r) t n else S) s9 ∧ (q_k22 r ((t < 0 ∨ 5 < t) ∨ sp_bv n) = 0 → r9 = sp_ab (sp_sft S (sp_i r) t n).1)) = Q9
  refine z_body hl (by decide) rfl (Nat.le_of_ble_eq_true rfl) ?_
  show z_J G l mX11_removeIf _ 0 [(0, _), (1, _), (2, _), (3, _)] [] _ 0 0
  refine j_aload_n dX11_removeIf_0 rfl rfl ?_
  refine j_iload_n dX11_removeIf_1 rfl ?_
  refine j_callS dX11_removeIf_2 kX11_isNoTwo lX11_72 stX11_isNoTwo (cm_isNoTwo_r hl w _) (Nat.le_of_ble_eq_true rfl) ⟨(Nat.le_of_ble_eq_true rfl), (Nat.le_of_ble_eq_true rfl)⟩ rfl (Nat.le_of_ble_eq_true rfl) rfl rfl (fun _ _ h => h.elim) ?_
  rintro _ _ ⟨⟨rfl, hno94⟩ | ⟨rfl, i94, hi94, ht94, rfl⟩, hw94⟩
  · refine j_w w hw94 ?_
    refine j_iconst (v := 1) dX11_removeIf_5 (by decide) ?_
    refine j_callV (q := (RX11, TX11, 8)) dX11_removeIf_6 kX11_start lX11_76 inX11_start seX11_start h.m rfl (cm_start1 hl w _ _ h (by decide)) (Nat.le_of_ble_eq_true rfl) ⟨(Nat.le_of_ble_eq_true rfl), (Nat.le_of_ble_eq_true rfl)⟩ rfl (Nat.le_of_ble_eq_true rfl) rfl rfl (fun _ _ h => h.elim) ?_
    rintro _ w1 ⟨rfl, fm1, h1⟩
    have R1 := R.th (k := 1)
    refine j_if_ne (tgt := 41) dX11_removeIf_9 (by decide) (fun c_9_11 => ?_) (fun c_9_11 => ?_)
    · refine j_iconst (v := 0) dX11_removeIf_41 (by decide) ?_
      refine j_iret dX11_removeIf_42 rfl rfl ?_ (Nat.le_of_ble_eq_true rfl) (Nat.le_of_ble_eq_true rfl)
      refine cast (congrFun (congrFun hQ9 _) _) ?_
      refine ⟨_, _, rfl, (fm1.le (q' := 59) (by decide)), h1, sp_X1 (k := 1) ?_ (by decide) rfl R1⟩
      (first | (refine sp_k22_1 ?_ <;> (first | assumption | (refine Or.inl ?_; assumption) | (refine Or.inr ?_; assumption) | (refine Or.inr (Or.inl ?_); assumption) | (refine Or.inr (Or.inr ?_); assumption) | (refine Or.inr (Or.inr (Or.inl ?_)); assumption) | (refine Or.inr (Or.inr (Or.inr ?_)); assumption) | (refine fun z => Or.elim z ?_ ?_ <;> assumption) | (refine fun z => Or.elim z ?_ (fun z => Or.elim z ?_ ?_) <;> assumption) | (refine fun z => Or.elim z ?_ (fun z => Or.elim z ?_ (fun z => Or.elim z ?_ ?_)) <;> assumption) | (refine fun z => Or.elim z (fun z9 => z9 ?_) ?_ <;> (first | assumption | (refine Or.inl ?_; assumption) | (refine Or.inr (Or.inl ?_); assumption) | (refine Or.inr (Or.inr ?_); assumption) | (refine Or.inr (Or.inr (Or.inl ?_)); assumption) | (refine Or.inr (Or.inr (Or.inr ?_)); assumption))) | (refine Or.inl (fun z => Or.elim z ?_ (fun z => Or.elim z ?_ ?_)) <;> assumption) | (refine Or.inl (fun z => Or.elim z ?_ (fun z => Or.elim z ?_ (fun z => Or.elim z ?_ ?_))) <;> assumption))))
    · exact absurd c_9_11 (by decide)
  · refine j_w w hw94 ?_
    have ei94 : sp_i (nI i94) = i94 := sp_in' (by omega)
    refine j_iconst (v := 1) dX11_removeIf_5 (by decide) ?_
    refine j_callV (q := (RX11, TX11, 8)) dX11_removeIf_6 kX11_start lX11_76 inX11_start seX11_start h.m rfl (cm_start0 hl w _ _ h) (Nat.le_of_ble_eq_true rfl) ⟨(Nat.le_of_ble_eq_true rfl), (Nat.le_of_ble_eq_true rfl)⟩ rfl (Nat.le_of_ble_eq_true rfl) rfl rfl (fun _ _ h => h.elim) ?_
    rintro _ w2 ⟨rfl, fm2, h2⟩
    have R2 := R.th (k := 0)
    refine j_if_ne (tgt := 41) dX11_removeIf_9 (by decide) (fun c_9_24 => ?_) (fun c_9_24 => ?_)
    · exact absurd c_9_24 (by decide)
    · refine j_aload_n dX11_removeIf_12 rfl rfl ?_
      refine j_iload_n dX11_removeIf_13 rfl ?_
      refine j_iconst (v := 0) dX11_removeIf_14 (by decide) ?_
      refine j_iconst (v := 5) dX11_removeIf_15 (by decide) ?_
      refine j_callS dX11_removeIf_16 kX11_isIn lX11_59 stX11_isIn (cm_isIn_r hl w2 _ (0) (5)) (Nat.le_of_ble_eq_true rfl) ⟨(Nat.le_of_ble_eq_true rfl), (Nat.le_of_ble_eq_true rfl)⟩ rfl (Nat.le_of_ble_eq_true rfl) rfl rfl (fun _ _ h => h.elim) ?_
      rintro _ _ ⟨⟨rfl, hye95⟩ | ⟨rfl, hno95⟩, hw95⟩
      · refine j_w w2 hw95 ?_
        refine j_if_eq (tgt := 29) dX11_removeIf_19 (by decide) (fun c_19_33 => ?_) (fun c_19_33 => ?_)
        · exact absurd c_19_33 (by decide)
        · refine j_iload_n dX11_removeIf_22 rfl ?_
          refine j_callS dX11_removeIf_23 kX11_isNoValue lX11_79 stX11_isNoValue (cm_isNoValue_r hl w2 _) (Nat.le_of_ble_eq_true rfl) ⟨(Nat.le_of_ble_eq_true rfl), (Nat.le_of_ble_eq_true rfl)⟩ rfl (Nat.le_of_ble_eq_true rfl) rfl rfl (fun _ _ h => h.elim) ?_
          rintro _ _ ⟨⟨rfl, hno96⟩ | ⟨rfl, hye96⟩, hw96⟩
          · refine j_w w2 hw96 ?_
            refine j_if_eq (tgt := 33) dX11_removeIf_26 (by decide) (fun c_26_39 => ?_) (fun c_26_39 => ?_)
            · exact absurd c_26_39 (by decide)
            · refine j_iconst (v := 1) dX11_removeIf_29 (by decide) ?_
              refine j_goto (tgt := 34) dX11_removeIf_30 (by decide) ?_
              refine j_iconst (v := 2) dX11_removeIf_34 (by decide) ?_
              refine j_callV (q := (RX11, TX11, 8)) dX11_removeIf_35 kX11_refuse lX11_52 inX11_refuse seX11_refuse h2.m rfl (cm_refuse1 hl w2 _ _ h2 rfl (by decide)) (Nat.le_of_ble_eq_true rfl) ⟨(Nat.le_of_ble_eq_true rfl), (Nat.le_of_ble_eq_true rfl)⟩ rfl (Nat.le_of_ble_eq_true rfl) rfl rfl (fun _ _ h => h.elim) ?_
              rintro _ w3 ⟨rfl, fm3, h3⟩
              have R3 := R2.th (k := 2)
              refine j_if_eq (tgt := 43) dX11_removeIf_38 (by decide) (fun c_38_47 => ?_) (fun c_38_47 => ?_)
              · exact absurd c_38_47 (by decide)
              · refine j_iconst (v := 0) dX11_removeIf_41 (by decide) ?_
                refine j_iret dX11_removeIf_42 rfl rfl ?_ (Nat.le_of_ble_eq_true rfl) (Nat.le_of_ble_eq_true rfl)
                refine cast (congrFun (congrFun hQ9 _) _) ?_
                try rw [ei94]
                refine ⟨_, _, rfl, ((fm2.le (q' := 59) (by decide)).tr (fm3.le (q' := 59) (by decide))), h3, sp_X1 (k := 2) ?_ (by decide) rfl R3⟩
                (first | (refine sp_k22_2 ?_ ?_ <;> (first | assumption | (refine Or.inl ?_; assumption) | (refine Or.inr ?_; assumption) | (refine Or.inr (Or.inl ?_); assumption) | (refine Or.inr (Or.inr ?_); assumption) | (refine Or.inr (Or.inr (Or.inl ?_)); assumption) | (refine Or.inr (Or.inr (Or.inr ?_)); assumption) | (refine fun z => Or.elim z ?_ ?_ <;> assumption) | (refine fun z => Or.elim z ?_ (fun z => Or.elim z ?_ ?_) <;> assumption) | (refine fun z => Or.elim z ?_ (fun z => Or.elim z ?_ (fun z => Or.elim z ?_ ?_)) <;> assumption) | (refine fun z => Or.elim z (fun z9 => z9 ?_) ?_ <;> (first | assumption | (refine Or.inl ?_; assumption) | (refine Or.inr (Or.inl ?_); assumption) | (refine Or.inr (Or.inr ?_); assumption) | (refine Or.inr (Or.inr (Or.inl ?_)); assumption) | (refine Or.inr (Or.inr (Or.inr ?_)); assumption))) | (refine Or.inl (fun z => Or.elim z ?_ (fun z => Or.elim z ?_ ?_)) <;> assumption) | (refine Or.inl (fun z => Or.elim z ?_ (fun z => Or.elim z ?_ (fun z => Or.elim z ?_ ?_))) <;> assumption))))
          · refine j_w w2 hw96 ?_
            refine j_if_eq (tgt := 33) dX11_removeIf_26 (by decide) (fun c_26_56 => ?_) (fun c_26_56 => ?_)
            · refine j_iconst (v := 0) dX11_removeIf_33 (by decide) ?_
              refine j_iconst (v := 2) dX11_removeIf_34 (by decide) ?_
              refine j_callV (q := (RX11, TX11, 8)) dX11_removeIf_35 kX11_refuse lX11_52 inX11_refuse seX11_refuse h2.m rfl (cm_refuse0 hl w2 _ _ h2 rfl) (Nat.le_of_ble_eq_true rfl) ⟨(Nat.le_of_ble_eq_true rfl), (Nat.le_of_ble_eq_true rfl)⟩ rfl (Nat.le_of_ble_eq_true rfl) rfl rfl (fun _ _ h => h.elim) ?_
              rintro _ _ ⟨rfl, hw97⟩
              refine j_w w2 hw97 ?_
              refine j_if_eq (tgt := 43) dX11_removeIf_38 (by decide) (fun c_38_62 => ?_) (fun c_38_62 => ?_)
              · refine j_aload_n dX11_removeIf_43 rfl rfl ?_
                refine j_getf dX11_removeIf_44 fX11_31 h2.m rfl ?_
                refine j_iload_n dX11_removeIf_47 rfl ?_
                obtain ⟨fz98, gz98, hz98⟩ := h2.co
                refine j_aald (v := .ref (1004 + i94)) dX11_removeIf_48 gz98 rfl rfl (vp_in_nI (by omega) (by omega)) (by rw [z_cla (by omega)]; exact hz98 _ (by omega)) ?_
                refine j_iconst (v := 0) dX11_removeIf_49 (by decide) ?_
                refine j_dup2 dX11_removeIf_50 rfl rfl ?_
                refine j_ld dX11_removeIf_51 (h2.cn (i := i94) (by omega)) (vp_in_nI (n := 0) (by decide) (by decide)) ?_
                refine j_iconst (v := 1) dX11_removeIf_52 (by decide) ?_
                refine j_iadd dX11_removeIf_53 ?_
                refine j_sto (w' := _) dX11_removeIf_54 (h2.cn (i := i94) (by omega)) (vp_in_nI (n := 0) (by decide) (by decide)) rfl ?_
                refine j_seal (by omega) ?_
                intro w4 u4
                have fw4 := u4.fw (ρ := 44 + i94) (by omega) (by omega)
                have h4 := h2.up44 (i0 := i94) (by omega) fw4 u4.1
                rw [show (0 : Int32).toNatClampNeg = 0 by decide] at h4
                have R4 := R2.bp (i := i94) (k := 0) (by omega) (by decide)
                refine j_iconst (v := 0) dX11_removeIf_55 (by decide) ?_
                refine j_istore (lo' := [(4, _), (0, _), (1, _), (2, _), (3, _)]) dX11_removeIf_56 (by decide) rfl ?_
                refine j_iconst (v := 0) dX11_removeIf_58 (by decide) ?_
                refine j_istore (lo' := [(5, _), (4, _), (0, _), (1, _), (2, _), (3, _)]) dX11_removeIf_59 (by decide) rfl ?_
                have loop61 : ∀ (n9 : Nat) (w5 : z_W) (s1 : z_Z) (A L : List Int32) (c : Nat → Int32) (k : Bool) (a : Nat), (a = A.length) → (L.length < n9) → (A.length ≤ (A ++ L).length) → (sp_ri (sp_F S i94) t n c A k L = sp_sft S i94 t n) → (sp_MR (sp_uR (sp_uC S i94 c) i94 (A ++ L)) s1) → (s1.1.1 = 0) → (z_mst w5 s1) → (z_fm 59 w w5) → z_J G l mX11_removeIf (22, 0, 0, w, Q9, (fun _ _ => False)) 61 [(0, .ref 1000), (1, .int (nI i94)), (2, .int t), (3, .int n), (4, .int (z_bi k)), (5, .int (nI a))] [] w5 0 0 := by
                  intro n9
                  induction n9 with
                  | zero => intro w5 s1 A L c k a ha hf9 hAl he hR hth hm hfm; exact absurd hf9 (Nat.not_lt_zero _)
                  | succ n9 ih =>
                    intro w5 s1 A L c k a ha hf9 hAl he hR hth hm hfm
                    subst ha
                    refine j_iload dX11_removeIf_61 rfl ?_
                    refine j_aload_n dX11_removeIf_63 rfl rfl ?_
                    refine j_getf dX11_removeIf_64 fX11_21 hm.m rfl ?_
                    refine j_iload_n dX11_removeIf_67 rfl ?_
                    obtain ⟨lv102, -, lg102⟩ := z_li.cell hm.rows
                    refine j_callV (q := (RJx4a65c, TJx4a65c, 3)) dX11_removeIf_68 kJx4a65c_get_915e3 lX11_82 inJx4a65c_get_915e3 seJx4a65c_get_915e3 lg102 rfl (cl_get hl w5 41 1001 _ _ (i94) _ hm.rows (z_two2 (i := i94) (by omega))) (Nat.le_of_ble_eq_true rfl) ⟨(Nat.le_of_ble_eq_true rfl), (Nat.le_of_ble_eq_true rfl)⟩ rfl (Nat.le_of_ble_eq_true rfl) rfl rfl (fun _ _ h => h.elim) ?_
                    rintro _ _ ⟨rfl, hw103⟩
                    refine j_w w5 hw103 ?_
                    refine j_castS dX11_removeIf_71 (z_w 1341 ((lwg_6 96).trans (by decide +kernel)) (by decide +kernel)) (z_li.is (hm.rw (i := i94) (by omega)).1) ?_
                    obtain ⟨lv105, -, lg105⟩ := z_li.cell (hm.rw (i := i94) (by omega)).1
                    refine j_callV (q := (RJx4a65c, TJx4a65c, 3)) dX11_removeIf_74 kJx4a65c_size_8abf5 lX11_86 inJx4a65c_size_8abf5 seJx4a65c_size_8abf5 lg105 rfl (cl_sizeW hl w5 (i94) ((A ++ L)) hm hR (by omega) z_fu_self) (Nat.le_of_ble_eq_true rfl) ⟨(Nat.le_of_ble_eq_true rfl), (Nat.le_of_ble_eq_true rfl)⟩ rfl (Nat.le_of_ble_eq_true rfl) rfl rfl (fun _ _ h => h.elim) ?_
                    rintro _ _ ⟨rfl, hw106⟩
                    refine j_w w5 hw106 ?_
                    have hz106 : ((A ++ L)).length ≤ 12 := hR.l12 hm (i := i94) (by omega) z_fu_self
                    refine j_icmp_ge (tgt := 207) dX11_removeIf_77 (by decide) (fun c_77_105 => ?_) (fun c_77_105 => ?_)
                    · have hb77 : ((A ++ L)).length ≤ A.length := (nI_leI (a := ((A ++ L)).length) (b := A.length) (by omega) (by omega)).mp c_77_105
                      obtain rfl : L = [] := List.eq_nil_of_length_eq_zero (by have h9 := hb77; rw [List.length_append] at h9; omega)
                      refine j_aload_n dX11_removeIf_207 rfl rfl ?_
                      refine j_getf dX11_removeIf_208 fX11_31 hm.m rfl ?_
                      refine j_iload_n dX11_removeIf_211 rfl ?_
                      obtain ⟨fz107, gz107, hz107⟩ := hm.co
                      refine j_aald (v := .ref (1004 + i94)) dX11_removeIf_212 gz107 rfl rfl (vp_in_nI (by omega) (by omega)) (by rw [z_cla (by omega)]; exact hz107 _ (by omega)) ?_
                      refine j_iconst (v := 1) dX11_removeIf_213 (by decide) ?_
                      refine j_dup2 dX11_removeIf_214 rfl rfl ?_
                      refine j_ld dX11_removeIf_215 (hm.cn (i := i94) (by omega)) (vp_in_nI (n := 1) (by decide) (by decide)) ?_
                      refine j_iconst (v := 1) dX11_removeIf_216 (by decide) ?_
                      refine j_iadd dX11_removeIf_217 ?_
                      refine j_sto (w' := _) dX11_removeIf_218 (hm.cn (i := i94) (by omega)) (vp_in_nI (n := 1) (by decide) (by decide)) rfl ?_
                      refine j_seal (by omega) ?_
                      intro w6 u6
                      have fw6 := u6.fw (ρ := 44 + i94) (by omega) (by omega)
                      have h6 := hm.up44 (i0 := i94) (by omega) fw6 u6.1
                      rw [show (1 : Int32).toNatClampNeg = 1 by decide] at h6
                      have R6 := hR.bpR (i := i94) (k := 1) (by omega) (by decide)
                      refine j_iload dX11_removeIf_219 rfl ?_
                      refine j_callS dX11_removeIf_221 kX11_one lX11_68 stX11_one (cm_one_r hl w6 k) (Nat.le_of_ble_eq_true rfl) ⟨(Nat.le_of_ble_eq_true rfl), (Nat.le_of_ble_eq_true rfl)⟩ rfl (Nat.le_of_ble_eq_true rfl) rfl rfl (fun _ _ h => h.elim) ?_
                      rintro _ _ ⟨rfl, hw110⟩
                      refine j_w w6 hw110 ?_
                      refine j_iret dX11_removeIf_224 rfl rfl ?_ (Nat.le_of_ble_eq_true rfl) (Nat.le_of_ble_eq_true rfl)
                      refine cast (congrFun (congrFun hQ9 _) _) ?_
                      rw [List.append_nil] at R6
                      try rw [ei94]
                      refine ⟨_, _, rfl, (hfm.tr (fw6.fm (q := 59) (by omega))), h6, sp_X0 ?_ hth (by unfold sp_sftS; rw [← he]; exact R6) (by rw [← he]; rfl)⟩
                      (first | (refine sp_k22_0 ?_ ?_ <;> (first | assumption | (refine Or.inl ?_; assumption) | (refine Or.inr ?_; assumption) | (refine Or.inr (Or.inl ?_); assumption) | (refine Or.inr (Or.inr ?_); assumption) | (refine Or.inr (Or.inr (Or.inl ?_)); assumption) | (refine Or.inr (Or.inr (Or.inr ?_)); assumption) | (refine fun z => Or.elim z ?_ ?_ <;> assumption) | (refine fun z => Or.elim z ?_ (fun z => Or.elim z ?_ ?_) <;> assumption) | (refine fun z => Or.elim z ?_ (fun z => Or.elim z ?_ (fun z => Or.elim z ?_ ?_)) <;> assumption) | (refine fun z => Or.elim z (fun z9 => z9 ?_) ?_ <;> (first | assumption | (refine Or.inl ?_; assumption) | (refine Or.inr (Or.inl ?_); assumption) | (refine Or.inr (Or.inr ?_); assumption) | (refine Or.inr (Or.inr (Or.inl ?_)); assumption) | (refine Or.inr (Or.inr (Or.inr ?_)); assumption))) | (refine Or.inl (fun z => Or.elim z ?_ (fun z => Or.elim z ?_ ?_)) <;> assumption) | (refine Or.inl (fun z => Or.elim z ?_ (fun z => Or.elim z ?_ (fun z => Or.elim z ?_ ?_))) <;> assumption))))
                    · have hb77 : A.length < ((A ++ L)).length := Nat.not_le.mp (fun z => c_77_105 ((nI_leI (a := ((A ++ L)).length) (b := A.length) (by omega) (by omega)).mpr z))
                      obtain ⟨x, L2, rfl⟩ : ∃ x L2, L = x :: L2 := by
                        cases L with
                        | nil => rw [List.append_nil] at hb77; exact absurd hb77 (Nat.lt_irrefl _)
                        | cons x L2 => exact ⟨x, L2, rfl⟩
                      have hmid := sp_lmid (A := A) (D := L2) (v := x)
                      refine j_aload_n dX11_removeIf_80 rfl rfl ?_
                      refine j_getf dX11_removeIf_81 fX11_31 hm.m rfl ?_
                      refine j_iload_n dX11_removeIf_84 rfl ?_
                      obtain ⟨fz111, gz111, hz111⟩ := hm.co
                      refine j_aald (v := .ref (1004 + i94)) dX11_removeIf_85 gz111 rfl rfl (vp_in_nI (by omega) (by omega)) (by rw [z_cla (by omega)]; exact hz111 _ (by omega)) ?_
                      refine j_iconst (v := 1) dX11_removeIf_86 (by decide) ?_
                      refine j_dup2 dX11_removeIf_87 rfl rfl ?_
                      refine j_ld dX11_removeIf_88 (hm.cn (i := i94) (by omega)) (vp_in_nI (n := 1) (by decide) (by decide)) ?_
                      refine j_iconst (v := 1) dX11_removeIf_89 (by decide) ?_
                      refine j_iadd dX11_removeIf_90 ?_
                      refine j_sto (w' := _) dX11_removeIf_91 (hm.cn (i := i94) (by omega)) (vp_in_nI (n := 1) (by decide) (by decide)) rfl ?_
                      refine j_seal (by omega) ?_
                      intro w7 u7
                      have fw7 := u7.fw (ρ := 44 + i94) (by omega) (by omega)
                      have h7 := hm.up44 (i0 := i94) (by omega) fw7 u7.1
                      rw [show (1 : Int32).toNatClampNeg = 1 by decide] at h7
                      have R7 := hR.bpR (i := i94) (k := 1) (by omega) (by decide)
                      refine j_aload_n dX11_removeIf_92 rfl rfl ?_
                      refine j_getf dX11_removeIf_93 fX11_31 h7.m rfl ?_
                      refine j_iload_n dX11_removeIf_96 rfl ?_
                      obtain ⟨fz114, gz114, hz114⟩ := h7.co
                      refine j_aald (v := .ref (1004 + i94)) dX11_removeIf_97 gz114 rfl rfl (vp_in_nI (by omega) (by omega)) (by rw [z_cla (by omega)]; exact hz114 _ (by omega)) ?_
                      refine j_iconst (v := 2) dX11_removeIf_98 (by decide) ?_
                      refine j_dup2 dX11_removeIf_99 rfl rfl ?_
                      refine j_ld dX11_removeIf_100 (h7.cn (i := i94) (by omega)) (vp_in_nI (n := 2) (by decide) (by decide)) ?_
                      refine j_iconst (v := 1) dX11_removeIf_101 (by decide) ?_
                      refine j_iadd dX11_removeIf_102 ?_
                      refine j_sto (w' := _) dX11_removeIf_103 (h7.cn (i := i94) (by omega)) (vp_in_nI (n := 2) (by decide) (by decide)) rfl ?_
                      refine j_seal (by omega) ?_
                      intro w8 u8
                      have fw8 := u8.fw (ρ := 44 + i94) (by omega) (by omega)
                      have h8 := h7.up44 (i0 := i94) (by omega) fw8 u8.1
                      rw [show (2 : Int32).toNatClampNeg = 2 by decide] at h8
                      have R8 := R7.bpR (i := i94) (k := 2) (by omega) (by decide)
                      refine j_iload_n dX11_removeIf_104 rfl ?_
                      refine j_aload_n dX11_removeIf_105 rfl rfl ?_
                      refine j_getf dX11_removeIf_106 fX11_21 h8.m rfl ?_
                      refine j_iload_n dX11_removeIf_109 rfl ?_
                      obtain ⟨lv118, -, lg118⟩ := z_li.cell h8.rows
                      refine j_callV (q := (RJx4a65c, TJx4a65c, 3)) dX11_removeIf_110 kJx4a65c_get_915e3 lX11_82 inJx4a65c_get_915e3 seJx4a65c_get_915e3 lg118 rfl (cl_get hl w8 41 1001 _ _ (i94) _ h8.rows (z_two2 (i := i94) (by omega))) (Nat.le_of_ble_eq_true rfl) ⟨(Nat.le_of_ble_eq_true rfl), (Nat.le_of_ble_eq_true rfl)⟩ rfl (Nat.le_of_ble_eq_true rfl) rfl rfl (fun _ _ h => h.elim) ?_
                      rintro _ _ ⟨rfl, hw119⟩
                      refine j_w w8 hw119 ?_
                      refine j_castS dX11_removeIf_113 (z_w 1341 ((lwg_6 96).trans (by decide +kernel)) (by decide +kernel)) (z_li.is (h8.rw (i := i94) (by omega)).1) ?_
                      refine j_iload dX11_removeIf_116 rfl ?_
                      obtain ⟨lv122, -, lg122⟩ := z_li.cell (h8.rw (i := i94) (by omega)).1
                      refine j_callV (q := (RJx4a65c, TJx4a65c, 3)) dX11_removeIf_118 kJx4a65c_get_915e3 lX11_82 inJx4a65c_get_915e3 seJx4a65c_get_915e3 lg122 rfl (cl_getW hl w8 (i94) (A.length) ((A ++ x :: L2)) x h8 R8 (by omega) z_fu_self sp_mid?) (Nat.le_of_ble_eq_true rfl) ⟨(Nat.le_of_ble_eq_true rfl), (Nat.le_of_ble_eq_true rfl)⟩ rfl (Nat.le_of_ble_eq_true rfl) rfl rfl (fun _ _ h => h.elim) ?_
                      rintro _ _ ⟨rfl, hw123⟩
                      refine j_w w8 hw123 ?_
                      refine j_castS dX11_removeIf_121 (z_w 1567 ((lwg_7 82).trans (by decide +kernel)) (by decide +kernel)) rfl ?_
                      refine j_callVB (v0 := .float _) (C := "java/lang/Integer") dX11_removeIf_124 kJ6_intValue_8abf5 lX11_99 inJ6_intValue_8abf5 seJ6_intValue_8abf5 rfl (c_intv hl w8 x) (Nat.le_of_ble_eq_true rfl) ⟨(Nat.le_of_ble_eq_true rfl), (Nat.le_of_ble_eq_true rfl)⟩ rfl (Nat.le_of_ble_eq_true rfl) rfl rfl (fun _ _ h => h.elim) ?_
                      rintro _ _ ⟨rfl, hw125⟩
                      refine j_w w8 hw125 ?_
                      refine j_iload_n dX11_removeIf_127 rfl ?_
                      refine j_callS dX11_removeIf_128 kX11_test lX11_112 stX11_test (cm_test_r hl w8 _ x _) (Nat.le_of_ble_eq_true rfl) ⟨(Nat.le_of_ble_eq_true rfl), (Nat.le_of_ble_eq_true rfl)⟩ rfl (Nat.le_of_ble_eq_true rfl) rfl rfl (fun _ _ h => h.elim) ?_
                      rintro _ _ ⟨⟨rfl, hq126⟩ | ⟨rfl, hq126⟩ | ⟨rfl, hq126⟩, hw126⟩
                      · refine j_w w8 hw126 ?_
                        refine j_istore (lo' := [(6, _), (0, _), (1, _), (2, _), (3, _), (4, _), (5, _)]) dX11_removeIf_131 (by decide) rfl ?_
                        refine j_iload dX11_removeIf_133 rfl ?_
                        refine j_ldc dX11_removeIf_135 kcX11_67 ?_
                        refine j_icmp_eq (tgt := 155) dX11_removeIf_137 (by decide) (fun c_137_200 => ?_) (fun c_137_200 => ?_)
                        · refine j_aload_n dX11_removeIf_155 rfl rfl ?_
                          refine j_callV (q := (RX11, TX11, 8)) dX11_removeIf_156 kX11_nine lX11_105 inX11_nine seX11_nine h8.m rfl (cm_nine hl w8 _ h8) (Nat.le_of_ble_eq_true rfl) ⟨(Nat.le_of_ble_eq_true rfl), (Nat.le_of_ble_eq_true rfl)⟩ rfl (Nat.le_of_ble_eq_true rfl) rfl rfl (fun _ _ h => h.elim) ?_
                          rintro _ w9 ⟨rfl, fm9, h9⟩
                          have R9 := R8.ni
                          refine j_iret dX11_removeIf_159 rfl rfl ?_ (Nat.le_of_ble_eq_true rfl) (Nat.le_of_ble_eq_true rfl)
                          refine cast (congrFun (congrFun hQ9 _) _) ?_
                          rw [sp_riN hq126] at he
                          try rw [ei94]
                          refine ⟨_, _, rfl, (((hfm.tr (fw7.fm (q := 59) (by omega))).tr (fw8.fm (q := 59) (by omega))).tr (fm9.le (q' := 59) (by decide))), h9, sp_X0 ?_ hth (by unfold sp_sftS; rw [← he]; exact R9) (by rw [← he]; rfl)⟩
                          (first | (refine sp_k22_0 ?_ ?_ <;> (first | assumption | (refine Or.inl ?_; assumption) | (refine Or.inr ?_; assumption) | (refine Or.inr (Or.inl ?_); assumption) | (refine Or.inr (Or.inr ?_); assumption) | (refine Or.inr (Or.inr (Or.inl ?_)); assumption) | (refine Or.inr (Or.inr (Or.inr ?_)); assumption) | (refine fun z => Or.elim z ?_ ?_ <;> assumption) | (refine fun z => Or.elim z ?_ (fun z => Or.elim z ?_ ?_) <;> assumption) | (refine fun z => Or.elim z ?_ (fun z => Or.elim z ?_ (fun z => Or.elim z ?_ ?_)) <;> assumption) | (refine fun z => Or.elim z (fun z9 => z9 ?_) ?_ <;> (first | assumption | (refine Or.inl ?_; assumption) | (refine Or.inr (Or.inl ?_); assumption) | (refine Or.inr (Or.inr ?_); assumption) | (refine Or.inr (Or.inr (Or.inl ?_)); assumption) | (refine Or.inr (Or.inr (Or.inr ?_)); assumption))) | (refine Or.inl (fun z => Or.elim z ?_ (fun z => Or.elim z ?_ ?_)) <;> assumption) | (refine Or.inl (fun z => Or.elim z ?_ (fun z => Or.elim z ?_ (fun z => Or.elim z ?_ ?_))) <;> assumption))))
                        · exact absurd c_137_200 (by decide)
                      · refine j_w w8 hw126 ?_
                        refine j_istore (lo' := [(6, _), (0, _), (1, _), (2, _), (3, _), (4, _), (5, _)]) dX11_removeIf_131 (by decide) rfl ?_
                        refine j_iload dX11_removeIf_133 rfl ?_
                        refine j_ldc dX11_removeIf_135 kcX11_67 ?_
                        refine j_icmp_eq (tgt := 155) dX11_removeIf_137 (by decide) (fun c_137_216 => ?_) (fun c_137_216 => ?_)
                        · exact absurd c_137_216 (by decide)
                        · refine j_iload dX11_removeIf_140 rfl ?_
                          refine j_iconst (v := 1) dX11_removeIf_142 (by decide) ?_
                          refine j_icmp_ne (tgt := 160) dX11_removeIf_143 (by decide) (fun c_143_220 => ?_) (fun c_143_220 => ?_)
                          · exact absurd c_143_220 (by decide)
                          · refine j_aload_n dX11_removeIf_146 rfl rfl ?_
                            refine j_getf dX11_removeIf_147 fX11_25 h8.m rfl ?_
                            refine j_iload_n dX11_removeIf_150 rfl ?_
                            refine j_zald dX11_removeIf_151 h8.fx (vp_in_nI (by omega) (by omega)) rfl ?_
                            rcases (Bool.eq_false_or_eq_true (sp_F S i94)) with hF151 | hF151
                            · refine j_top (congrArg Value.int (show _ = (1 : Int32) from by rw [z_cla (by omega), R8.f (by omega)]; show z_bi (sp_F S i94) = 1; rw [hF151]; rfl)) ?_
                              refine j_if_eq (tgt := 160) dX11_removeIf_152 (by decide) (fun c_152_228 => ?_) (fun c_152_228 => ?_)
                              · exact absurd c_152_228 (by decide)
                              · refine j_aload_n dX11_removeIf_155 rfl rfl ?_
                                refine j_callV (q := (RX11, TX11, 8)) dX11_removeIf_156 kX11_nine lX11_105 inX11_nine seX11_nine h8.m rfl (cm_nine hl w8 _ h8) (Nat.le_of_ble_eq_true rfl) ⟨(Nat.le_of_ble_eq_true rfl), (Nat.le_of_ble_eq_true rfl)⟩ rfl (Nat.le_of_ble_eq_true rfl) rfl rfl (fun _ _ h => h.elim) ?_
                                rintro _ w10 ⟨rfl, fm10, h10⟩
                                have R10 := R8.ni
                                refine j_iret dX11_removeIf_159 rfl rfl ?_ (Nat.le_of_ble_eq_true rfl) (Nat.le_of_ble_eq_true rfl)
                                refine cast (congrFun (congrFun hQ9 _) _) ?_
                                rw [hF151, sp_riF hq126] at he
                                try rw [ei94]
                                refine ⟨_, _, rfl, (((hfm.tr (fw7.fm (q := 59) (by omega))).tr (fw8.fm (q := 59) (by omega))).tr (fm10.le (q' := 59) (by decide))), h10, sp_X0 ?_ hth (by unfold sp_sftS; rw [← he]; exact R10) (by rw [← he]; rfl)⟩
                                (first | (refine sp_k22_0 ?_ ?_ <;> (first | assumption | (refine Or.inl ?_; assumption) | (refine Or.inr ?_; assumption) | (refine Or.inr (Or.inl ?_); assumption) | (refine Or.inr (Or.inr ?_); assumption) | (refine Or.inr (Or.inr (Or.inl ?_)); assumption) | (refine Or.inr (Or.inr (Or.inr ?_)); assumption) | (refine fun z => Or.elim z ?_ ?_ <;> assumption) | (refine fun z => Or.elim z ?_ (fun z => Or.elim z ?_ ?_) <;> assumption) | (refine fun z => Or.elim z ?_ (fun z => Or.elim z ?_ (fun z => Or.elim z ?_ ?_)) <;> assumption) | (refine fun z => Or.elim z (fun z9 => z9 ?_) ?_ <;> (first | assumption | (refine Or.inl ?_; assumption) | (refine Or.inr (Or.inl ?_); assumption) | (refine Or.inr (Or.inr ?_); assumption) | (refine Or.inr (Or.inr (Or.inl ?_)); assumption) | (refine Or.inr (Or.inr (Or.inr ?_)); assumption))) | (refine Or.inl (fun z => Or.elim z ?_ (fun z => Or.elim z ?_ ?_)) <;> assumption) | (refine Or.inl (fun z => Or.elim z ?_ (fun z => Or.elim z ?_ (fun z => Or.elim z ?_ ?_))) <;> assumption))))
                            · refine j_top (congrArg Value.int (show _ = (0 : Int32) from by rw [z_cla (by omega), R8.f (by omega)]; show z_bi (sp_F S i94) = 0; rw [hF151]; rfl)) ?_
                              refine j_if_eq (tgt := 160) dX11_removeIf_152 (by decide) (fun c_152_241 => ?_) (fun c_152_241 => ?_)
                              · refine j_iload dX11_removeIf_160 rfl ?_
                                refine j_iconst (v := 1) dX11_removeIf_162 (by decide) ?_
                                refine j_icmp_ne (tgt := 201) dX11_removeIf_163 (by decide) (fun c_163_244 => ?_) (fun c_163_244 => ?_)
                                · exact absurd c_163_244 (by decide)
                                · refine j_aload_n dX11_removeIf_166 rfl rfl ?_
                                  refine j_getf dX11_removeIf_167 fX11_21 h8.m rfl ?_
                                  refine j_iload_n dX11_removeIf_170 rfl ?_
                                  obtain ⟨lv128, -, lg128⟩ := z_li.cell h8.rows
                                  refine j_callV (q := (RJx4a65c, TJx4a65c, 3)) dX11_removeIf_171 kJx4a65c_get_915e3 lX11_82 inJx4a65c_get_915e3 seJx4a65c_get_915e3 lg128 rfl (cl_get hl w8 41 1001 _ _ (i94) _ h8.rows (z_two2 (i := i94) (by omega))) (Nat.le_of_ble_eq_true rfl) ⟨(Nat.le_of_ble_eq_true rfl), (Nat.le_of_ble_eq_true rfl)⟩ rfl (Nat.le_of_ble_eq_true rfl) rfl rfl (fun _ _ h => h.elim) ?_
                                  rintro _ _ ⟨rfl, hw129⟩
                                  refine j_w w8 hw129 ?_
                                  refine j_castS dX11_removeIf_174 (z_w 1341 ((lwg_6 96).trans (by decide +kernel)) (by decide +kernel)) (z_li.is (h8.rw (i := i94) (by omega)).1) ?_
                                  refine j_iload dX11_removeIf_177 rfl ?_
                                  obtain ⟨lv131, -, lg131⟩ := z_li.cell (h8.rw (i := i94) (by omega)).1
                                  refine j_callV (q := (RJx4a65c, TJx4a65c, 3)) dX11_removeIf_179 kJx4a65c_remove_915e3 lX11_96 inJx4a65c_remove_915e3 seJx4a65c_remove_915e3 lg131 rfl (cl_rem hl w8 _ _ _ _ (A.length) _ (h8.rw (i := i94) (by omega)).1 (z_bx_get (by rw [R8.wlB (by omega) z_fu_self]; omega)) h8.fn z_bx_el) (Nat.le_of_ble_eq_true rfl) ⟨(Nat.le_of_ble_eq_true rfl), (Nat.le_of_ble_eq_true rfl)⟩ rfl (Nat.le_of_ble_eq_true rfl) rfl rfl (fun _ _ h => h.elim) ?_
                                  rintro _ w11 ⟨rfl, fw11, mo11, hr11⟩
                                  rw [z_bx_rem] at hr11
                                  have fm11 := fw11.fm (q := 56) (by omega)
                                  have h11 := h8.li11 (i0 := i94) (by omega) fw11 hr11 (Nat.le_trans (List.eraseIdx_sublist ..).length_le (h8.rw (i := i94) (by omega)).2)
                                  have R11 := R8.uw (i := i94) (c := mo11) (R8.wrem (k := A.length) (by omega) z_fu_self)
                                  rw [sp_uRR] at R11
                                  rw [sp_mide] at R11
                                  refine j_pop dX11_removeIf_182 rfl ?_
                                  refine j_aload_n dX11_removeIf_183 rfl rfl ?_
                                  refine j_getf dX11_removeIf_184 fX11_31 h11.m rfl ?_
                                  refine j_iload_n dX11_removeIf_187 rfl ?_
                                  obtain ⟨fz132, gz132, hz132⟩ := h11.co
                                  refine j_aald (v := .ref (1004 + i94)) dX11_removeIf_188 gz132 rfl rfl (vp_in_nI (by omega) (by omega)) (by rw [z_cla (by omega)]; exact hz132 _ (by omega)) ?_
                                  refine j_iconst (v := 4) dX11_removeIf_189 (by decide) ?_
                                  refine j_dup2 dX11_removeIf_190 rfl rfl ?_
                                  refine j_ld dX11_removeIf_191 (h11.cn (i := i94) (by omega)) (vp_in_nI (n := 4) (by decide) (by decide)) ?_
                                  refine j_iconst (v := 1) dX11_removeIf_192 (by decide) ?_
                                  refine j_iadd dX11_removeIf_193 ?_
                                  refine j_sto (w' := _) dX11_removeIf_194 (h11.cn (i := i94) (by omega)) (vp_in_nI (n := 4) (by decide) (by decide)) rfl ?_
                                  refine j_seal (by omega) ?_
                                  intro w12 u12
                                  have fw12 := u12.fw (ρ := 44 + i94) (by omega) (by omega)
                                  have h12 := h11.up44 (i0 := i94) (by omega) fw12 u12.1
                                  rw [show (4 : Int32).toNatClampNeg = 4 by decide] at h12
                                  have R12 := R11.bpR (i := i94) (k := 4) (by omega) (by decide)
                                  refine j_iconst (v := 1) dX11_removeIf_195 (by decide) ?_
                                  refine j_istore (lo' := [(4, _), (6, _), (0, _), (1, _), (2, _), (3, _), (5, _)]) dX11_removeIf_196 (by decide) rfl ?_
                                  refine j_goto (tgt := 204) dX11_removeIf_198 (by decide) ?_
                                  refine j_goto (tgt := 61) dX11_removeIf_204 (by decide) ?_
                                  exact j_lo2 (ih w12 _ A L2 _ true A.length rfl (by rw [List.length_cons] at hf9; omega) sp_apl (by rw [hF151, sp_riT hq126] at he; rw [hF151]; exact he) R12 (by exact hth) h12 ((((hfm.tr (fw7.fm (q := 59) (by omega))).tr (fw8.fm (q := 59) (by omega))).tr (fm11.le (q' := 59) (by decide))).tr (fw12.fm (q := 59) (by omega)))) (z_q1 rfl (z_q1 rfl (z_q1 rfl (z_q1 rfl (z_q1 rfl (z_q1 rfl z_q0))))))
                              · exact absurd c_152_241 (by decide)
                      · refine j_w w8 hw126 ?_
                        refine j_istore (lo' := [(6, _), (0, _), (1, _), (2, _), (3, _), (4, _), (5, _)]) dX11_removeIf_131 (by decide) rfl ?_
                        refine j_iload dX11_removeIf_133 rfl ?_
                        refine j_ldc dX11_removeIf_135 kcX11_67 ?_
                        refine j_icmp_eq (tgt := 155) dX11_removeIf_137 (by decide) (fun c_137_292 => ?_) (fun c_137_292 => ?_)
                        · exact absurd c_137_292 (by decide)
                        · refine j_iload dX11_removeIf_140 rfl ?_
                          refine j_iconst (v := 1) dX11_removeIf_142 (by decide) ?_
                          refine j_icmp_ne (tgt := 160) dX11_removeIf_143 (by decide) (fun c_143_296 => ?_) (fun c_143_296 => ?_)
                          · refine j_iload dX11_removeIf_160 rfl ?_
                            refine j_iconst (v := 1) dX11_removeIf_162 (by decide) ?_
                            refine j_icmp_ne (tgt := 201) dX11_removeIf_163 (by decide) (fun c_163_299 => ?_) (fun c_163_299 => ?_)
                            · refine j_iinc (lo' := [(5, _), (6, _), (0, _), (1, _), (2, _), (3, _), (4, _)]) dX11_removeIf_201 rfl (z_inc _) (by decide) rfl ?_
                              refine j_goto (tgt := 61) dX11_removeIf_204 (by decide) ?_
                              exact j_lo2 (ih w8 _ (A ++ [x]) L2 _ k (A.length + 1) sp_apn (by rw [List.length_cons] at hf9; omega) sp_apl (by rw [sp_riO hq126 (by decide)] at he; exact he) (by rw [← sp_mid]; exact R8) (by exact hth) h8 ((hfm.tr (fw7.fm (q := 59) (by omega))).tr (fw8.fm (q := 59) (by omega)))) (z_q1 rfl (z_q1 rfl (z_q1 rfl (z_q1 rfl (z_q1 rfl (z_q1 rfl z_q0))))))
                            · exact absurd c_163_299 (by decide)
                          · exact absurd c_143_296 (by decide)
                exact j_lo2 (loop61 ((sp_R S i94).length + 1) w4 _ [] (sp_R S i94) _ false 0 (by exact rfl) (Nat.lt_succ_self _) sp_apl rfl (by rw [List.nil_append, show sp_uR (sp_uC S i94 (z_bp (sp_C S i94) 0)) i94 (sp_R S i94) = sp_uC S i94 (z_bp (sp_C S i94) 0) from sp_uR_id]; exact R4) (by exact rfl) h4 ((fm2.le (q' := 59) (by decide)).tr (fw4.fm (q := 59) (by omega)))) (z_q1 rfl (z_q1 rfl (z_q1 rfl (z_q1 rfl (z_q1 rfl (z_q1 rfl z_q0))))))
              · exact absurd c_38_62 (by decide)
            · exact absurd c_26_56 (by decide)
      · refine j_w w2 hw95 ?_
        refine j_if_eq (tgt := 29) dX11_removeIf_19 (by decide) (fun c_19_309 => ?_) (fun c_19_309 => ?_)
        · refine j_iconst (v := 1) dX11_removeIf_29 (by decide) ?_
          refine j_goto (tgt := 34) dX11_removeIf_30 (by decide) ?_
          refine j_iconst (v := 2) dX11_removeIf_34 (by decide) ?_
          refine j_callV (q := (RX11, TX11, 8)) dX11_removeIf_35 kX11_refuse lX11_52 inX11_refuse seX11_refuse h2.m rfl (cm_refuse1 hl w2 _ _ h2 rfl (by decide)) (Nat.le_of_ble_eq_true rfl) ⟨(Nat.le_of_ble_eq_true rfl), (Nat.le_of_ble_eq_true rfl)⟩ rfl (Nat.le_of_ble_eq_true rfl) rfl rfl (fun _ _ h => h.elim) ?_
          rintro _ w13 ⟨rfl, fm13, h13⟩
          have R13 := R2.th (k := 2)
          refine j_if_eq (tgt := 43) dX11_removeIf_38 (by decide) (fun c_38_316 => ?_) (fun c_38_316 => ?_)
          · exact absurd c_38_316 (by decide)
          · refine j_iconst (v := 0) dX11_removeIf_41 (by decide) ?_
            refine j_iret dX11_removeIf_42 rfl rfl ?_ (Nat.le_of_ble_eq_true rfl) (Nat.le_of_ble_eq_true rfl)
            refine cast (congrFun (congrFun hQ9 _) _) ?_
            try rw [ei94]
            refine ⟨_, _, rfl, ((fm2.le (q' := 59) (by decide)).tr (fm13.le (q' := 59) (by decide))), h13, sp_X1 (k := 2) ?_ (by decide) rfl R13⟩
            (first | (refine sp_k22_2 ?_ ?_ <;> (first | assumption | (refine Or.inl ?_; assumption) | (refine Or.inr ?_; assumption) | (refine Or.inr (Or.inl ?_); assumption) | (refine Or.inr (Or.inr ?_); assumption) | (refine Or.inr (Or.inr (Or.inl ?_)); assumption) | (refine Or.inr (Or.inr (Or.inr ?_)); assumption) | (refine fun z => Or.elim z ?_ ?_ <;> assumption) | (refine fun z => Or.elim z ?_ (fun z => Or.elim z ?_ ?_) <;> assumption) | (refine fun z => Or.elim z ?_ (fun z => Or.elim z ?_ (fun z => Or.elim z ?_ ?_)) <;> assumption) | (refine fun z => Or.elim z (fun z9 => z9 ?_) ?_ <;> (first | assumption | (refine Or.inl ?_; assumption) | (refine Or.inr (Or.inl ?_); assumption) | (refine Or.inr (Or.inr ?_); assumption) | (refine Or.inr (Or.inr (Or.inl ?_)); assumption) | (refine Or.inr (Or.inr (Or.inr ?_)); assumption))) | (refine Or.inl (fun z => Or.elim z ?_ (fun z => Or.elim z ?_ ?_)) <;> assumption) | (refine Or.inl (fun z => Or.elim z ?_ (fun z => Or.elim z ?_ (fun z => Or.elim z ?_ ?_))) <;> assumption))))
        · exact absurd c_19_309 (by decide)
set_option maxRecDepth 100000 in
set_option maxHeartbeats 8000000 in
theorem cx_replaceAll (hl : l.stackTraces = false) (w : z_W) (S : sp_S) (s : z_Z) (r : Int32) (u : Int32) (n : Int32) (h : z_mst w s) (R : sp_MR S s) (ok : sp_ok S) : z_Con G l mX11_replaceAll 22 12 12 w [.ref 1000, .int r, .int u, .int n] (fun v w9 => ∃ (r9 : Int32) (s9 : z_Z), v = some (.int r9) ∧ z_fm 59 w w9 ∧ z_mst w9 s9 ∧ s9.1.1 = q_k22 r (¬ (u = 0 ∨ u = 1 ∨ u = 4) ∨ sp_bv n) ∧ sp_MR (if q_k22 r (¬ (u = 0 ∨ u = 1 ∨ u = 4) ∨ sp_bv n) = 0 then sp_chgS S (sp_i r) u n else S) s9 ∧ (q_k22 r (¬ (u = 0 ∨ u = 1 ∨ u = 4) ∨ sp_bv n) = 0 → r9 = cond (sp_chg S (sp_i r) u n).1 (nI (sp_chg S (sp_i r) u n).2.2.length) (-9))) (fun _ _ => False) := by
  generalize hQ9 : (fun (v : Option Value) (w9 : z_W) => ∃ (r9 : Int32) (s9 : z_Z), v = some (.int r9) ∧ z_fm 59 w w9 ∧ z_mst w9 s9 ∧ s9.1.1 = q_k22 r (¬ (u = 0 ∨ u = 1 ∨ u = 4) ∨ sp_bv n) ∧ sp_MR (if q_k22 r (¬ (u = 0 ∨ u = 1 ∨ u = 4) ∨ sp_bv n) = 0 then sp_chgS S (sp_i r) u n else S) s9 ∧ (q_k22 r (¬ (u = 0 ∨ u = 1 ∨ u = 4) ∨ sp_bv n) = 0 → r9 = cond (sp_chg S (sp_i r) u n).1 (nI (sp_chg S (sp_i r) u n).2.2.length) (-9))) = Q9
  refine z_body hl (by decide) rfl (Nat.le_of_ble_eq_true rfl) ?_
  show z_J G l mX11_replaceAll _ 0 [(0, _), (1, _), (2, _), (3, _)] [] _ 0 0
  refine j_aload_n dX11_replaceAll_0 rfl rfl ?_
  refine j_iload_n dX11_replaceAll_1 rfl ?_
  refine j_callS dX11_replaceAll_2 kX11_isNoTwo lX11_72 stX11_isNoTwo (cm_isNoTwo_r hl w _) (Nat.le_of_ble_eq_true rfl) ⟨(by show _ ≤ 12; omega), (by show _ ≤ 12; omega)⟩ rfl (Nat.le_of_ble_eq_true rfl) rfl rfl (fun _ _ h => h.elim) ?_
  rintro _ _ ⟨⟨rfl, hno135⟩ | ⟨rfl, i135, hi135, ht135, rfl⟩, hw135⟩
  · refine j_w w hw135 ?_
    refine j_iconst (v := 1) dX11_replaceAll_5 (by decide) ?_
    refine j_callV (q := (RX11, TX11, 8)) dX11_replaceAll_6 kX11_start lX11_76 inX11_start seX11_start h.m rfl (cm_start1 hl w _ _ h (by decide)) (Nat.le_of_ble_eq_true rfl) ⟨(by show _ ≤ 12; omega), (by show _ ≤ 12; omega)⟩ rfl (Nat.le_of_ble_eq_true rfl) rfl rfl (fun _ _ h => h.elim) ?_
    rintro _ w1 ⟨rfl, fm1, h1⟩
    have R1 := R.th (k := 1)
    refine j_if_ne (tgt := 46) dX11_replaceAll_9 (by decide) (fun c_9_11 => ?_) (fun c_9_11 => ?_)
    · refine j_iconst (v := 0) dX11_replaceAll_46 (by decide) ?_
      refine j_iret dX11_replaceAll_47 rfl rfl ?_ (by show _ ≤ 12; omega) (by show _ ≤ 12; omega)
      refine cast (congrFun (congrFun hQ9 _) _) ?_
      refine ⟨_, _, rfl, (fm1.le (q' := 59) (by decide)), h1, sp_X1 (k := 1) ?_ (by decide) rfl R1⟩
      (first | (refine sp_k22_1 ?_ <;> (first | assumption | (refine Or.inl ?_; assumption) | (refine Or.inr ?_; assumption) | (refine Or.inr (Or.inl ?_); assumption) | (refine Or.inr (Or.inr ?_); assumption) | (refine Or.inr (Or.inr (Or.inl ?_)); assumption) | (refine Or.inr (Or.inr (Or.inr ?_)); assumption) | (refine fun z => Or.elim z ?_ ?_ <;> assumption) | (refine fun z => Or.elim z ?_ (fun z => Or.elim z ?_ ?_) <;> assumption) | (refine fun z => Or.elim z ?_ (fun z => Or.elim z ?_ (fun z => Or.elim z ?_ ?_)) <;> assumption) | (refine fun z => Or.elim z (fun z9 => z9 ?_) ?_ <;> (first | assumption | (refine Or.inl ?_; assumption) | (refine Or.inr (Or.inl ?_); assumption) | (refine Or.inr (Or.inr ?_); assumption) | (refine Or.inr (Or.inr (Or.inl ?_)); assumption) | (refine Or.inr (Or.inr (Or.inr ?_)); assumption))) | (refine Or.inl (fun z => Or.elim z ?_ (fun z => Or.elim z ?_ ?_)) <;> assumption) | (refine Or.inl (fun z => Or.elim z ?_ (fun z => Or.elim z ?_ (fun z => Or.elim z ?_ ?_))) <;> assumption))))
    · exact absurd c_9_11 (by decide)
  · refine j_w w hw135 ?_
    have ei135 : sp_i (nI i135) = i135 := sp_in' (by omega)
    refine j_iconst (v := 1) dX11_replaceAll_5 (by decide) ?_
    refine j_callV (q := (RX11, TX11, 8)) dX11_replaceAll_6 kX11_start lX11_76 inX11_start seX11_start h.m rfl (cm_start0 hl w _ _ h) (Nat.le_of_ble_eq_true rfl) ⟨(by show _ ≤ 12; omega), (by show _ ≤ 12; omega)⟩ rfl (Nat.le_of_ble_eq_true rfl) rfl rfl (fun _ _ h => h.elim) ?_
    rintro _ w2 ⟨rfl, fm2, h2⟩
    have R2 := R.th (k := 0)
    refine j_if_ne (tgt := 46) dX11_replaceAll_9 (by decide) (fun c_9_24 => ?_) (fun c_9_24 => ?_)
    · exact absurd c_9_24 (by decide)
    · refine j_aload_n dX11_replaceAll_12 rfl rfl ?_
      refine j_iload_n dX11_replaceAll_13 rfl ?_
      refine j_if_eq (tgt := 27) dX11_replaceAll_14 (by decide) (fun c_14_28 => ?_) (fun c_14_28 => ?_)
      · refine j_iload_n dX11_replaceAll_27 rfl ?_
        refine j_callS dX11_replaceAll_28 kX11_isNoValue lX11_79 stX11_isNoValue (cm_isNoValue_r hl w2 _) (Nat.le_of_ble_eq_true rfl) ⟨(by show _ ≤ 12; omega), (by show _ ≤ 12; omega)⟩ rfl (Nat.le_of_ble_eq_true rfl) rfl rfl (fun _ _ h => h.elim) ?_
        rintro _ _ ⟨⟨rfl, hno136⟩ | ⟨rfl, hye136⟩, hw136⟩
        · refine j_w w2 hw136 ?_
          refine j_if_eq (tgt := 38) dX11_replaceAll_31 (by decide) (fun c_31_33 => ?_) (fun c_31_33 => ?_)
          · exact absurd c_31_33 (by decide)
          · refine j_iconst (v := 1) dX11_replaceAll_34 (by decide) ?_
            refine j_goto (tgt := 39) dX11_replaceAll_35 (by decide) ?_
            refine j_iconst (v := 2) dX11_replaceAll_39 (by decide) ?_
            refine j_callV (q := (RX11, TX11, 8)) dX11_replaceAll_40 kX11_refuse lX11_52 inX11_refuse seX11_refuse h2.m rfl (cm_refuse1 hl w2 _ _ h2 rfl (by decide)) (Nat.le_of_ble_eq_true rfl) ⟨(by show _ ≤ 12; omega), (by show _ ≤ 12; omega)⟩ rfl (Nat.le_of_ble_eq_true rfl) rfl rfl (fun _ _ h => h.elim) ?_
            rintro _ w3 ⟨rfl, fm3, h3⟩
            have R3 := R2.th (k := 2)
            refine j_if_eq (tgt := 48) dX11_replaceAll_43 (by decide) (fun c_43_41 => ?_) (fun c_43_41 => ?_)
            · exact absurd c_43_41 (by decide)
            · refine j_iconst (v := 0) dX11_replaceAll_46 (by decide) ?_
              refine j_iret dX11_replaceAll_47 rfl rfl ?_ (by show _ ≤ 12; omega) (by show _ ≤ 12; omega)
              refine cast (congrFun (congrFun hQ9 _) _) ?_
              try rw [ei135]
              refine ⟨_, _, rfl, ((fm2.le (q' := 59) (by decide)).tr (fm3.le (q' := 59) (by decide))), h3, sp_X1 (k := 2) ?_ (by decide) rfl R3⟩
              (first | (refine sp_k22_2 ?_ ?_ <;> (first | assumption | (refine Or.inl ?_; assumption) | (refine Or.inr ?_; assumption) | (refine Or.inr (Or.inl ?_); assumption) | (refine Or.inr (Or.inr ?_); assumption) | (refine Or.inr (Or.inr (Or.inl ?_)); assumption) | (refine Or.inr (Or.inr (Or.inr ?_)); assumption) | (refine fun z => Or.elim z ?_ ?_ <;> assumption) | (refine fun z => Or.elim z ?_ (fun z => Or.elim z ?_ ?_) <;> assumption) | (refine fun z => Or.elim z ?_ (fun z => Or.elim z ?_ (fun z => Or.elim z ?_ ?_)) <;> assumption) | (refine fun z => Or.elim z (fun z9 => z9 ?_) ?_ <;> (first | assumption | (refine Or.inl ?_; assumption) | (refine Or.inr (Or.inl ?_); assumption) | (refine Or.inr (Or.inr ?_); assumption) | (refine Or.inr (Or.inr (Or.inl ?_)); assumption) | (refine Or.inr (Or.inr (Or.inr ?_)); assumption))) | (refine Or.inl (fun z => Or.elim z ?_ (fun z => Or.elim z ?_ ?_)) <;> assumption) | (refine Or.inl (fun z => Or.elim z ?_ (fun z => Or.elim z ?_ (fun z => Or.elim z ?_ ?_))) <;> assumption))))
        · refine j_w w2 hw136 ?_
          refine j_if_eq (tgt := 38) dX11_replaceAll_31 (by decide) (fun c_31_50 => ?_) (fun c_31_50 => ?_)
          · refine j_iconst (v := 0) dX11_replaceAll_38 (by decide) ?_
            refine j_iconst (v := 2) dX11_replaceAll_39 (by decide) ?_
            refine j_callV (q := (RX11, TX11, 8)) dX11_replaceAll_40 kX11_refuse lX11_52 inX11_refuse seX11_refuse h2.m rfl (cm_refuse0 hl w2 _ _ h2 rfl) (Nat.le_of_ble_eq_true rfl) ⟨(by show _ ≤ 12; omega), (by show _ ≤ 12; omega)⟩ rfl (Nat.le_of_ble_eq_true rfl) rfl rfl (fun _ _ h => h.elim) ?_
            rintro _ _ ⟨rfl, hw137⟩
            refine j_w w2 hw137 ?_
            refine j_if_eq (tgt := 48) dX11_replaceAll_43 (by decide) (fun c_43_56 => ?_) (fun c_43_56 => ?_)
            · refine j_aload_n dX11_replaceAll_48 rfl rfl ?_
              refine j_getf dX11_replaceAll_49 fX11_31 h2.m rfl ?_
              refine j_iload_n dX11_replaceAll_52 rfl ?_
              obtain ⟨fz138, gz138, hz138⟩ := h2.co
              refine j_aald (v := .ref (1004 + i135)) dX11_replaceAll_53 gz138 rfl rfl (vp_in_nI (by omega) (by omega)) (by rw [z_cla (by omega)]; exact hz138 _ (by omega)) ?_
              refine j_iconst (v := 0) dX11_replaceAll_54 (by decide) ?_
              refine j_dup2 dX11_replaceAll_55 rfl rfl ?_
              refine j_ld dX11_replaceAll_56 (h2.cn (i := i135) (by omega)) (vp_in_nI (n := 0) (by decide) (by decide)) ?_
              refine j_iconst (v := 1) dX11_replaceAll_57 (by decide) ?_
              refine j_iadd dX11_replaceAll_58 ?_
              refine j_sto (w' := _) dX11_replaceAll_59 (h2.cn (i := i135) (by omega)) (vp_in_nI (n := 0) (by decide) (by decide)) rfl ?_
              refine j_seal (by omega) ?_
              intro w4 u4
              have fw4 := u4.fw (ρ := 44 + i135) (by omega) (by omega)
              have h4 := h2.up44 (i0 := i135) (by omega) fw4 u4.1
              rw [show (0 : Int32).toNatClampNeg = 0 by decide] at h4
              have R4 := R2.bp (i := i135) (k := 0) (by omega) (by decide)
              refine j_iconst (v := 0) dX11_replaceAll_60 (by decide) ?_
              refine j_istore (lo' := [(4, _), (0, _), (1, _), (2, _), (3, _)]) dX11_replaceAll_61 (by decide) rfl ?_
              have hL12 : (sp_R S i135).length ≤ 12 := R.len12 h (by omega)
              have loop63 : ∀ (n9 : Nat) (w5 : z_W) (s1 : z_Z) (A L : List Int32) (c : Nat → Int32) (a : Nat), (a = A.length) → (L.length < n9) → (A.length ≤ (A ++ L).length) → (A.length + L.length ≤ 12) → (∀ x ∈ L, z_vl x) → (sp_ra (sp_F S i135) u n c A L = sp_chg S i135 u n) → (sp_MR (sp_uR (sp_uC S i135 c) i135 (A ++ L)) s1) → (s1.1.1 = 0) → (z_mst w5 s1) → (z_fm 59 w w5) → z_J G l mX11_replaceAll (22, 12, 12, w, Q9, (fun _ _ => False)) 63 [(0, .ref 1000), (1, .int (nI i135)), (2, .int u), (3, .int n), (4, .int (nI a))] [] w5 a a := by
                intro n9
                induction n9 with
                | zero => intro w5 s1 A L c a ha hf9 hAl hA hv he hR hth hm hfm; exact absurd hf9 (Nat.not_lt_zero _)
                | succ n9 ih =>
                  intro w5 s1 A L c a ha hf9 hAl hA hv he hR hth hm hfm
                  subst ha
                  refine j_iload dX11_replaceAll_63 rfl ?_
                  refine j_aload_n dX11_replaceAll_65 rfl rfl ?_
                  refine j_getf dX11_replaceAll_66 fX11_21 hm.m rfl ?_
                  refine j_iload_n dX11_replaceAll_69 rfl ?_
                  obtain ⟨lv142, -, lg142⟩ := z_li.cell hm.rows
                  refine j_callV (q := (RJx4a65c, TJx4a65c, 3)) dX11_replaceAll_70 kJx4a65c_get_915e3 lX11_82 inJx4a65c_get_915e3 seJx4a65c_get_915e3 lg142 rfl (cl_get hl w5 41 1001 _ _ (i135) _ hm.rows (z_two2 (i := i135) (by omega))) (Nat.le_of_ble_eq_true rfl) ⟨(by show _ ≤ 12; omega), (by show _ ≤ 12; omega)⟩ rfl (Nat.le_of_ble_eq_true rfl) rfl rfl (fun _ _ h => h.elim) ?_
                  rintro _ _ ⟨rfl, hw143⟩
                  refine j_w w5 hw143 ?_
                  refine j_castS dX11_replaceAll_73 (z_w 1341 ((lwg_6 96).trans (by decide +kernel)) (by decide +kernel)) (z_li.is (hm.rw (i := i135) (by omega)).1) ?_
                  obtain ⟨lv145, -, lg145⟩ := z_li.cell (hm.rw (i := i135) (by omega)).1
                  refine j_callV (q := (RJx4a65c, TJx4a65c, 3)) dX11_replaceAll_76 kJx4a65c_size_8abf5 lX11_86 inJx4a65c_size_8abf5 seJx4a65c_size_8abf5 lg145 rfl (cl_sizeW hl w5 (i135) ((A ++ L)) hm hR (by omega) z_fu_self) (Nat.le_of_ble_eq_true rfl) ⟨(by show _ ≤ 12; omega), (by show _ ≤ 12; omega)⟩ rfl (Nat.le_of_ble_eq_true rfl) rfl rfl (fun _ _ h => h.elim) ?_
                  rintro _ _ ⟨rfl, hw146⟩
                  refine j_w w5 hw146 ?_
                  have hz146 : ((A ++ L)).length ≤ 12 := hR.l12 hm (i := i135) (by omega) z_fu_self
                  refine j_icmp_ge (tgt := 197) dX11_replaceAll_79 (by decide) (fun c_79_98 => ?_) (fun c_79_98 => ?_)
                  · have hb79 : ((A ++ L)).length ≤ A.length := (nI_leI (a := ((A ++ L)).length) (b := A.length) (by omega) (by omega)).mp c_79_98
                    obtain rfl : L = [] := List.eq_nil_of_length_eq_zero (by have h9 := hb79; rw [List.length_append] at h9; omega)
                    refine j_aload_n dX11_replaceAll_197 rfl rfl ?_
                    refine j_getf dX11_replaceAll_198 fX11_31 hm.m rfl ?_
                    refine j_iload_n dX11_replaceAll_201 rfl ?_
                    obtain ⟨fz147, gz147, hz147⟩ := hm.co
                    refine j_aald (v := .ref (1004 + i135)) dX11_replaceAll_202 gz147 rfl rfl (vp_in_nI (by omega) (by omega)) (by rw [z_cla (by omega)]; exact hz147 _ (by omega)) ?_
                    refine j_iconst (v := 1) dX11_replaceAll_203 (by decide) ?_
                    refine j_dup2 dX11_replaceAll_204 rfl rfl ?_
                    refine j_ld dX11_replaceAll_205 (hm.cn (i := i135) (by omega)) (vp_in_nI (n := 1) (by decide) (by decide)) ?_
                    refine j_iconst (v := 1) dX11_replaceAll_206 (by decide) ?_
                    refine j_iadd dX11_replaceAll_207 ?_
                    refine j_sto (w' := _) dX11_replaceAll_208 (hm.cn (i := i135) (by omega)) (vp_in_nI (n := 1) (by decide) (by decide)) rfl ?_
                    refine j_seal (by omega) ?_
                    intro w6 u6
                    have fw6 := u6.fw (ρ := 44 + i135) (by omega) (by omega)
                    have h6 := hm.up44 (i0 := i135) (by omega) fw6 u6.1
                    rw [show (1 : Int32).toNatClampNeg = 1 by decide] at h6
                    have R6 := hR.bpR (i := i135) (k := 1) (by omega) (by decide)
                    refine j_aload_n dX11_replaceAll_209 rfl rfl ?_
                    refine j_getf dX11_replaceAll_210 fX11_21 h6.m rfl ?_
                    refine j_iload_n dX11_replaceAll_213 rfl ?_
                    obtain ⟨lv151, -, lg151⟩ := z_li.cell h6.rows
                    refine j_callV (q := (RJx4a65c, TJx4a65c, 3)) dX11_replaceAll_214 kJx4a65c_get_915e3 lX11_82 inJx4a65c_get_915e3 seJx4a65c_get_915e3 lg151 rfl (cl_get hl w6 41 1001 _ _ (i135) _ h6.rows (z_two2 (i := i135) (by omega))) (Nat.le_of_ble_eq_true rfl) ⟨(by show _ ≤ 12; omega), (by show _ ≤ 12; omega)⟩ rfl (Nat.le_of_ble_eq_true rfl) rfl rfl (fun _ _ h => h.elim) ?_
                    rintro _ _ ⟨rfl, hw152⟩
                    refine j_w w6 hw152 ?_
                    refine j_castS dX11_replaceAll_217 (z_w 1341 ((lwg_6 96).trans (by decide +kernel)) (by decide +kernel)) (z_li.is (h6.rw (i := i135) (by omega)).1) ?_
                    obtain ⟨lv154, -, lg154⟩ := z_li.cell (h6.rw (i := i135) (by omega)).1
                    refine j_callV (q := (RJx4a65c, TJx4a65c, 3)) dX11_replaceAll_220 kJx4a65c_size_8abf5 lX11_86 inJx4a65c_size_8abf5 seJx4a65c_size_8abf5 lg154 rfl (cl_sizeW hl w6 (i135) ((A ++ [])) h6 R6 (by omega) z_fu_self) (Nat.le_of_ble_eq_true rfl) ⟨(by show _ ≤ 12; omega), (by show _ ≤ 12; omega)⟩ rfl (Nat.le_of_ble_eq_true rfl) rfl rfl (fun _ _ h => h.elim) ?_
                    rintro _ _ ⟨rfl, hw155⟩
                    refine j_w w6 hw155 ?_
                    have hz155 : ((A ++ [])).length ≤ 12 := R6.l12 h6 (i := i135) (by omega) z_fu_self
                    refine j_iret dX11_replaceAll_223 rfl rfl ?_ (by show _ ≤ 12; omega) (by show _ ≤ 12; omega)
                    refine cast (congrFun (congrFun hQ9 _) _) ?_
                    rw [List.append_nil] at R6
                    try rw [ei135]
                    refine ⟨_, _, rfl, (hfm.tr (fw6.fm (q := 59) (by omega))), h6, sp_X0 ?_ hth (by unfold sp_chgS; rw [← he]; exact R6) (by rw [← he, List.append_nil]; rfl)⟩
                    (first | (refine sp_k22_0 ?_ ?_ <;> (first | assumption | (refine Or.inl ?_; assumption) | (refine Or.inr ?_; assumption) | (refine Or.inr (Or.inl ?_); assumption) | (refine Or.inr (Or.inr ?_); assumption) | (refine Or.inr (Or.inr (Or.inl ?_)); assumption) | (refine Or.inr (Or.inr (Or.inr ?_)); assumption) | (refine fun z => Or.elim z ?_ ?_ <;> assumption) | (refine fun z => Or.elim z ?_ (fun z => Or.elim z ?_ ?_) <;> assumption) | (refine fun z => Or.elim z ?_ (fun z => Or.elim z ?_ (fun z => Or.elim z ?_ ?_)) <;> assumption) | (refine fun z => Or.elim z (fun z9 => z9 ?_) ?_ <;> (first | assumption | (refine Or.inl ?_; assumption) | (refine Or.inr (Or.inl ?_); assumption) | (refine Or.inr (Or.inr ?_); assumption) | (refine Or.inr (Or.inr (Or.inl ?_)); assumption) | (refine Or.inr (Or.inr (Or.inr ?_)); assumption))) | (refine Or.inl (fun z => Or.elim z ?_ (fun z => Or.elim z ?_ ?_)) <;> assumption) | (refine Or.inl (fun z => Or.elim z ?_ (fun z => Or.elim z ?_ (fun z => Or.elim z ?_ ?_))) <;> assumption))))
                  · have hb79 : A.length < ((A ++ L)).length := Nat.not_le.mp (fun z => c_79_98 ((nI_leI (a := ((A ++ L)).length) (b := A.length) (by omega) (by omega)).mpr z))
                    obtain ⟨x, L2, rfl⟩ : ∃ x L2, L = x :: L2 := by
                      cases L with
                      | nil => rw [List.append_nil] at hb79; exact absurd hb79 (Nat.lt_irrefl _)
                      | cons x L2 => exact ⟨x, L2, rfl⟩
                    have hmid := sp_lmid (A := A) (D := L2) (v := x)
                    refine j_aload_n dX11_replaceAll_82 rfl rfl ?_
                    refine j_getf dX11_replaceAll_83 fX11_31 hm.m rfl ?_
                    refine j_iload_n dX11_replaceAll_86 rfl ?_
                    obtain ⟨fz156, gz156, hz156⟩ := hm.co
                    refine j_aald (v := .ref (1004 + i135)) dX11_replaceAll_87 gz156 rfl rfl (vp_in_nI (by omega) (by omega)) (by rw [z_cla (by omega)]; exact hz156 _ (by omega)) ?_
                    refine j_iconst (v := 1) dX11_replaceAll_88 (by decide) ?_
                    refine j_dup2 dX11_replaceAll_89 rfl rfl ?_
                    refine j_ld dX11_replaceAll_90 (hm.cn (i := i135) (by omega)) (vp_in_nI (n := 1) (by decide) (by decide)) ?_
                    refine j_iconst (v := 1) dX11_replaceAll_91 (by decide) ?_
                    refine j_iadd dX11_replaceAll_92 ?_
                    refine j_sto (w' := _) dX11_replaceAll_93 (hm.cn (i := i135) (by omega)) (vp_in_nI (n := 1) (by decide) (by decide)) rfl ?_
                    refine j_seal (by omega) ?_
                    intro w7 u7
                    have fw7 := u7.fw (ρ := 44 + i135) (by omega) (by omega)
                    have h7 := hm.up44 (i0 := i135) (by omega) fw7 u7.1
                    rw [show (1 : Int32).toNatClampNeg = 1 by decide] at h7
                    have R7 := hR.bpR (i := i135) (k := 1) (by omega) (by decide)
                    refine j_aload_n dX11_replaceAll_94 rfl rfl ?_
                    refine j_getf dX11_replaceAll_95 fX11_31 h7.m rfl ?_
                    refine j_iload_n dX11_replaceAll_98 rfl ?_
                    obtain ⟨fz159, gz159, hz159⟩ := h7.co
                    refine j_aald (v := .ref (1004 + i135)) dX11_replaceAll_99 gz159 rfl rfl (vp_in_nI (by omega) (by omega)) (by rw [z_cla (by omega)]; exact hz159 _ (by omega)) ?_
                    refine j_iconst (v := 2) dX11_replaceAll_100 (by decide) ?_
                    refine j_dup2 dX11_replaceAll_101 rfl rfl ?_
                    refine j_ld dX11_replaceAll_102 (h7.cn (i := i135) (by omega)) (vp_in_nI (n := 2) (by decide) (by decide)) ?_
                    refine j_iconst (v := 1) dX11_replaceAll_103 (by decide) ?_
                    refine j_iadd dX11_replaceAll_104 ?_
                    refine j_sto (w' := _) dX11_replaceAll_105 (h7.cn (i := i135) (by omega)) (vp_in_nI (n := 2) (by decide) (by decide)) rfl ?_
                    refine j_seal (by omega) ?_
                    intro w8 u8
                    have fw8 := u8.fw (ρ := 44 + i135) (by omega) (by omega)
                    have h8 := h7.up44 (i0 := i135) (by omega) fw8 u8.1
                    rw [show (2 : Int32).toNatClampNeg = 2 by decide] at h8
                    have R8 := R7.bpR (i := i135) (k := 2) (by omega) (by decide)
                    refine j_iload_n dX11_replaceAll_106 rfl ?_
                    refine j_iconst (v := 0) dX11_replaceAll_107 (by decide) ?_
                    refine j_aload_n dX11_replaceAll_108 rfl rfl ?_
                    refine j_getf dX11_replaceAll_109 fX11_21 h8.m rfl ?_
                    refine j_iload_n dX11_replaceAll_112 rfl ?_
                    obtain ⟨lv163, -, lg163⟩ := z_li.cell h8.rows
                    refine j_callV (q := (RJx4a65c, TJx4a65c, 3)) dX11_replaceAll_113 kJx4a65c_get_915e3 lX11_82 inJx4a65c_get_915e3 seJx4a65c_get_915e3 lg163 rfl (cl_get hl w8 41 1001 _ _ (i135) _ h8.rows (z_two2 (i := i135) (by omega))) (Nat.le_of_ble_eq_true rfl) ⟨(by show _ ≤ 12; omega), (by show _ ≤ 12; omega)⟩ rfl (Nat.le_of_ble_eq_true rfl) rfl rfl (fun _ _ h => h.elim) ?_
                    rintro _ _ ⟨rfl, hw164⟩
                    refine j_w w8 hw164 ?_
                    refine j_castS dX11_replaceAll_116 (z_w 1341 ((lwg_6 96).trans (by decide +kernel)) (by decide +kernel)) (z_li.is (h8.rw (i := i135) (by omega)).1) ?_
                    refine j_iload dX11_replaceAll_119 rfl ?_
                    obtain ⟨lv167, -, lg167⟩ := z_li.cell (h8.rw (i := i135) (by omega)).1
                    refine j_callV (q := (RJx4a65c, TJx4a65c, 3)) dX11_replaceAll_121 kJx4a65c_get_915e3 lX11_82 inJx4a65c_get_915e3 seJx4a65c_get_915e3 lg167 rfl (cl_getW hl w8 (i135) (A.length) ((A ++ x :: L2)) x h8 R8 (by omega) z_fu_self sp_mid?) (Nat.le_of_ble_eq_true rfl) ⟨(by show _ ≤ 12; omega), (by show _ ≤ 12; omega)⟩ rfl (Nat.le_of_ble_eq_true rfl) rfl rfl (fun _ _ h => h.elim) ?_
                    rintro _ _ ⟨rfl, hw168⟩
                    refine j_w w8 hw168 ?_
                    refine j_castS dX11_replaceAll_124 (z_w 1567 ((lwg_7 82).trans (by decide +kernel)) (by decide +kernel)) rfl ?_
                    refine j_callVB (v0 := .float _) (C := "java/lang/Integer") dX11_replaceAll_127 kJ6_intValue_8abf5 lX11_99 inJ6_intValue_8abf5 seJ6_intValue_8abf5 rfl (c_intv hl w8 x) (Nat.le_of_ble_eq_true rfl) ⟨(by show _ ≤ 12; omega), (by show _ ≤ 12; omega)⟩ rfl (Nat.le_of_ble_eq_true rfl) rfl rfl (fun _ _ h => h.elim) ?_
                    rintro _ _ ⟨rfl, hw170⟩
                    refine j_w w8 hw170 ?_
                    refine j_iload_n dX11_replaceAll_130 rfl ?_
                    refine j_callS dX11_replaceAll_131 kX11_rule lX11_115 stX11_rule (cm_rule_r hl w8 _ _ _ _ (hv _ List.mem_cons_self).2 (sp_vl (by assumption)).2) (Nat.le_of_ble_eq_true rfl) ⟨(by show _ ≤ 12; omega), (by show _ ≤ 12; omega)⟩ rfl (Nat.le_of_ble_eq_true rfl) rfl rfl (fun _ _ h => h.elim) ?_
                    rintro _ _ ⟨⟨rfl, hq171⟩ | ⟨y171, rfl, hq171, hne171⟩, hw171⟩
                    · refine j_w w8 hw171 ?_
                      refine j_istore (lo' := [(5, _), (0, _), (1, _), (2, _), (3, _), (4, _)]) dX11_replaceAll_134 (by decide) rfl ?_
                      refine j_iload dX11_replaceAll_136 rfl ?_
                      refine j_ldc dX11_replaceAll_138 kcX11_67 ?_
                      refine j_icmp_eq (tgt := 152) dX11_replaceAll_140 (by decide) (fun c_140_203 => ?_) (fun c_140_203 => ?_)
                      · refine j_aload_n dX11_replaceAll_152 rfl rfl ?_
                        refine j_callV (q := (RX11, TX11, 8)) dX11_replaceAll_153 kX11_nine lX11_105 inX11_nine seX11_nine h8.m rfl (cm_nine hl w8 _ h8) (Nat.le_of_ble_eq_true rfl) ⟨(by show _ ≤ 12; omega), (by show _ ≤ 12; omega)⟩ rfl (Nat.le_of_ble_eq_true rfl) rfl rfl (fun _ _ h => h.elim) ?_
                        rintro _ w9 ⟨rfl, fm9, h9⟩
                        have R9 := R8.ni
                        refine j_iret dX11_replaceAll_156 rfl rfl ?_ (by show _ ≤ 12; omega) (by show _ ≤ 12; omega)
                        refine cast (congrFun (congrFun hQ9 _) _) ?_
                        rw [sp_raN hq171] at he
                        try rw [ei135]
                        refine ⟨_, _, rfl, (((hfm.tr (fw7.fm (q := 59) (by omega))).tr (fw8.fm (q := 59) (by omega))).tr (fm9.le (q' := 59) (by decide))), h9, sp_X0 ?_ hth (by unfold sp_chgS; rw [← he]; exact R9) (by rw [← he]; rfl)⟩
                        (first | (refine sp_k22_0 ?_ ?_ <;> (first | assumption | (refine Or.inl ?_; assumption) | (refine Or.inr ?_; assumption) | (refine Or.inr (Or.inl ?_); assumption) | (refine Or.inr (Or.inr ?_); assumption) | (refine Or.inr (Or.inr (Or.inl ?_)); assumption) | (refine Or.inr (Or.inr (Or.inr ?_)); assumption) | (refine fun z => Or.elim z ?_ ?_ <;> assumption) | (refine fun z => Or.elim z ?_ (fun z => Or.elim z ?_ ?_) <;> assumption) | (refine fun z => Or.elim z ?_ (fun z => Or.elim z ?_ (fun z => Or.elim z ?_ ?_)) <;> assumption) | (refine fun z => Or.elim z (fun z9 => z9 ?_) ?_ <;> (first | assumption | (refine Or.inl ?_; assumption) | (refine Or.inr (Or.inl ?_); assumption) | (refine Or.inr (Or.inr ?_); assumption) | (refine Or.inr (Or.inr (Or.inl ?_)); assumption) | (refine Or.inr (Or.inr (Or.inr ?_)); assumption))) | (refine Or.inl (fun z => Or.elim z ?_ (fun z => Or.elim z ?_ ?_)) <;> assumption) | (refine Or.inl (fun z => Or.elim z ?_ (fun z => Or.elim z ?_ (fun z => Or.elim z ?_ ?_))) <;> assumption))))
                      · exact absurd c_140_203 (by decide)
                    · refine j_w w8 hw171 ?_
                      refine j_istore (lo' := [(5, _), (0, _), (1, _), (2, _), (3, _), (4, _)]) dX11_replaceAll_134 (by decide) rfl ?_
                      refine j_iload dX11_replaceAll_136 rfl ?_
                      refine j_ldc dX11_replaceAll_138 kcX11_67 ?_
                      refine j_icmp_eq (tgt := 152) dX11_replaceAll_140 (by decide) (fun c_140_219 => ?_) (fun c_140_219 => ?_)
                      · exact absurd c_140_219 hne171
                      · refine j_aload_n dX11_replaceAll_143 rfl rfl ?_
                        refine j_getf dX11_replaceAll_144 fX11_25 h8.m rfl ?_
                        refine j_iload_n dX11_replaceAll_147 rfl ?_
                        refine j_zald dX11_replaceAll_148 h8.fx (vp_in_nI (by omega) (by omega)) rfl ?_
                        rcases (Bool.eq_false_or_eq_true (sp_F S i135)) with hF148 | hF148
                        · refine j_top (congrArg Value.int (show _ = (1 : Int32) from by rw [z_cla (by omega), R8.f (by omega)]; show z_bi (sp_F S i135) = 1; rw [hF148]; rfl)) ?_
                          refine j_if_eq (tgt := 157) dX11_replaceAll_149 (by decide) (fun c_149_227 => ?_) (fun c_149_227 => ?_)
                          · exact absurd c_149_227 (by decide)
                          · refine j_aload_n dX11_replaceAll_152 rfl rfl ?_
                            refine j_callV (q := (RX11, TX11, 8)) dX11_replaceAll_153 kX11_nine lX11_105 inX11_nine seX11_nine h8.m rfl (cm_nine hl w8 _ h8) (Nat.le_of_ble_eq_true rfl) ⟨(by show _ ≤ 12; omega), (by show _ ≤ 12; omega)⟩ rfl (Nat.le_of_ble_eq_true rfl) rfl rfl (fun _ _ h => h.elim) ?_
                            rintro _ w10 ⟨rfl, fm10, h10⟩
                            have R10 := R8.ni
                            refine j_iret dX11_replaceAll_156 rfl rfl ?_ (by show _ ≤ 12; omega) (by show _ ≤ 12; omega)
                            refine cast (congrFun (congrFun hQ9 _) _) ?_
                            rw [hF148, sp_raF hq171] at he
                            try rw [ei135]
                            refine ⟨_, _, rfl, (((hfm.tr (fw7.fm (q := 59) (by omega))).tr (fw8.fm (q := 59) (by omega))).tr (fm10.le (q' := 59) (by decide))), h10, sp_X0 ?_ hth (by unfold sp_chgS; rw [← he]; exact R10) (by rw [← he]; rfl)⟩
                            (first | (refine sp_k22_0 ?_ ?_ <;> (first | assumption | (refine Or.inl ?_; assumption) | (refine Or.inr ?_; assumption) | (refine Or.inr (Or.inl ?_); assumption) | (refine Or.inr (Or.inr ?_); assumption) | (refine Or.inr (Or.inr (Or.inl ?_)); assumption) | (refine Or.inr (Or.inr (Or.inr ?_)); assumption) | (refine fun z => Or.elim z ?_ ?_ <;> assumption) | (refine fun z => Or.elim z ?_ (fun z => Or.elim z ?_ ?_) <;> assumption) | (refine fun z => Or.elim z ?_ (fun z => Or.elim z ?_ (fun z => Or.elim z ?_ ?_)) <;> assumption) | (refine fun z => Or.elim z (fun z9 => z9 ?_) ?_ <;> (first | assumption | (refine Or.inl ?_; assumption) | (refine Or.inr (Or.inl ?_); assumption) | (refine Or.inr (Or.inr ?_); assumption) | (refine Or.inr (Or.inr (Or.inl ?_)); assumption) | (refine Or.inr (Or.inr (Or.inr ?_)); assumption))) | (refine Or.inl (fun z => Or.elim z ?_ (fun z => Or.elim z ?_ ?_)) <;> assumption) | (refine Or.inl (fun z => Or.elim z ?_ (fun z => Or.elim z ?_ (fun z => Or.elim z ?_ ?_))) <;> assumption))))
                        · refine j_top (congrArg Value.int (show _ = (0 : Int32) from by rw [z_cla (by omega), R8.f (by omega)]; show z_bi (sp_F S i135) = 0; rw [hF148]; rfl)) ?_
                          refine j_if_eq (tgt := 157) dX11_replaceAll_149 (by decide) (fun c_149_240 => ?_) (fun c_149_240 => ?_)
                          · refine j_aload_n dX11_replaceAll_157 rfl rfl ?_
                            refine j_getf dX11_replaceAll_158 fX11_21 h8.m rfl ?_
                            refine j_iload_n dX11_replaceAll_161 rfl ?_
                            obtain ⟨lv173, -, lg173⟩ := z_li.cell h8.rows
                            refine j_callV (q := (RJx4a65c, TJx4a65c, 3)) dX11_replaceAll_162 kJx4a65c_get_915e3 lX11_82 inJx4a65c_get_915e3 seJx4a65c_get_915e3 lg173 rfl (cl_get hl w8 41 1001 _ _ (i135) _ h8.rows (z_two2 (i := i135) (by omega))) (Nat.le_of_ble_eq_true rfl) ⟨(by show _ ≤ 12; omega), (by show _ ≤ 12; omega)⟩ rfl (Nat.le_of_ble_eq_true rfl) rfl rfl (fun _ _ h => h.elim) ?_
                            rintro _ _ ⟨rfl, hw174⟩
                            refine j_w w8 hw174 ?_
                            refine j_castS dX11_replaceAll_165 (z_w 1341 ((lwg_6 96).trans (by decide +kernel)) (by decide +kernel)) (z_li.is (h8.rw (i := i135) (by omega)).1) ?_
                            refine j_iload dX11_replaceAll_168 rfl ?_
                            refine j_iload dX11_replaceAll_170 rfl ?_
                            refine j_callS dX11_replaceAll_172 kJ6_valueOf_2dffe lX11_90 stJ6_valueOf_2dffe (cl_val hl w8 _) (Nat.le_of_ble_eq_true rfl) ⟨(by show _ ≤ 12; omega), (by show _ ≤ 12; omega)⟩ rfl (Nat.le_of_ble_eq_true rfl) rfl rfl (fun _ _ h => h.elim) ?_
                            rintro _ _ ⟨rfl, hw176⟩
                            refine j_w w8 hw176 ?_
                            obtain ⟨lv177, -, lg177⟩ := z_li.cell (h8.rw (i := i135) (by omega)).1
                            refine j_callV (q := (RJx4a65c, TJx4a65c, 3)) dX11_replaceAll_175 kJx4a65c_set_bcc79 lX11_119 inJx4a65c_set_bcc79 seJx4a65c_set_bcc79 lg177 rfl (cl_set hl w8 _ _ _ _ (A.length) _ _ (h8.rw (i := i135) (by omega)).1 (z_bx_get (by rw [R8.wlB (by omega) z_fu_self]; omega)) z_elF) (Nat.le_of_ble_eq_true rfl) ⟨(by show _ ≤ 12; omega), (by show _ ≤ 12; omega)⟩ rfl (Nat.le_of_ble_eq_true rfl) rfl rfl (fun _ _ h => h.elim) ?_
                            rintro _ w11 ⟨rfl, fw11, hr11⟩
                            rw [z_bx_set] at hr11
                            have fm11 := fw11.fm (q := 56) (by omega)
                            have h11 := h8.li11 (i0 := i135) (by omega) fw11 hr11 (by rw [List.length_set]; exact (h8.rw (i := i135) (by omega)).2)
                            have R11 := R8.uwm h11 (R8.wset (k := A.length) (x := y171) (by omega) z_fu_self)
                            rw [sp_uRR, sp_mids] at R11
                            refine j_pop dX11_replaceAll_178 rfl ?_
                            refine j_aload_n dX11_replaceAll_179 rfl rfl ?_
                            refine j_getf dX11_replaceAll_180 fX11_31 h11.m rfl ?_
                            refine j_iload_n dX11_replaceAll_183 rfl ?_
                            obtain ⟨fz178, gz178, hz178⟩ := h11.co
                            refine j_aald (v := .ref (1004 + i135)) dX11_replaceAll_184 gz178 rfl rfl (vp_in_nI (by omega) (by omega)) (by rw [z_cla (by omega)]; exact hz178 _ (by omega)) ?_
                            refine j_iconst (v := 3) dX11_replaceAll_185 (by decide) ?_
                            refine j_dup2 dX11_replaceAll_186 rfl rfl ?_
                            refine j_ld dX11_replaceAll_187 (h11.cn (i := i135) (by omega)) (vp_in_nI (n := 3) (by decide) (by decide)) ?_
                            refine j_iconst (v := 1) dX11_replaceAll_188 (by decide) ?_
                            refine j_iadd dX11_replaceAll_189 ?_
                            refine j_sto (w' := _) dX11_replaceAll_190 (h11.cn (i := i135) (by omega)) (vp_in_nI (n := 3) (by decide) (by decide)) rfl ?_
                            refine j_seal (by omega) ?_
                            intro w12 u12
                            have fw12 := u12.fw (ρ := 44 + i135) (by omega) (by omega)
                            have h12 := h11.up44 (i0 := i135) (by omega) fw12 u12.1
                            rw [show (3 : Int32).toNatClampNeg = 3 by decide] at h12
                            have R12 := R11.bpR (i := i135) (k := 3) (by omega) (by decide)
                            refine j_iinc (lo' := [(4, _), (5, _), (0, _), (1, _), (2, _), (3, _)]) dX11_replaceAll_191 rfl (z_inc _) (by decide) rfl ?_
                            refine j_goto (tgt := 63) dX11_replaceAll_194 (by decide) ?_
                            refine j_widen (kc' := (A.length + 1)) (ks' := (A.length + 1)) (by omega) (by omega) ?_
                            exact j_lo2 (ih w12 _ (A ++ [y171]) L2 _ (A.length + 1) sp_apn (by rw [List.length_cons] at hf9; omega) sp_apl (by rw [List.length_cons] at hA; rw [List.length_append]; show A.length + 1 + _ ≤ 12; omega) (fun x hx => hv x (List.mem_cons_of_mem _ hx)) (by rw [hF148, sp_raT hq171] at he; rw [hF148]; exact he) (by rw [← sp_mid]; exact R12) (by exact hth) h12 ((((hfm.tr (fw7.fm (q := 59) (by omega))).tr (fw8.fm (q := 59) (by omega))).tr (fm11.le (q' := 59) (by decide))).tr (fw12.fm (q := 59) (by omega)))) (z_q1 rfl (z_q1 rfl (z_q1 rfl (z_q1 rfl (z_q1 rfl z_q0)))))
                          · exact absurd c_149_240 (by decide)
              refine j_widen (kc' := 0) (ks' := 0) (by omega) (by omega) ?_
              exact j_lo2 (loop63 ((sp_R S i135).length + 1) w4 _ [] (sp_R S i135) _ 0 (by exact rfl) (Nat.lt_succ_self _) sp_apl (by rw [List.length_nil]; omega) (fun x hx => (ok.1 i135 (by omega)).2 x hx) rfl (by rw [List.nil_append, show sp_uR (sp_uC S i135 (z_bp (sp_C S i135) 0)) i135 (sp_R S i135) = sp_uC S i135 (z_bp (sp_C S i135) 0) from sp_uR_id]; exact R4) (by exact rfl) h4 ((fm2.le (q' := 59) (by decide)).tr (fw4.fm (q := 59) (by omega)))) (z_q1 rfl (z_q1 rfl (z_q1 rfl (z_q1 rfl (z_q1 rfl z_q0)))))
            · exact absurd c_43_56 (by decide)
          · exact absurd c_31_50 (by decide)
      · refine j_iload_n dX11_replaceAll_17 rfl ?_
        refine j_iconst (v := 1) dX11_replaceAll_18 (by decide) ?_
        refine j_icmp_eq (tgt := 27) dX11_replaceAll_19 (by decide) (fun c_19_291 => ?_) (fun c_19_291 => ?_)
        · refine j_iload_n dX11_replaceAll_27 rfl ?_
          refine j_callS dX11_replaceAll_28 kX11_isNoValue lX11_79 stX11_isNoValue (cm_isNoValue_r hl w2 _) (Nat.le_of_ble_eq_true rfl) ⟨(by show _ ≤ 12; omega), (by show _ ≤ 12; omega)⟩ rfl (Nat.le_of_ble_eq_true rfl) rfl rfl (fun _ _ h => h.elim) ?_
          rintro _ _ ⟨⟨rfl, hno181⟩ | ⟨rfl, hye181⟩, hw181⟩
          · refine j_w w2 hw181 ?_
            refine j_if_eq (tgt := 38) dX11_replaceAll_31 (by decide) (fun c_31_296 => ?_) (fun c_31_296 => ?_)
            · exact absurd c_31_296 (by decide)
            · refine j_iconst (v := 1) dX11_replaceAll_34 (by decide) ?_
              refine j_goto (tgt := 39) dX11_replaceAll_35 (by decide) ?_
              refine j_iconst (v := 2) dX11_replaceAll_39 (by decide) ?_
              refine j_callV (q := (RX11, TX11, 8)) dX11_replaceAll_40 kX11_refuse lX11_52 inX11_refuse seX11_refuse h2.m rfl (cm_refuse1 hl w2 _ _ h2 rfl (by decide)) (Nat.le_of_ble_eq_true rfl) ⟨(by show _ ≤ 12; omega), (by show _ ≤ 12; omega)⟩ rfl (Nat.le_of_ble_eq_true rfl) rfl rfl (fun _ _ h => h.elim) ?_
              rintro _ w13 ⟨rfl, fm13, h13⟩
              have R13 := R2.th (k := 2)
              refine j_if_eq (tgt := 48) dX11_replaceAll_43 (by decide) (fun c_43_304 => ?_) (fun c_43_304 => ?_)
              · exact absurd c_43_304 (by decide)
              · refine j_iconst (v := 0) dX11_replaceAll_46 (by decide) ?_
                refine j_iret dX11_replaceAll_47 rfl rfl ?_ (by show _ ≤ 12; omega) (by show _ ≤ 12; omega)
                refine cast (congrFun (congrFun hQ9 _) _) ?_
                try rw [ei135]
                refine ⟨_, _, rfl, ((fm2.le (q' := 59) (by decide)).tr (fm13.le (q' := 59) (by decide))), h13, sp_X1 (k := 2) ?_ (by decide) rfl R13⟩
                (first | (refine sp_k22_2 ?_ ?_ <;> (first | assumption | (refine Or.inl ?_; assumption) | (refine Or.inr ?_; assumption) | (refine Or.inr (Or.inl ?_); assumption) | (refine Or.inr (Or.inr ?_); assumption) | (refine Or.inr (Or.inr (Or.inl ?_)); assumption) | (refine Or.inr (Or.inr (Or.inr ?_)); assumption) | (refine fun z => Or.elim z ?_ ?_ <;> assumption) | (refine fun z => Or.elim z ?_ (fun z => Or.elim z ?_ ?_) <;> assumption) | (refine fun z => Or.elim z ?_ (fun z => Or.elim z ?_ (fun z => Or.elim z ?_ ?_)) <;> assumption) | (refine fun z => Or.elim z (fun z9 => z9 ?_) ?_ <;> (first | assumption | (refine Or.inl ?_; assumption) | (refine Or.inr (Or.inl ?_); assumption) | (refine Or.inr (Or.inr ?_); assumption) | (refine Or.inr (Or.inr (Or.inl ?_)); assumption) | (refine Or.inr (Or.inr (Or.inr ?_)); assumption))) | (refine Or.inl (fun z => Or.elim z ?_ (fun z => Or.elim z ?_ ?_)) <;> assumption) | (refine Or.inl (fun z => Or.elim z ?_ (fun z => Or.elim z ?_ (fun z => Or.elim z ?_ ?_))) <;> assumption))))
          · refine j_w w2 hw181 ?_
            refine j_if_eq (tgt := 38) dX11_replaceAll_31 (by decide) (fun c_31_313 => ?_) (fun c_31_313 => ?_)
            · refine j_iconst (v := 0) dX11_replaceAll_38 (by decide) ?_
              refine j_iconst (v := 2) dX11_replaceAll_39 (by decide) ?_
              refine j_callV (q := (RX11, TX11, 8)) dX11_replaceAll_40 kX11_refuse lX11_52 inX11_refuse seX11_refuse h2.m rfl (cm_refuse0 hl w2 _ _ h2 rfl) (Nat.le_of_ble_eq_true rfl) ⟨(by show _ ≤ 12; omega), (by show _ ≤ 12; omega)⟩ rfl (Nat.le_of_ble_eq_true rfl) rfl rfl (fun _ _ h => h.elim) ?_
              rintro _ _ ⟨rfl, hw182⟩
              refine j_w w2 hw182 ?_
              refine j_if_eq (tgt := 48) dX11_replaceAll_43 (by decide) (fun c_43_319 => ?_) (fun c_43_319 => ?_)
              · refine j_aload_n dX11_replaceAll_48 rfl rfl ?_
                refine j_getf dX11_replaceAll_49 fX11_31 h2.m rfl ?_
                refine j_iload_n dX11_replaceAll_52 rfl ?_
                obtain ⟨fz183, gz183, hz183⟩ := h2.co
                refine j_aald (v := .ref (1004 + i135)) dX11_replaceAll_53 gz183 rfl rfl (vp_in_nI (by omega) (by omega)) (by rw [z_cla (by omega)]; exact hz183 _ (by omega)) ?_
                refine j_iconst (v := 0) dX11_replaceAll_54 (by decide) ?_
                refine j_dup2 dX11_replaceAll_55 rfl rfl ?_
                refine j_ld dX11_replaceAll_56 (h2.cn (i := i135) (by omega)) (vp_in_nI (n := 0) (by decide) (by decide)) ?_
                refine j_iconst (v := 1) dX11_replaceAll_57 (by decide) ?_
                refine j_iadd dX11_replaceAll_58 ?_
                refine j_sto (w' := _) dX11_replaceAll_59 (h2.cn (i := i135) (by omega)) (vp_in_nI (n := 0) (by decide) (by decide)) rfl ?_
                refine j_seal (by omega) ?_
                intro w14 u14
                have fw14 := u14.fw (ρ := 44 + i135) (by omega) (by omega)
                have h14 := h2.up44 (i0 := i135) (by omega) fw14 u14.1
                rw [show (0 : Int32).toNatClampNeg = 0 by decide] at h14
                have R14 := R2.bp (i := i135) (k := 0) (by omega) (by decide)
                refine j_iconst (v := 0) dX11_replaceAll_60 (by decide) ?_
                refine j_istore (lo' := [(4, _), (0, _), (1, _), (2, _), (3, _)]) dX11_replaceAll_61 (by decide) rfl ?_
                have hL12 : (sp_R S i135).length ≤ 12 := R.len12 h (by omega)
                have loop63 : ∀ (n9 : Nat) (w15 : z_W) (s1 : z_Z) (A L : List Int32) (c : Nat → Int32) (a : Nat), (a = A.length) → (L.length < n9) → (A.length ≤ (A ++ L).length) → (A.length + L.length ≤ 12) → (∀ x ∈ L, z_vl x) → (sp_ra (sp_F S i135) u n c A L = sp_chg S i135 u n) → (sp_MR (sp_uR (sp_uC S i135 c) i135 (A ++ L)) s1) → (s1.1.1 = 0) → (z_mst w15 s1) → (z_fm 59 w w15) → z_J G l mX11_replaceAll (22, 12, 12, w, Q9, (fun _ _ => False)) 63 [(0, .ref 1000), (1, .int (nI i135)), (2, .int u), (3, .int n), (4, .int (nI a))] [] w15 a a := by
                  intro n9
                  induction n9 with
                  | zero => intro w15 s1 A L c a ha hf9 hAl hA hv he hR hth hm hfm; exact absurd hf9 (Nat.not_lt_zero _)
                  | succ n9 ih =>
                    intro w15 s1 A L c a ha hf9 hAl hA hv he hR hth hm hfm
                    subst ha
                    refine j_iload dX11_replaceAll_63 rfl ?_
                    refine j_aload_n dX11_replaceAll_65 rfl rfl ?_
                    refine j_getf dX11_replaceAll_66 fX11_21 hm.m rfl ?_
                    refine j_iload_n dX11_replaceAll_69 rfl ?_
                    obtain ⟨lv187, -, lg187⟩ := z_li.cell hm.rows
                    refine j_callV (q := (RJx4a65c, TJx4a65c, 3)) dX11_replaceAll_70 kJx4a65c_get_915e3 lX11_82 inJx4a65c_get_915e3 seJx4a65c_get_915e3 lg187 rfl (cl_get hl w15 41 1001 _ _ (i135) _ hm.rows (z_two2 (i := i135) (by omega))) (Nat.le_of_ble_eq_true rfl) ⟨(by show _ ≤ 12; omega), (by show _ ≤ 12; omega)⟩ rfl (Nat.le_of_ble_eq_true rfl) rfl rfl (fun _ _ h => h.elim) ?_
                    rintro _ _ ⟨rfl, hw188⟩
                    refine j_w w15 hw188 ?_
                    refine j_castS dX11_replaceAll_73 (z_w 1341 ((lwg_6 96).trans (by decide +kernel)) (by decide +kernel)) (z_li.is (hm.rw (i := i135) (by omega)).1) ?_
                    obtain ⟨lv190, -, lg190⟩ := z_li.cell (hm.rw (i := i135) (by omega)).1
                    refine j_callV (q := (RJx4a65c, TJx4a65c, 3)) dX11_replaceAll_76 kJx4a65c_size_8abf5 lX11_86 inJx4a65c_size_8abf5 seJx4a65c_size_8abf5 lg190 rfl (cl_sizeW hl w15 (i135) ((A ++ L)) hm hR (by omega) z_fu_self) (Nat.le_of_ble_eq_true rfl) ⟨(by show _ ≤ 12; omega), (by show _ ≤ 12; omega)⟩ rfl (Nat.le_of_ble_eq_true rfl) rfl rfl (fun _ _ h => h.elim) ?_
                    rintro _ _ ⟨rfl, hw191⟩
                    refine j_w w15 hw191 ?_
                    have hz191 : ((A ++ L)).length ≤ 12 := hR.l12 hm (i := i135) (by omega) z_fu_self
                    refine j_icmp_ge (tgt := 197) dX11_replaceAll_79 (by decide) (fun c_79_361 => ?_) (fun c_79_361 => ?_)
                    · have hb79 : ((A ++ L)).length ≤ A.length := (nI_leI (a := ((A ++ L)).length) (b := A.length) (by omega) (by omega)).mp c_79_361
                      obtain rfl : L = [] := List.eq_nil_of_length_eq_zero (by have h9 := hb79; rw [List.length_append] at h9; omega)
                      refine j_aload_n dX11_replaceAll_197 rfl rfl ?_
                      refine j_getf dX11_replaceAll_198 fX11_31 hm.m rfl ?_
                      refine j_iload_n dX11_replaceAll_201 rfl ?_
                      obtain ⟨fz192, gz192, hz192⟩ := hm.co
                      refine j_aald (v := .ref (1004 + i135)) dX11_replaceAll_202 gz192 rfl rfl (vp_in_nI (by omega) (by omega)) (by rw [z_cla (by omega)]; exact hz192 _ (by omega)) ?_
                      refine j_iconst (v := 1) dX11_replaceAll_203 (by decide) ?_
                      refine j_dup2 dX11_replaceAll_204 rfl rfl ?_
                      refine j_ld dX11_replaceAll_205 (hm.cn (i := i135) (by omega)) (vp_in_nI (n := 1) (by decide) (by decide)) ?_
                      refine j_iconst (v := 1) dX11_replaceAll_206 (by decide) ?_
                      refine j_iadd dX11_replaceAll_207 ?_
                      refine j_sto (w' := _) dX11_replaceAll_208 (hm.cn (i := i135) (by omega)) (vp_in_nI (n := 1) (by decide) (by decide)) rfl ?_
                      refine j_seal (by omega) ?_
                      intro w16 u16
                      have fw16 := u16.fw (ρ := 44 + i135) (by omega) (by omega)
                      have h16 := hm.up44 (i0 := i135) (by omega) fw16 u16.1
                      rw [show (1 : Int32).toNatClampNeg = 1 by decide] at h16
                      have R16 := hR.bpR (i := i135) (k := 1) (by omega) (by decide)
                      refine j_aload_n dX11_replaceAll_209 rfl rfl ?_
                      refine j_getf dX11_replaceAll_210 fX11_21 h16.m rfl ?_
                      refine j_iload_n dX11_replaceAll_213 rfl ?_
                      obtain ⟨lv196, -, lg196⟩ := z_li.cell h16.rows
                      refine j_callV (q := (RJx4a65c, TJx4a65c, 3)) dX11_replaceAll_214 kJx4a65c_get_915e3 lX11_82 inJx4a65c_get_915e3 seJx4a65c_get_915e3 lg196 rfl (cl_get hl w16 41 1001 _ _ (i135) _ h16.rows (z_two2 (i := i135) (by omega))) (Nat.le_of_ble_eq_true rfl) ⟨(by show _ ≤ 12; omega), (by show _ ≤ 12; omega)⟩ rfl (Nat.le_of_ble_eq_true rfl) rfl rfl (fun _ _ h => h.elim) ?_
                      rintro _ _ ⟨rfl, hw197⟩
                      refine j_w w16 hw197 ?_
                      refine j_castS dX11_replaceAll_217 (z_w 1341 ((lwg_6 96).trans (by decide +kernel)) (by decide +kernel)) (z_li.is (h16.rw (i := i135) (by omega)).1) ?_
                      obtain ⟨lv199, -, lg199⟩ := z_li.cell (h16.rw (i := i135) (by omega)).1
                      refine j_callV (q := (RJx4a65c, TJx4a65c, 3)) dX11_replaceAll_220 kJx4a65c_size_8abf5 lX11_86 inJx4a65c_size_8abf5 seJx4a65c_size_8abf5 lg199 rfl (cl_sizeW hl w16 (i135) ((A ++ [])) h16 R16 (by omega) z_fu_self) (Nat.le_of_ble_eq_true rfl) ⟨(by show _ ≤ 12; omega), (by show _ ≤ 12; omega)⟩ rfl (Nat.le_of_ble_eq_true rfl) rfl rfl (fun _ _ h => h.elim) ?_
                      rintro _ _ ⟨rfl, hw200⟩
                      refine j_w w16 hw200 ?_
                      have hz200 : ((A ++ [])).length ≤ 12 := R16.l12 h16 (i := i135) (by omega) z_fu_self
                      refine j_iret dX11_replaceAll_223 rfl rfl ?_ (by show _ ≤ 12; omega) (by show _ ≤ 12; omega)
                      refine cast (congrFun (congrFun hQ9 _) _) ?_
                      rw [List.append_nil] at R16
                      try rw [ei135]
                      refine ⟨_, _, rfl, (hfm.tr (fw16.fm (q := 59) (by omega))), h16, sp_X0 ?_ hth (by unfold sp_chgS; rw [← he]; exact R16) (by rw [← he, List.append_nil]; rfl)⟩
                      (first | (refine sp_k22_0 ?_ ?_ <;> (first | assumption | (refine Or.inl ?_; assumption) | (refine Or.inr ?_; assumption) | (refine Or.inr (Or.inl ?_); assumption) | (refine Or.inr (Or.inr ?_); assumption) | (refine Or.inr (Or.inr (Or.inl ?_)); assumption) | (refine Or.inr (Or.inr (Or.inr ?_)); assumption) | (refine fun z => Or.elim z ?_ ?_ <;> assumption) | (refine fun z => Or.elim z ?_ (fun z => Or.elim z ?_ ?_) <;> assumption) | (refine fun z => Or.elim z ?_ (fun z => Or.elim z ?_ (fun z => Or.elim z ?_ ?_)) <;> assumption) | (refine fun z => Or.elim z (fun z9 => z9 ?_) ?_ <;> (first | assumption | (refine Or.inl ?_; assumption) | (refine Or.inr (Or.inl ?_); assumption) | (refine Or.inr (Or.inr ?_); assumption) | (refine Or.inr (Or.inr (Or.inl ?_)); assumption) | (refine Or.inr (Or.inr (Or.inr ?_)); assumption))) | (refine Or.inl (fun z => Or.elim z ?_ (fun z => Or.elim z ?_ ?_)) <;> assumption) | (refine Or.inl (fun z => Or.elim z ?_ (fun z => Or.elim z ?_ (fun z => Or.elim z ?_ ?_))) <;> assumption))))
                    · have hb79 : A.length < ((A ++ L)).length := Nat.not_le.mp (fun z => c_79_361 ((nI_leI (a := ((A ++ L)).length) (b := A.length) (by omega) (by omega)).mpr z))
                      obtain ⟨x, L2, rfl⟩ : ∃ x L2, L = x :: L2 := by
                        cases L with
                        | nil => rw [List.append_nil] at hb79; exact absurd hb79 (Nat.lt_irrefl _)
                        | cons x L2 => exact ⟨x, L2, rfl⟩
                      have hmid := sp_lmid (A := A) (D := L2) (v := x)
                      refine j_aload_n dX11_replaceAll_82 rfl rfl ?_
                      refine j_getf dX11_replaceAll_83 fX11_31 hm.m rfl ?_
                      refine j_iload_n dX11_replaceAll_86 rfl ?_
                      obtain ⟨fz201, gz201, hz201⟩ := hm.co
                      refine j_aald (v := .ref (1004 + i135)) dX11_replaceAll_87 gz201 rfl rfl (vp_in_nI (by omega) (by omega)) (by rw [z_cla (by omega)]; exact hz201 _ (by omega)) ?_
                      refine j_iconst (v := 1) dX11_replaceAll_88 (by decide) ?_
                      refine j_dup2 dX11_replaceAll_89 rfl rfl ?_
                      refine j_ld dX11_replaceAll_90 (hm.cn (i := i135) (by omega)) (vp_in_nI (n := 1) (by decide) (by decide)) ?_
                      refine j_iconst (v := 1) dX11_replaceAll_91 (by decide) ?_
                      refine j_iadd dX11_replaceAll_92 ?_
                      refine j_sto (w' := _) dX11_replaceAll_93 (hm.cn (i := i135) (by omega)) (vp_in_nI (n := 1) (by decide) (by decide)) rfl ?_
                      refine j_seal (by omega) ?_
                      intro w17 u17
                      have fw17 := u17.fw (ρ := 44 + i135) (by omega) (by omega)
                      have h17 := hm.up44 (i0 := i135) (by omega) fw17 u17.1
                      rw [show (1 : Int32).toNatClampNeg = 1 by decide] at h17
                      have R17 := hR.bpR (i := i135) (k := 1) (by omega) (by decide)
                      refine j_aload_n dX11_replaceAll_94 rfl rfl ?_
                      refine j_getf dX11_replaceAll_95 fX11_31 h17.m rfl ?_
                      refine j_iload_n dX11_replaceAll_98 rfl ?_
                      obtain ⟨fz204, gz204, hz204⟩ := h17.co
                      refine j_aald (v := .ref (1004 + i135)) dX11_replaceAll_99 gz204 rfl rfl (vp_in_nI (by omega) (by omega)) (by rw [z_cla (by omega)]; exact hz204 _ (by omega)) ?_
                      refine j_iconst (v := 2) dX11_replaceAll_100 (by decide) ?_
                      refine j_dup2 dX11_replaceAll_101 rfl rfl ?_
                      refine j_ld dX11_replaceAll_102 (h17.cn (i := i135) (by omega)) (vp_in_nI (n := 2) (by decide) (by decide)) ?_
                      refine j_iconst (v := 1) dX11_replaceAll_103 (by decide) ?_
                      refine j_iadd dX11_replaceAll_104 ?_
                      refine j_sto (w' := _) dX11_replaceAll_105 (h17.cn (i := i135) (by omega)) (vp_in_nI (n := 2) (by decide) (by decide)) rfl ?_
                      refine j_seal (by omega) ?_
                      intro w18 u18
                      have fw18 := u18.fw (ρ := 44 + i135) (by omega) (by omega)
                      have h18 := h17.up44 (i0 := i135) (by omega) fw18 u18.1
                      rw [show (2 : Int32).toNatClampNeg = 2 by decide] at h18
                      have R18 := R17.bpR (i := i135) (k := 2) (by omega) (by decide)
                      refine j_iload_n dX11_replaceAll_106 rfl ?_
                      refine j_iconst (v := 0) dX11_replaceAll_107 (by decide) ?_
                      refine j_aload_n dX11_replaceAll_108 rfl rfl ?_
                      refine j_getf dX11_replaceAll_109 fX11_21 h18.m rfl ?_
                      refine j_iload_n dX11_replaceAll_112 rfl ?_
                      obtain ⟨lv208, -, lg208⟩ := z_li.cell h18.rows
                      refine j_callV (q := (RJx4a65c, TJx4a65c, 3)) dX11_replaceAll_113 kJx4a65c_get_915e3 lX11_82 inJx4a65c_get_915e3 seJx4a65c_get_915e3 lg208 rfl (cl_get hl w18 41 1001 _ _ (i135) _ h18.rows (z_two2 (i := i135) (by omega))) (Nat.le_of_ble_eq_true rfl) ⟨(by show _ ≤ 12; omega), (by show _ ≤ 12; omega)⟩ rfl (Nat.le_of_ble_eq_true rfl) rfl rfl (fun _ _ h => h.elim) ?_
                      rintro _ _ ⟨rfl, hw209⟩
                      refine j_w w18 hw209 ?_
                      refine j_castS dX11_replaceAll_116 (z_w 1341 ((lwg_6 96).trans (by decide +kernel)) (by decide +kernel)) (z_li.is (h18.rw (i := i135) (by omega)).1) ?_
                      refine j_iload dX11_replaceAll_119 rfl ?_
                      obtain ⟨lv212, -, lg212⟩ := z_li.cell (h18.rw (i := i135) (by omega)).1
                      refine j_callV (q := (RJx4a65c, TJx4a65c, 3)) dX11_replaceAll_121 kJx4a65c_get_915e3 lX11_82 inJx4a65c_get_915e3 seJx4a65c_get_915e3 lg212 rfl (cl_getW hl w18 (i135) (A.length) ((A ++ x :: L2)) x h18 R18 (by omega) z_fu_self sp_mid?) (Nat.le_of_ble_eq_true rfl) ⟨(by show _ ≤ 12; omega), (by show _ ≤ 12; omega)⟩ rfl (Nat.le_of_ble_eq_true rfl) rfl rfl (fun _ _ h => h.elim) ?_
                      rintro _ _ ⟨rfl, hw213⟩
                      refine j_w w18 hw213 ?_
                      refine j_castS dX11_replaceAll_124 (z_w 1567 ((lwg_7 82).trans (by decide +kernel)) (by decide +kernel)) rfl ?_
                      refine j_callVB (v0 := .float _) (C := "java/lang/Integer") dX11_replaceAll_127 kJ6_intValue_8abf5 lX11_99 inJ6_intValue_8abf5 seJ6_intValue_8abf5 rfl (c_intv hl w18 x) (Nat.le_of_ble_eq_true rfl) ⟨(by show _ ≤ 12; omega), (by show _ ≤ 12; omega)⟩ rfl (Nat.le_of_ble_eq_true rfl) rfl rfl (fun _ _ h => h.elim) ?_
                      rintro _ _ ⟨rfl, hw215⟩
                      refine j_w w18 hw215 ?_
                      refine j_iload_n dX11_replaceAll_130 rfl ?_
                      refine j_callS dX11_replaceAll_131 kX11_rule lX11_115 stX11_rule (cm_rule_r hl w18 _ _ _ _ (hv _ List.mem_cons_self).2 (sp_vl (by assumption)).2) (Nat.le_of_ble_eq_true rfl) ⟨(by show _ ≤ 12; omega), (by show _ ≤ 12; omega)⟩ rfl (Nat.le_of_ble_eq_true rfl) rfl rfl (fun _ _ h => h.elim) ?_
                      rintro _ _ ⟨⟨rfl, hq216⟩ | ⟨y216, rfl, hq216, hne216⟩, hw216⟩
                      · refine j_w w18 hw216 ?_
                        refine j_istore (lo' := [(5, _), (0, _), (1, _), (2, _), (3, _), (4, _)]) dX11_replaceAll_134 (by decide) rfl ?_
                        refine j_iload dX11_replaceAll_136 rfl ?_
                        refine j_ldc dX11_replaceAll_138 kcX11_67 ?_
                        refine j_icmp_eq (tgt := 152) dX11_replaceAll_140 (by decide) (fun c_140_466 => ?_) (fun c_140_466 => ?_)
                        · refine j_aload_n dX11_replaceAll_152 rfl rfl ?_
                          refine j_callV (q := (RX11, TX11, 8)) dX11_replaceAll_153 kX11_nine lX11_105 inX11_nine seX11_nine h18.m rfl (cm_nine hl w18 _ h18) (Nat.le_of_ble_eq_true rfl) ⟨(by show _ ≤ 12; omega), (by show _ ≤ 12; omega)⟩ rfl (Nat.le_of_ble_eq_true rfl) rfl rfl (fun _ _ h => h.elim) ?_
                          rintro _ w19 ⟨rfl, fm19, h19⟩
                          have R19 := R18.ni
                          refine j_iret dX11_replaceAll_156 rfl rfl ?_ (by show _ ≤ 12; omega) (by show _ ≤ 12; omega)
                          refine cast (congrFun (congrFun hQ9 _) _) ?_
                          rw [sp_raN hq216] at he
                          try rw [ei135]
                          refine ⟨_, _, rfl, (((hfm.tr (fw17.fm (q := 59) (by omega))).tr (fw18.fm (q := 59) (by omega))).tr (fm19.le (q' := 59) (by decide))), h19, sp_X0 ?_ hth (by unfold sp_chgS; rw [← he]; exact R19) (by rw [← he]; rfl)⟩
                          (first | (refine sp_k22_0 ?_ ?_ <;> (first | assumption | (refine Or.inl ?_; assumption) | (refine Or.inr ?_; assumption) | (refine Or.inr (Or.inl ?_); assumption) | (refine Or.inr (Or.inr ?_); assumption) | (refine Or.inr (Or.inr (Or.inl ?_)); assumption) | (refine Or.inr (Or.inr (Or.inr ?_)); assumption) | (refine fun z => Or.elim z ?_ ?_ <;> assumption) | (refine fun z => Or.elim z ?_ (fun z => Or.elim z ?_ ?_) <;> assumption) | (refine fun z => Or.elim z ?_ (fun z => Or.elim z ?_ (fun z => Or.elim z ?_ ?_)) <;> assumption) | (refine fun z => Or.elim z (fun z9 => z9 ?_) ?_ <;> (first | assumption | (refine Or.inl ?_; assumption) | (refine Or.inr (Or.inl ?_); assumption) | (refine Or.inr (Or.inr ?_); assumption) | (refine Or.inr (Or.inr (Or.inl ?_)); assumption) | (refine Or.inr (Or.inr (Or.inr ?_)); assumption))) | (refine Or.inl (fun z => Or.elim z ?_ (fun z => Or.elim z ?_ ?_)) <;> assumption) | (refine Or.inl (fun z => Or.elim z ?_ (fun z => Or.elim z ?_ (fun z => Or.elim z ?_ ?_))) <;> assumption))))
                        · exact absurd c_140_466 (by decide)
                      · refine j_w w18 hw216 ?_
                        refine j_istore (lo' := [(5, _), (0, _), (1, _), (2, _), (3, _), (4, _)]) dX11_replaceAll_134 (by decide) rfl ?_
                        refine j_iload dX11_replaceAll_136 rfl ?_
                        refine j_ldc dX11_replaceAll_138 kcX11_67 ?_
                        refine j_icmp_eq (tgt := 152) dX11_replaceAll_140 (by decide) (fun c_140_482 => ?_) (fun c_140_482 => ?_)
                        · exact absurd c_140_482 hne216
                        · refine j_aload_n dX11_replaceAll_143 rfl rfl ?_
                          refine j_getf dX11_replaceAll_144 fX11_25 h18.m rfl ?_
                          refine j_iload_n dX11_replaceAll_147 rfl ?_
                          refine j_zald dX11_replaceAll_148 h18.fx (vp_in_nI (by omega) (by omega)) rfl ?_
                          rcases (Bool.eq_false_or_eq_true (sp_F S i135)) with hF148 | hF148
                          · refine j_top (congrArg Value.int (show _ = (1 : Int32) from by rw [z_cla (by omega), R18.f (by omega)]; show z_bi (sp_F S i135) = 1; rw [hF148]; rfl)) ?_
                            refine j_if_eq (tgt := 157) dX11_replaceAll_149 (by decide) (fun c_149_490 => ?_) (fun c_149_490 => ?_)
                            · exact absurd c_149_490 (by decide)
                            · refine j_aload_n dX11_replaceAll_152 rfl rfl ?_
                              refine j_callV (q := (RX11, TX11, 8)) dX11_replaceAll_153 kX11_nine lX11_105 inX11_nine seX11_nine h18.m rfl (cm_nine hl w18 _ h18) (Nat.le_of_ble_eq_true rfl) ⟨(by show _ ≤ 12; omega), (by show _ ≤ 12; omega)⟩ rfl (Nat.le_of_ble_eq_true rfl) rfl rfl (fun _ _ h => h.elim) ?_
                              rintro _ w20 ⟨rfl, fm20, h20⟩
                              have R20 := R18.ni
                              refine j_iret dX11_replaceAll_156 rfl rfl ?_ (by show _ ≤ 12; omega) (by show _ ≤ 12; omega)
                              refine cast (congrFun (congrFun hQ9 _) _) ?_
                              rw [hF148, sp_raF hq216] at he
                              try rw [ei135]
                              refine ⟨_, _, rfl, (((hfm.tr (fw17.fm (q := 59) (by omega))).tr (fw18.fm (q := 59) (by omega))).tr (fm20.le (q' := 59) (by decide))), h20, sp_X0 ?_ hth (by unfold sp_chgS; rw [← he]; exact R20) (by rw [← he]; rfl)⟩
                              (first | (refine sp_k22_0 ?_ ?_ <;> (first | assumption | (refine Or.inl ?_; assumption) | (refine Or.inr ?_; assumption) | (refine Or.inr (Or.inl ?_); assumption) | (refine Or.inr (Or.inr ?_); assumption) | (refine Or.inr (Or.inr (Or.inl ?_)); assumption) | (refine Or.inr (Or.inr (Or.inr ?_)); assumption) | (refine fun z => Or.elim z ?_ ?_ <;> assumption) | (refine fun z => Or.elim z ?_ (fun z => Or.elim z ?_ ?_) <;> assumption) | (refine fun z => Or.elim z ?_ (fun z => Or.elim z ?_ (fun z => Or.elim z ?_ ?_)) <;> assumption) | (refine fun z => Or.elim z (fun z9 => z9 ?_) ?_ <;> (first | assumption | (refine Or.inl ?_; assumption) | (refine Or.inr (Or.inl ?_); assumption) | (refine Or.inr (Or.inr ?_); assumption) | (refine Or.inr (Or.inr (Or.inl ?_)); assumption) | (refine Or.inr (Or.inr (Or.inr ?_)); assumption))) | (refine Or.inl (fun z => Or.elim z ?_ (fun z => Or.elim z ?_ ?_)) <;> assumption) | (refine Or.inl (fun z => Or.elim z ?_ (fun z => Or.elim z ?_ (fun z => Or.elim z ?_ ?_))) <;> assumption))))
                          · refine j_top (congrArg Value.int (show _ = (0 : Int32) from by rw [z_cla (by omega), R18.f (by omega)]; show z_bi (sp_F S i135) = 0; rw [hF148]; rfl)) ?_
                            refine j_if_eq (tgt := 157) dX11_replaceAll_149 (by decide) (fun c_149_503 => ?_) (fun c_149_503 => ?_)
                            · refine j_aload_n dX11_replaceAll_157 rfl rfl ?_
                              refine j_getf dX11_replaceAll_158 fX11_21 h18.m rfl ?_
                              refine j_iload_n dX11_replaceAll_161 rfl ?_
                              obtain ⟨lv218, -, lg218⟩ := z_li.cell h18.rows
                              refine j_callV (q := (RJx4a65c, TJx4a65c, 3)) dX11_replaceAll_162 kJx4a65c_get_915e3 lX11_82 inJx4a65c_get_915e3 seJx4a65c_get_915e3 lg218 rfl (cl_get hl w18 41 1001 _ _ (i135) _ h18.rows (z_two2 (i := i135) (by omega))) (Nat.le_of_ble_eq_true rfl) ⟨(by show _ ≤ 12; omega), (by show _ ≤ 12; omega)⟩ rfl (Nat.le_of_ble_eq_true rfl) rfl rfl (fun _ _ h => h.elim) ?_
                              rintro _ _ ⟨rfl, hw219⟩
                              refine j_w w18 hw219 ?_
                              refine j_castS dX11_replaceAll_165 (z_w 1341 ((lwg_6 96).trans (by decide +kernel)) (by decide +kernel)) (z_li.is (h18.rw (i := i135) (by omega)).1) ?_
                              refine j_iload dX11_replaceAll_168 rfl ?_
                              refine j_iload dX11_replaceAll_170 rfl ?_
                              refine j_callS dX11_replaceAll_172 kJ6_valueOf_2dffe lX11_90 stJ6_valueOf_2dffe (cl_val hl w18 _) (Nat.le_of_ble_eq_true rfl) ⟨(by show _ ≤ 12; omega), (by show _ ≤ 12; omega)⟩ rfl (Nat.le_of_ble_eq_true rfl) rfl rfl (fun _ _ h => h.elim) ?_
                              rintro _ _ ⟨rfl, hw221⟩
                              refine j_w w18 hw221 ?_
                              obtain ⟨lv222, -, lg222⟩ := z_li.cell (h18.rw (i := i135) (by omega)).1
                              refine j_callV (q := (RJx4a65c, TJx4a65c, 3)) dX11_replaceAll_175 kJx4a65c_set_bcc79 lX11_119 inJx4a65c_set_bcc79 seJx4a65c_set_bcc79 lg222 rfl (cl_set hl w18 _ _ _ _ (A.length) _ _ (h18.rw (i := i135) (by omega)).1 (z_bx_get (by rw [R18.wlB (by omega) z_fu_self]; omega)) z_elF) (Nat.le_of_ble_eq_true rfl) ⟨(by show _ ≤ 12; omega), (by show _ ≤ 12; omega)⟩ rfl (Nat.le_of_ble_eq_true rfl) rfl rfl (fun _ _ h => h.elim) ?_
                              rintro _ w21 ⟨rfl, fw21, hr21⟩
                              rw [z_bx_set] at hr21
                              have fm21 := fw21.fm (q := 56) (by omega)
                              have h21 := h18.li11 (i0 := i135) (by omega) fw21 hr21 (by rw [List.length_set]; exact (h18.rw (i := i135) (by omega)).2)
                              have R21 := R18.uwm h21 (R18.wset (k := A.length) (x := y216) (by omega) z_fu_self)
                              rw [sp_uRR, sp_mids] at R21
                              refine j_pop dX11_replaceAll_178 rfl ?_
                              refine j_aload_n dX11_replaceAll_179 rfl rfl ?_
                              refine j_getf dX11_replaceAll_180 fX11_31 h21.m rfl ?_
                              refine j_iload_n dX11_replaceAll_183 rfl ?_
                              obtain ⟨fz223, gz223, hz223⟩ := h21.co
                              refine j_aald (v := .ref (1004 + i135)) dX11_replaceAll_184 gz223 rfl rfl (vp_in_nI (by omega) (by omega)) (by rw [z_cla (by omega)]; exact hz223 _ (by omega)) ?_
                              refine j_iconst (v := 3) dX11_replaceAll_185 (by decide) ?_
                              refine j_dup2 dX11_replaceAll_186 rfl rfl ?_
                              refine j_ld dX11_replaceAll_187 (h21.cn (i := i135) (by omega)) (vp_in_nI (n := 3) (by decide) (by decide)) ?_
                              refine j_iconst (v := 1) dX11_replaceAll_188 (by decide) ?_
                              refine j_iadd dX11_replaceAll_189 ?_
                              refine j_sto (w' := _) dX11_replaceAll_190 (h21.cn (i := i135) (by omega)) (vp_in_nI (n := 3) (by decide) (by decide)) rfl ?_
                              refine j_seal (by omega) ?_
                              intro w22 u22
                              have fw22 := u22.fw (ρ := 44 + i135) (by omega) (by omega)
                              have h22 := h21.up44 (i0 := i135) (by omega) fw22 u22.1
                              rw [show (3 : Int32).toNatClampNeg = 3 by decide] at h22
                              have R22 := R21.bpR (i := i135) (k := 3) (by omega) (by decide)
                              refine j_iinc (lo' := [(4, _), (5, _), (0, _), (1, _), (2, _), (3, _)]) dX11_replaceAll_191 rfl (z_inc _) (by decide) rfl ?_
                              refine j_goto (tgt := 63) dX11_replaceAll_194 (by decide) ?_
                              refine j_widen (kc' := (A.length + 1)) (ks' := (A.length + 1)) (by omega) (by omega) ?_
                              exact j_lo2 (ih w22 _ (A ++ [y216]) L2 _ (A.length + 1) sp_apn (by rw [List.length_cons] at hf9; omega) sp_apl (by rw [List.length_cons] at hA; rw [List.length_append]; show A.length + 1 + _ ≤ 12; omega) (fun x hx => hv x (List.mem_cons_of_mem _ hx)) (by rw [hF148, sp_raT hq216] at he; rw [hF148]; exact he) (by rw [← sp_mid]; exact R22) (by exact hth) h22 ((((hfm.tr (fw17.fm (q := 59) (by omega))).tr (fw18.fm (q := 59) (by omega))).tr (fm21.le (q' := 59) (by decide))).tr (fw22.fm (q := 59) (by omega)))) (z_q1 rfl (z_q1 rfl (z_q1 rfl (z_q1 rfl (z_q1 rfl z_q0)))))
                            · exact absurd c_149_503 (by decide)
                refine j_widen (kc' := 0) (ks' := 0) (by omega) (by omega) ?_
                exact j_lo2 (loop63 ((sp_R S i135).length + 1) w14 _ [] (sp_R S i135) _ 0 (by exact rfl) (Nat.lt_succ_self _) sp_apl (by rw [List.length_nil]; omega) (fun x hx => (ok.1 i135 (by omega)).2 x hx) rfl (by rw [List.nil_append, show sp_uR (sp_uC S i135 (z_bp (sp_C S i135) 0)) i135 (sp_R S i135) = sp_uC S i135 (z_bp (sp_C S i135) 0) from sp_uR_id]; exact R14) (by exact rfl) h14 ((fm2.le (q' := 59) (by decide)).tr (fw14.fm (q := 59) (by omega)))) (z_q1 rfl (z_q1 rfl (z_q1 rfl (z_q1 rfl (z_q1 rfl z_q0)))))
              · exact absurd c_43_319 (by decide)
            · exact absurd c_31_313 (by decide)
        · refine j_iload_n dX11_replaceAll_22 rfl ?_
          refine j_iconst (v := 4) dX11_replaceAll_23 (by decide) ?_
          refine j_icmp_ne (tgt := 34) dX11_replaceAll_24 (by decide) (fun c_24_554 => ?_) (fun c_24_554 => ?_)
          · refine j_iconst (v := 1) dX11_replaceAll_34 (by decide) ?_
            refine j_goto (tgt := 39) dX11_replaceAll_35 (by decide) ?_
            refine j_iconst (v := 2) dX11_replaceAll_39 (by decide) ?_
            refine j_callV (q := (RX11, TX11, 8)) dX11_replaceAll_40 kX11_refuse lX11_52 inX11_refuse seX11_refuse h2.m rfl (cm_refuse1 hl w2 _ _ h2 rfl (by decide)) (Nat.le_of_ble_eq_true rfl) ⟨(by show _ ≤ 12; omega), (by show _ ≤ 12; omega)⟩ rfl (Nat.le_of_ble_eq_true rfl) rfl rfl (fun _ _ h => h.elim) ?_
            rintro _ w23 ⟨rfl, fm23, h23⟩
            have R23 := R2.th (k := 2)
            refine j_if_eq (tgt := 48) dX11_replaceAll_43 (by decide) (fun c_43_561 => ?_) (fun c_43_561 => ?_)
            · exact absurd c_43_561 (by decide)
            · refine j_iconst (v := 0) dX11_replaceAll_46 (by decide) ?_
              refine j_iret dX11_replaceAll_47 rfl rfl ?_ (by show _ ≤ 12; omega) (by show _ ≤ 12; omega)
              refine cast (congrFun (congrFun hQ9 _) _) ?_
              try rw [ei135]
              refine ⟨_, _, rfl, ((fm2.le (q' := 59) (by decide)).tr (fm23.le (q' := 59) (by decide))), h23, sp_X1 (k := 2) ?_ (by decide) rfl R23⟩
              (first | (refine sp_k22_2 ?_ ?_ <;> (first | assumption | (refine Or.inl ?_; assumption) | (refine Or.inr ?_; assumption) | (refine Or.inr (Or.inl ?_); assumption) | (refine Or.inr (Or.inr ?_); assumption) | (refine Or.inr (Or.inr (Or.inl ?_)); assumption) | (refine Or.inr (Or.inr (Or.inr ?_)); assumption) | (refine fun z => Or.elim z ?_ ?_ <;> assumption) | (refine fun z => Or.elim z ?_ (fun z => Or.elim z ?_ ?_) <;> assumption) | (refine fun z => Or.elim z ?_ (fun z => Or.elim z ?_ (fun z => Or.elim z ?_ ?_)) <;> assumption) | (refine fun z => Or.elim z (fun z9 => z9 ?_) ?_ <;> (first | assumption | (refine Or.inl ?_; assumption) | (refine Or.inr (Or.inl ?_); assumption) | (refine Or.inr (Or.inr ?_); assumption) | (refine Or.inr (Or.inr (Or.inl ?_)); assumption) | (refine Or.inr (Or.inr (Or.inr ?_)); assumption))) | (refine Or.inl (fun z => Or.elim z ?_ (fun z => Or.elim z ?_ ?_)) <;> assumption) | (refine Or.inl (fun z => Or.elim z ?_ (fun z => Or.elim z ?_ (fun z => Or.elim z ?_ ?_))) <;> assumption))))
          · refine j_iload_n dX11_replaceAll_27 rfl ?_
            refine j_callS dX11_replaceAll_28 kX11_isNoValue lX11_79 stX11_isNoValue (cm_isNoValue_r hl w2 _) (Nat.le_of_ble_eq_true rfl) ⟨(by show _ ≤ 12; omega), (by show _ ≤ 12; omega)⟩ rfl (Nat.le_of_ble_eq_true rfl) rfl rfl (fun _ _ h => h.elim) ?_
            rintro _ _ ⟨⟨rfl, hno226⟩ | ⟨rfl, hye226⟩, hw226⟩
            · refine j_w w2 hw226 ?_
              refine j_if_eq (tgt := 38) dX11_replaceAll_31 (by decide) (fun c_31_573 => ?_) (fun c_31_573 => ?_)
              · exact absurd c_31_573 (by decide)
              · refine j_iconst (v := 1) dX11_replaceAll_34 (by decide) ?_
                refine j_goto (tgt := 39) dX11_replaceAll_35 (by decide) ?_
                refine j_iconst (v := 2) dX11_replaceAll_39 (by decide) ?_
                refine j_callV (q := (RX11, TX11, 8)) dX11_replaceAll_40 kX11_refuse lX11_52 inX11_refuse seX11_refuse h2.m rfl (cm_refuse1 hl w2 _ _ h2 rfl (by decide)) (Nat.le_of_ble_eq_true rfl) ⟨(by show _ ≤ 12; omega), (by show _ ≤ 12; omega)⟩ rfl (Nat.le_of_ble_eq_true rfl) rfl rfl (fun _ _ h => h.elim) ?_
                rintro _ w24 ⟨rfl, fm24, h24⟩
                have R24 := R2.th (k := 2)
                refine j_if_eq (tgt := 48) dX11_replaceAll_43 (by decide) (fun c_43_581 => ?_) (fun c_43_581 => ?_)
                · exact absurd c_43_581 (by decide)
                · refine j_iconst (v := 0) dX11_replaceAll_46 (by decide) ?_
                  refine j_iret dX11_replaceAll_47 rfl rfl ?_ (by show _ ≤ 12; omega) (by show _ ≤ 12; omega)
                  refine cast (congrFun (congrFun hQ9 _) _) ?_
                  try rw [ei135]
                  refine ⟨_, _, rfl, ((fm2.le (q' := 59) (by decide)).tr (fm24.le (q' := 59) (by decide))), h24, sp_X1 (k := 2) ?_ (by decide) rfl R24⟩
                  (first | (refine sp_k22_2 ?_ ?_ <;> (first | assumption | (refine Or.inl ?_; assumption) | (refine Or.inr ?_; assumption) | (refine Or.inr (Or.inl ?_); assumption) | (refine Or.inr (Or.inr ?_); assumption) | (refine Or.inr (Or.inr (Or.inl ?_)); assumption) | (refine Or.inr (Or.inr (Or.inr ?_)); assumption) | (refine fun z => Or.elim z ?_ ?_ <;> assumption) | (refine fun z => Or.elim z ?_ (fun z => Or.elim z ?_ ?_) <;> assumption) | (refine fun z => Or.elim z ?_ (fun z => Or.elim z ?_ (fun z => Or.elim z ?_ ?_)) <;> assumption) | (refine fun z => Or.elim z (fun z9 => z9 ?_) ?_ <;> (first | assumption | (refine Or.inl ?_; assumption) | (refine Or.inr (Or.inl ?_); assumption) | (refine Or.inr (Or.inr ?_); assumption) | (refine Or.inr (Or.inr (Or.inl ?_)); assumption) | (refine Or.inr (Or.inr (Or.inr ?_)); assumption))) | (refine Or.inl (fun z => Or.elim z ?_ (fun z => Or.elim z ?_ ?_)) <;> assumption) | (refine Or.inl (fun z => Or.elim z ?_ (fun z => Or.elim z ?_ (fun z => Or.elim z ?_ ?_))) <;> assumption))))
            · refine j_w w2 hw226 ?_
              refine j_if_eq (tgt := 38) dX11_replaceAll_31 (by decide) (fun c_31_590 => ?_) (fun c_31_590 => ?_)
              · refine j_iconst (v := 0) dX11_replaceAll_38 (by decide) ?_
                refine j_iconst (v := 2) dX11_replaceAll_39 (by decide) ?_
                refine j_callV (q := (RX11, TX11, 8)) dX11_replaceAll_40 kX11_refuse lX11_52 inX11_refuse seX11_refuse h2.m rfl (cm_refuse0 hl w2 _ _ h2 rfl) (Nat.le_of_ble_eq_true rfl) ⟨(by show _ ≤ 12; omega), (by show _ ≤ 12; omega)⟩ rfl (Nat.le_of_ble_eq_true rfl) rfl rfl (fun _ _ h => h.elim) ?_
                rintro _ _ ⟨rfl, hw227⟩
                refine j_w w2 hw227 ?_
                refine j_if_eq (tgt := 48) dX11_replaceAll_43 (by decide) (fun c_43_596 => ?_) (fun c_43_596 => ?_)
                · refine j_aload_n dX11_replaceAll_48 rfl rfl ?_
                  refine j_getf dX11_replaceAll_49 fX11_31 h2.m rfl ?_
                  refine j_iload_n dX11_replaceAll_52 rfl ?_
                  obtain ⟨fz228, gz228, hz228⟩ := h2.co
                  refine j_aald (v := .ref (1004 + i135)) dX11_replaceAll_53 gz228 rfl rfl (vp_in_nI (by omega) (by omega)) (by rw [z_cla (by omega)]; exact hz228 _ (by omega)) ?_
                  refine j_iconst (v := 0) dX11_replaceAll_54 (by decide) ?_
                  refine j_dup2 dX11_replaceAll_55 rfl rfl ?_
                  refine j_ld dX11_replaceAll_56 (h2.cn (i := i135) (by omega)) (vp_in_nI (n := 0) (by decide) (by decide)) ?_
                  refine j_iconst (v := 1) dX11_replaceAll_57 (by decide) ?_
                  refine j_iadd dX11_replaceAll_58 ?_
                  refine j_sto (w' := _) dX11_replaceAll_59 (h2.cn (i := i135) (by omega)) (vp_in_nI (n := 0) (by decide) (by decide)) rfl ?_
                  refine j_seal (by omega) ?_
                  intro w25 u25
                  have fw25 := u25.fw (ρ := 44 + i135) (by omega) (by omega)
                  have h25 := h2.up44 (i0 := i135) (by omega) fw25 u25.1
                  rw [show (0 : Int32).toNatClampNeg = 0 by decide] at h25
                  have R25 := R2.bp (i := i135) (k := 0) (by omega) (by decide)
                  refine j_iconst (v := 0) dX11_replaceAll_60 (by decide) ?_
                  refine j_istore (lo' := [(4, _), (0, _), (1, _), (2, _), (3, _)]) dX11_replaceAll_61 (by decide) rfl ?_
                  have hL12 : (sp_R S i135).length ≤ 12 := R.len12 h (by omega)
                  have loop63 : ∀ (n9 : Nat) (w26 : z_W) (s1 : z_Z) (A L : List Int32) (c : Nat → Int32) (a : Nat), (a = A.length) → (L.length < n9) → (A.length ≤ (A ++ L).length) → (A.length + L.length ≤ 12) → (∀ x ∈ L, z_vl x) → (sp_ra (sp_F S i135) u n c A L = sp_chg S i135 u n) → (sp_MR (sp_uR (sp_uC S i135 c) i135 (A ++ L)) s1) → (s1.1.1 = 0) → (z_mst w26 s1) → (z_fm 59 w w26) → z_J G l mX11_replaceAll (22, 12, 12, w, Q9, (fun _ _ => False)) 63 [(0, .ref 1000), (1, .int (nI i135)), (2, .int u), (3, .int n), (4, .int (nI a))] [] w26 a a := by
                    intro n9
                    induction n9 with
                    | zero => intro w26 s1 A L c a ha hf9 hAl hA hv he hR hth hm hfm; exact absurd hf9 (Nat.not_lt_zero _)
                    | succ n9 ih =>
                      intro w26 s1 A L c a ha hf9 hAl hA hv he hR hth hm hfm
                      subst ha
                      refine j_iload dX11_replaceAll_63 rfl ?_
                      refine j_aload_n dX11_replaceAll_65 rfl rfl ?_
                      refine j_getf dX11_replaceAll_66 fX11_21 hm.m rfl ?_
                      refine j_iload_n dX11_replaceAll_69 rfl ?_
                      obtain ⟨lv232, -, lg232⟩ := z_li.cell hm.rows
                      refine j_callV (q := (RJx4a65c, TJx4a65c, 3)) dX11_replaceAll_70 kJx4a65c_get_915e3 lX11_82 inJx4a65c_get_915e3 seJx4a65c_get_915e3 lg232 rfl (cl_get hl w26 41 1001 _ _ (i135) _ hm.rows (z_two2 (i := i135) (by omega))) (Nat.le_of_ble_eq_true rfl) ⟨(by show _ ≤ 12; omega), (by show _ ≤ 12; omega)⟩ rfl (Nat.le_of_ble_eq_true rfl) rfl rfl (fun _ _ h => h.elim) ?_
                      rintro _ _ ⟨rfl, hw233⟩
                      refine j_w w26 hw233 ?_
                      refine j_castS dX11_replaceAll_73 (z_w 1341 ((lwg_6 96).trans (by decide +kernel)) (by decide +kernel)) (z_li.is (hm.rw (i := i135) (by omega)).1) ?_
                      obtain ⟨lv235, -, lg235⟩ := z_li.cell (hm.rw (i := i135) (by omega)).1
                      refine j_callV (q := (RJx4a65c, TJx4a65c, 3)) dX11_replaceAll_76 kJx4a65c_size_8abf5 lX11_86 inJx4a65c_size_8abf5 seJx4a65c_size_8abf5 lg235 rfl (cl_sizeW hl w26 (i135) ((A ++ L)) hm hR (by omega) z_fu_self) (Nat.le_of_ble_eq_true rfl) ⟨(by show _ ≤ 12; omega), (by show _ ≤ 12; omega)⟩ rfl (Nat.le_of_ble_eq_true rfl) rfl rfl (fun _ _ h => h.elim) ?_
                      rintro _ _ ⟨rfl, hw236⟩
                      refine j_w w26 hw236 ?_
                      have hz236 : ((A ++ L)).length ≤ 12 := hR.l12 hm (i := i135) (by omega) z_fu_self
                      refine j_icmp_ge (tgt := 197) dX11_replaceAll_79 (by decide) (fun c_79_638 => ?_) (fun c_79_638 => ?_)
                      · have hb79 : ((A ++ L)).length ≤ A.length := (nI_leI (a := ((A ++ L)).length) (b := A.length) (by omega) (by omega)).mp c_79_638
                        obtain rfl : L = [] := List.eq_nil_of_length_eq_zero (by have h9 := hb79; rw [List.length_append] at h9; omega)
                        refine j_aload_n dX11_replaceAll_197 rfl rfl ?_
                        refine j_getf dX11_replaceAll_198 fX11_31 hm.m rfl ?_
                        refine j_iload_n dX11_replaceAll_201 rfl ?_
                        obtain ⟨fz237, gz237, hz237⟩ := hm.co
                        refine j_aald (v := .ref (1004 + i135)) dX11_replaceAll_202 gz237 rfl rfl (vp_in_nI (by omega) (by omega)) (by rw [z_cla (by omega)]; exact hz237 _ (by omega)) ?_
                        refine j_iconst (v := 1) dX11_replaceAll_203 (by decide) ?_
                        refine j_dup2 dX11_replaceAll_204 rfl rfl ?_
                        refine j_ld dX11_replaceAll_205 (hm.cn (i := i135) (by omega)) (vp_in_nI (n := 1) (by decide) (by decide)) ?_
                        refine j_iconst (v := 1) dX11_replaceAll_206 (by decide) ?_
                        refine j_iadd dX11_replaceAll_207 ?_
                        refine j_sto (w' := _) dX11_replaceAll_208 (hm.cn (i := i135) (by omega)) (vp_in_nI (n := 1) (by decide) (by decide)) rfl ?_
                        refine j_seal (by omega) ?_
                        intro w27 u27
                        have fw27 := u27.fw (ρ := 44 + i135) (by omega) (by omega)
                        have h27 := hm.up44 (i0 := i135) (by omega) fw27 u27.1
                        rw [show (1 : Int32).toNatClampNeg = 1 by decide] at h27
                        have R27 := hR.bpR (i := i135) (k := 1) (by omega) (by decide)
                        refine j_aload_n dX11_replaceAll_209 rfl rfl ?_
                        refine j_getf dX11_replaceAll_210 fX11_21 h27.m rfl ?_
                        refine j_iload_n dX11_replaceAll_213 rfl ?_
                        obtain ⟨lv241, -, lg241⟩ := z_li.cell h27.rows
                        refine j_callV (q := (RJx4a65c, TJx4a65c, 3)) dX11_replaceAll_214 kJx4a65c_get_915e3 lX11_82 inJx4a65c_get_915e3 seJx4a65c_get_915e3 lg241 rfl (cl_get hl w27 41 1001 _ _ (i135) _ h27.rows (z_two2 (i := i135) (by omega))) (Nat.le_of_ble_eq_true rfl) ⟨(by show _ ≤ 12; omega), (by show _ ≤ 12; omega)⟩ rfl (Nat.le_of_ble_eq_true rfl) rfl rfl (fun _ _ h => h.elim) ?_
                        rintro _ _ ⟨rfl, hw242⟩
                        refine j_w w27 hw242 ?_
                        refine j_castS dX11_replaceAll_217 (z_w 1341 ((lwg_6 96).trans (by decide +kernel)) (by decide +kernel)) (z_li.is (h27.rw (i := i135) (by omega)).1) ?_
                        obtain ⟨lv244, -, lg244⟩ := z_li.cell (h27.rw (i := i135) (by omega)).1
                        refine j_callV (q := (RJx4a65c, TJx4a65c, 3)) dX11_replaceAll_220 kJx4a65c_size_8abf5 lX11_86 inJx4a65c_size_8abf5 seJx4a65c_size_8abf5 lg244 rfl (cl_sizeW hl w27 (i135) ((A ++ [])) h27 R27 (by omega) z_fu_self) (Nat.le_of_ble_eq_true rfl) ⟨(by show _ ≤ 12; omega), (by show _ ≤ 12; omega)⟩ rfl (Nat.le_of_ble_eq_true rfl) rfl rfl (fun _ _ h => h.elim) ?_
                        rintro _ _ ⟨rfl, hw245⟩
                        refine j_w w27 hw245 ?_
                        have hz245 : ((A ++ [])).length ≤ 12 := R27.l12 h27 (i := i135) (by omega) z_fu_self
                        refine j_iret dX11_replaceAll_223 rfl rfl ?_ (by show _ ≤ 12; omega) (by show _ ≤ 12; omega)
                        refine cast (congrFun (congrFun hQ9 _) _) ?_
                        rw [List.append_nil] at R27
                        try rw [ei135]
                        refine ⟨_, _, rfl, (hfm.tr (fw27.fm (q := 59) (by omega))), h27, sp_X0 ?_ hth (by unfold sp_chgS; rw [← he]; exact R27) (by rw [← he, List.append_nil]; rfl)⟩
                        (first | (refine sp_k22_0 ?_ ?_ <;> (first | assumption | (refine Or.inl ?_; assumption) | (refine Or.inr ?_; assumption) | (refine Or.inr (Or.inl ?_); assumption) | (refine Or.inr (Or.inr ?_); assumption) | (refine Or.inr (Or.inr (Or.inl ?_)); assumption) | (refine Or.inr (Or.inr (Or.inr ?_)); assumption) | (refine fun z => Or.elim z ?_ ?_ <;> assumption) | (refine fun z => Or.elim z ?_ (fun z => Or.elim z ?_ ?_) <;> assumption) | (refine fun z => Or.elim z ?_ (fun z => Or.elim z ?_ (fun z => Or.elim z ?_ ?_)) <;> assumption) | (refine fun z => Or.elim z (fun z9 => z9 ?_) ?_ <;> (first | assumption | (refine Or.inl ?_; assumption) | (refine Or.inr (Or.inl ?_); assumption) | (refine Or.inr (Or.inr ?_); assumption) | (refine Or.inr (Or.inr (Or.inl ?_)); assumption) | (refine Or.inr (Or.inr (Or.inr ?_)); assumption))) | (refine Or.inl (fun z => Or.elim z ?_ (fun z => Or.elim z ?_ ?_)) <;> assumption) | (refine Or.inl (fun z => Or.elim z ?_ (fun z => Or.elim z ?_ (fun z => Or.elim z ?_ ?_))) <;> assumption))))
                      · have hb79 : A.length < ((A ++ L)).length := Nat.not_le.mp (fun z => c_79_638 ((nI_leI (a := ((A ++ L)).length) (b := A.length) (by omega) (by omega)).mpr z))
                        obtain ⟨x, L2, rfl⟩ : ∃ x L2, L = x :: L2 := by
                          cases L with
                          | nil => rw [List.append_nil] at hb79; exact absurd hb79 (Nat.lt_irrefl _)
                          | cons x L2 => exact ⟨x, L2, rfl⟩
                        have hmid := sp_lmid (A := A) (D := L2) (v := x)
                        refine j_aload_n dX11_replaceAll_82 rfl rfl ?_
                        refine j_getf dX11_replaceAll_83 fX11_31 hm.m rfl ?_
                        refine j_iload_n dX11_replaceAll_86 rfl ?_
                        obtain ⟨fz246, gz246, hz246⟩ := hm.co
                        refine j_aald (v := .ref (1004 + i135)) dX11_replaceAll_87 gz246 rfl rfl (vp_in_nI (by omega) (by omega)) (by rw [z_cla (by omega)]; exact hz246 _ (by omega)) ?_
                        refine j_iconst (v := 1) dX11_replaceAll_88 (by decide) ?_
                        refine j_dup2 dX11_replaceAll_89 rfl rfl ?_
                        refine j_ld dX11_replaceAll_90 (hm.cn (i := i135) (by omega)) (vp_in_nI (n := 1) (by decide) (by decide)) ?_
                        refine j_iconst (v := 1) dX11_replaceAll_91 (by decide) ?_
                        refine j_iadd dX11_replaceAll_92 ?_
                        refine j_sto (w' := _) dX11_replaceAll_93 (hm.cn (i := i135) (by omega)) (vp_in_nI (n := 1) (by decide) (by decide)) rfl ?_
                        refine j_seal (by omega) ?_
                        intro w28 u28
                        have fw28 := u28.fw (ρ := 44 + i135) (by omega) (by omega)
                        have h28 := hm.up44 (i0 := i135) (by omega) fw28 u28.1
                        rw [show (1 : Int32).toNatClampNeg = 1 by decide] at h28
                        have R28 := hR.bpR (i := i135) (k := 1) (by omega) (by decide)
                        refine j_aload_n dX11_replaceAll_94 rfl rfl ?_
                        refine j_getf dX11_replaceAll_95 fX11_31 h28.m rfl ?_
                        refine j_iload_n dX11_replaceAll_98 rfl ?_
                        obtain ⟨fz249, gz249, hz249⟩ := h28.co
                        refine j_aald (v := .ref (1004 + i135)) dX11_replaceAll_99 gz249 rfl rfl (vp_in_nI (by omega) (by omega)) (by rw [z_cla (by omega)]; exact hz249 _ (by omega)) ?_
                        refine j_iconst (v := 2) dX11_replaceAll_100 (by decide) ?_
                        refine j_dup2 dX11_replaceAll_101 rfl rfl ?_
                        refine j_ld dX11_replaceAll_102 (h28.cn (i := i135) (by omega)) (vp_in_nI (n := 2) (by decide) (by decide)) ?_
                        refine j_iconst (v := 1) dX11_replaceAll_103 (by decide) ?_
                        refine j_iadd dX11_replaceAll_104 ?_
                        refine j_sto (w' := _) dX11_replaceAll_105 (h28.cn (i := i135) (by omega)) (vp_in_nI (n := 2) (by decide) (by decide)) rfl ?_
                        refine j_seal (by omega) ?_
                        intro w29 u29
                        have fw29 := u29.fw (ρ := 44 + i135) (by omega) (by omega)
                        have h29 := h28.up44 (i0 := i135) (by omega) fw29 u29.1
                        rw [show (2 : Int32).toNatClampNeg = 2 by decide] at h29
                        have R29 := R28.bpR (i := i135) (k := 2) (by omega) (by decide)
                        refine j_iload_n dX11_replaceAll_106 rfl ?_
                        refine j_iconst (v := 0) dX11_replaceAll_107 (by decide) ?_
                        refine j_aload_n dX11_replaceAll_108 rfl rfl ?_
                        refine j_getf dX11_replaceAll_109 fX11_21 h29.m rfl ?_
                        refine j_iload_n dX11_replaceAll_112 rfl ?_
                        obtain ⟨lv253, -, lg253⟩ := z_li.cell h29.rows
                        refine j_callV (q := (RJx4a65c, TJx4a65c, 3)) dX11_replaceAll_113 kJx4a65c_get_915e3 lX11_82 inJx4a65c_get_915e3 seJx4a65c_get_915e3 lg253 rfl (cl_get hl w29 41 1001 _ _ (i135) _ h29.rows (z_two2 (i := i135) (by omega))) (Nat.le_of_ble_eq_true rfl) ⟨(by show _ ≤ 12; omega), (by show _ ≤ 12; omega)⟩ rfl (Nat.le_of_ble_eq_true rfl) rfl rfl (fun _ _ h => h.elim) ?_
                        rintro _ _ ⟨rfl, hw254⟩
                        refine j_w w29 hw254 ?_
                        refine j_castS dX11_replaceAll_116 (z_w 1341 ((lwg_6 96).trans (by decide +kernel)) (by decide +kernel)) (z_li.is (h29.rw (i := i135) (by omega)).1) ?_
                        refine j_iload dX11_replaceAll_119 rfl ?_
                        obtain ⟨lv257, -, lg257⟩ := z_li.cell (h29.rw (i := i135) (by omega)).1
                        refine j_callV (q := (RJx4a65c, TJx4a65c, 3)) dX11_replaceAll_121 kJx4a65c_get_915e3 lX11_82 inJx4a65c_get_915e3 seJx4a65c_get_915e3 lg257 rfl (cl_getW hl w29 (i135) (A.length) ((A ++ x :: L2)) x h29 R29 (by omega) z_fu_self sp_mid?) (Nat.le_of_ble_eq_true rfl) ⟨(by show _ ≤ 12; omega), (by show _ ≤ 12; omega)⟩ rfl (Nat.le_of_ble_eq_true rfl) rfl rfl (fun _ _ h => h.elim) ?_
                        rintro _ _ ⟨rfl, hw258⟩
                        refine j_w w29 hw258 ?_
                        refine j_castS dX11_replaceAll_124 (z_w 1567 ((lwg_7 82).trans (by decide +kernel)) (by decide +kernel)) rfl ?_
                        refine j_callVB (v0 := .float _) (C := "java/lang/Integer") dX11_replaceAll_127 kJ6_intValue_8abf5 lX11_99 inJ6_intValue_8abf5 seJ6_intValue_8abf5 rfl (c_intv hl w29 x) (Nat.le_of_ble_eq_true rfl) ⟨(by show _ ≤ 12; omega), (by show _ ≤ 12; omega)⟩ rfl (Nat.le_of_ble_eq_true rfl) rfl rfl (fun _ _ h => h.elim) ?_
                        rintro _ _ ⟨rfl, hw260⟩
                        refine j_w w29 hw260 ?_
                        refine j_iload_n dX11_replaceAll_130 rfl ?_
                        refine j_callS dX11_replaceAll_131 kX11_rule lX11_115 stX11_rule (cm_rule_r hl w29 _ _ _ _ (hv _ List.mem_cons_self).2 (sp_vl (by assumption)).2) (Nat.le_of_ble_eq_true rfl) ⟨(by show _ ≤ 12; omega), (by show _ ≤ 12; omega)⟩ rfl (Nat.le_of_ble_eq_true rfl) rfl rfl (fun _ _ h => h.elim) ?_
                        rintro _ _ ⟨⟨rfl, hq261⟩ | ⟨y261, rfl, hq261, hne261⟩, hw261⟩
                        · refine j_w w29 hw261 ?_
                          refine j_istore (lo' := [(5, _), (0, _), (1, _), (2, _), (3, _), (4, _)]) dX11_replaceAll_134 (by decide) rfl ?_
                          refine j_iload dX11_replaceAll_136 rfl ?_
                          refine j_ldc dX11_replaceAll_138 kcX11_67 ?_
                          refine j_icmp_eq (tgt := 152) dX11_replaceAll_140 (by decide) (fun c_140_743 => ?_) (fun c_140_743 => ?_)
                          · refine j_aload_n dX11_replaceAll_152 rfl rfl ?_
                            refine j_callV (q := (RX11, TX11, 8)) dX11_replaceAll_153 kX11_nine lX11_105 inX11_nine seX11_nine h29.m rfl (cm_nine hl w29 _ h29) (Nat.le_of_ble_eq_true rfl) ⟨(by show _ ≤ 12; omega), (by show _ ≤ 12; omega)⟩ rfl (Nat.le_of_ble_eq_true rfl) rfl rfl (fun _ _ h => h.elim) ?_
                            rintro _ w30 ⟨rfl, fm30, h30⟩
                            have R30 := R29.ni
                            refine j_iret dX11_replaceAll_156 rfl rfl ?_ (by show _ ≤ 12; omega) (by show _ ≤ 12; omega)
                            refine cast (congrFun (congrFun hQ9 _) _) ?_
                            rw [sp_raN hq261] at he
                            try rw [ei135]
                            refine ⟨_, _, rfl, (((hfm.tr (fw28.fm (q := 59) (by omega))).tr (fw29.fm (q := 59) (by omega))).tr (fm30.le (q' := 59) (by decide))), h30, sp_X0 ?_ hth (by unfold sp_chgS; rw [← he]; exact R30) (by rw [← he]; rfl)⟩
                            (first | (refine sp_k22_0 ?_ ?_ <;> (first | assumption | (refine Or.inl ?_; assumption) | (refine Or.inr ?_; assumption) | (refine Or.inr (Or.inl ?_); assumption) | (refine Or.inr (Or.inr ?_); assumption) | (refine Or.inr (Or.inr (Or.inl ?_)); assumption) | (refine Or.inr (Or.inr (Or.inr ?_)); assumption) | (refine fun z => Or.elim z ?_ ?_ <;> assumption) | (refine fun z => Or.elim z ?_ (fun z => Or.elim z ?_ ?_) <;> assumption) | (refine fun z => Or.elim z ?_ (fun z => Or.elim z ?_ (fun z => Or.elim z ?_ ?_)) <;> assumption) | (refine fun z => Or.elim z (fun z9 => z9 ?_) ?_ <;> (first | assumption | (refine Or.inl ?_; assumption) | (refine Or.inr (Or.inl ?_); assumption) | (refine Or.inr (Or.inr ?_); assumption) | (refine Or.inr (Or.inr (Or.inl ?_)); assumption) | (refine Or.inr (Or.inr (Or.inr ?_)); assumption))) | (refine Or.inl (fun z => Or.elim z ?_ (fun z => Or.elim z ?_ ?_)) <;> assumption) | (refine Or.inl (fun z => Or.elim z ?_ (fun z => Or.elim z ?_ (fun z => Or.elim z ?_ ?_))) <;> assumption))))
                          · exact absurd c_140_743 (by decide)
                        · refine j_w w29 hw261 ?_
                          refine j_istore (lo' := [(5, _), (0, _), (1, _), (2, _), (3, _), (4, _)]) dX11_replaceAll_134 (by decide) rfl ?_
                          refine j_iload dX11_replaceAll_136 rfl ?_
                          refine j_ldc dX11_replaceAll_138 kcX11_67 ?_
                          refine j_icmp_eq (tgt := 152) dX11_replaceAll_140 (by decide) (fun c_140_759 => ?_) (fun c_140_759 => ?_)
                          · exact absurd c_140_759 hne261
                          · refine j_aload_n dX11_replaceAll_143 rfl rfl ?_
                            refine j_getf dX11_replaceAll_144 fX11_25 h29.m rfl ?_
                            refine j_iload_n dX11_replaceAll_147 rfl ?_
                            refine j_zald dX11_replaceAll_148 h29.fx (vp_in_nI (by omega) (by omega)) rfl ?_
                            rcases (Bool.eq_false_or_eq_true (sp_F S i135)) with hF148 | hF148
                            · refine j_top (congrArg Value.int (show _ = (1 : Int32) from by rw [z_cla (by omega), R29.f (by omega)]; show z_bi (sp_F S i135) = 1; rw [hF148]; rfl)) ?_
                              refine j_if_eq (tgt := 157) dX11_replaceAll_149 (by decide) (fun c_149_767 => ?_) (fun c_149_767 => ?_)
                              · exact absurd c_149_767 (by decide)
                              · refine j_aload_n dX11_replaceAll_152 rfl rfl ?_
                                refine j_callV (q := (RX11, TX11, 8)) dX11_replaceAll_153 kX11_nine lX11_105 inX11_nine seX11_nine h29.m rfl (cm_nine hl w29 _ h29) (Nat.le_of_ble_eq_true rfl) ⟨(by show _ ≤ 12; omega), (by show _ ≤ 12; omega)⟩ rfl (Nat.le_of_ble_eq_true rfl) rfl rfl (fun _ _ h => h.elim) ?_
                                rintro _ w31 ⟨rfl, fm31, h31⟩
                                have R31 := R29.ni
                                refine j_iret dX11_replaceAll_156 rfl rfl ?_ (by show _ ≤ 12; omega) (by show _ ≤ 12; omega)
                                refine cast (congrFun (congrFun hQ9 _) _) ?_
                                rw [hF148, sp_raF hq261] at he
                                try rw [ei135]
                                refine ⟨_, _, rfl, (((hfm.tr (fw28.fm (q := 59) (by omega))).tr (fw29.fm (q := 59) (by omega))).tr (fm31.le (q' := 59) (by decide))), h31, sp_X0 ?_ hth (by unfold sp_chgS; rw [← he]; exact R31) (by rw [← he]; rfl)⟩
                                (first | (refine sp_k22_0 ?_ ?_ <;> (first | assumption | (refine Or.inl ?_; assumption) | (refine Or.inr ?_; assumption) | (refine Or.inr (Or.inl ?_); assumption) | (refine Or.inr (Or.inr ?_); assumption) | (refine Or.inr (Or.inr (Or.inl ?_)); assumption) | (refine Or.inr (Or.inr (Or.inr ?_)); assumption) | (refine fun z => Or.elim z ?_ ?_ <;> assumption) | (refine fun z => Or.elim z ?_ (fun z => Or.elim z ?_ ?_) <;> assumption) | (refine fun z => Or.elim z ?_ (fun z => Or.elim z ?_ (fun z => Or.elim z ?_ ?_)) <;> assumption) | (refine fun z => Or.elim z (fun z9 => z9 ?_) ?_ <;> (first | assumption | (refine Or.inl ?_; assumption) | (refine Or.inr (Or.inl ?_); assumption) | (refine Or.inr (Or.inr ?_); assumption) | (refine Or.inr (Or.inr (Or.inl ?_)); assumption) | (refine Or.inr (Or.inr (Or.inr ?_)); assumption))) | (refine Or.inl (fun z => Or.elim z ?_ (fun z => Or.elim z ?_ ?_)) <;> assumption) | (refine Or.inl (fun z => Or.elim z ?_ (fun z => Or.elim z ?_ (fun z => Or.elim z ?_ ?_))) <;> assumption))))
                            · refine j_top (congrArg Value.int (show _ = (0 : Int32) from by rw [z_cla (by omega), R29.f (by omega)]; show z_bi (sp_F S i135) = 0; rw [hF148]; rfl)) ?_
                              refine j_if_eq (tgt := 157) dX11_replaceAll_149 (by decide) (fun c_149_780 => ?_) (fun c_149_780 => ?_)
                              · refine j_aload_n dX11_replaceAll_157 rfl rfl ?_
                                refine j_getf dX11_replaceAll_158 fX11_21 h29.m rfl ?_
                                refine j_iload_n dX11_replaceAll_161 rfl ?_
                                obtain ⟨lv263, -, lg263⟩ := z_li.cell h29.rows
                                refine j_callV (q := (RJx4a65c, TJx4a65c, 3)) dX11_replaceAll_162 kJx4a65c_get_915e3 lX11_82 inJx4a65c_get_915e3 seJx4a65c_get_915e3 lg263 rfl (cl_get hl w29 41 1001 _ _ (i135) _ h29.rows (z_two2 (i := i135) (by omega))) (Nat.le_of_ble_eq_true rfl) ⟨(by show _ ≤ 12; omega), (by show _ ≤ 12; omega)⟩ rfl (Nat.le_of_ble_eq_true rfl) rfl rfl (fun _ _ h => h.elim) ?_
                                rintro _ _ ⟨rfl, hw264⟩
                                refine j_w w29 hw264 ?_
                                refine j_castS dX11_replaceAll_165 (z_w 1341 ((lwg_6 96).trans (by decide +kernel)) (by decide +kernel)) (z_li.is (h29.rw (i := i135) (by omega)).1) ?_
                                refine j_iload dX11_replaceAll_168 rfl ?_
                                refine j_iload dX11_replaceAll_170 rfl ?_
                                refine j_callS dX11_replaceAll_172 kJ6_valueOf_2dffe lX11_90 stJ6_valueOf_2dffe (cl_val hl w29 _) (Nat.le_of_ble_eq_true rfl) ⟨(by show _ ≤ 12; omega), (by show _ ≤ 12; omega)⟩ rfl (Nat.le_of_ble_eq_true rfl) rfl rfl (fun _ _ h => h.elim) ?_
                                rintro _ _ ⟨rfl, hw266⟩
                                refine j_w w29 hw266 ?_
                                obtain ⟨lv267, -, lg267⟩ := z_li.cell (h29.rw (i := i135) (by omega)).1
                                refine j_callV (q := (RJx4a65c, TJx4a65c, 3)) dX11_replaceAll_175 kJx4a65c_set_bcc79 lX11_119 inJx4a65c_set_bcc79 seJx4a65c_set_bcc79 lg267 rfl (cl_set hl w29 _ _ _ _ (A.length) _ _ (h29.rw (i := i135) (by omega)).1 (z_bx_get (by rw [R29.wlB (by omega) z_fu_self]; omega)) z_elF) (Nat.le_of_ble_eq_true rfl) ⟨(by show _ ≤ 12; omega), (by show _ ≤ 12; omega)⟩ rfl (Nat.le_of_ble_eq_true rfl) rfl rfl (fun _ _ h => h.elim) ?_
                                rintro _ w32 ⟨rfl, fw32, hr32⟩
                                rw [z_bx_set] at hr32
                                have fm32 := fw32.fm (q := 56) (by omega)
                                have h32 := h29.li11 (i0 := i135) (by omega) fw32 hr32 (by rw [List.length_set]; exact (h29.rw (i := i135) (by omega)).2)
                                have R32 := R29.uwm h32 (R29.wset (k := A.length) (x := y261) (by omega) z_fu_self)
                                rw [sp_uRR, sp_mids] at R32
                                refine j_pop dX11_replaceAll_178 rfl ?_
                                refine j_aload_n dX11_replaceAll_179 rfl rfl ?_
                                refine j_getf dX11_replaceAll_180 fX11_31 h32.m rfl ?_
                                refine j_iload_n dX11_replaceAll_183 rfl ?_
                                obtain ⟨fz268, gz268, hz268⟩ := h32.co
                                refine j_aald (v := .ref (1004 + i135)) dX11_replaceAll_184 gz268 rfl rfl (vp_in_nI (by omega) (by omega)) (by rw [z_cla (by omega)]; exact hz268 _ (by omega)) ?_
                                refine j_iconst (v := 3) dX11_replaceAll_185 (by decide) ?_
                                refine j_dup2 dX11_replaceAll_186 rfl rfl ?_
                                refine j_ld dX11_replaceAll_187 (h32.cn (i := i135) (by omega)) (vp_in_nI (n := 3) (by decide) (by decide)) ?_
                                refine j_iconst (v := 1) dX11_replaceAll_188 (by decide) ?_
                                refine j_iadd dX11_replaceAll_189 ?_
                                refine j_sto (w' := _) dX11_replaceAll_190 (h32.cn (i := i135) (by omega)) (vp_in_nI (n := 3) (by decide) (by decide)) rfl ?_
                                refine j_seal (by omega) ?_
                                intro w33 u33
                                have fw33 := u33.fw (ρ := 44 + i135) (by omega) (by omega)
                                have h33 := h32.up44 (i0 := i135) (by omega) fw33 u33.1
                                rw [show (3 : Int32).toNatClampNeg = 3 by decide] at h33
                                have R33 := R32.bpR (i := i135) (k := 3) (by omega) (by decide)
                                refine j_iinc (lo' := [(4, _), (5, _), (0, _), (1, _), (2, _), (3, _)]) dX11_replaceAll_191 rfl (z_inc _) (by decide) rfl ?_
                                refine j_goto (tgt := 63) dX11_replaceAll_194 (by decide) ?_
                                refine j_widen (kc' := (A.length + 1)) (ks' := (A.length + 1)) (by omega) (by omega) ?_
                                exact j_lo2 (ih w33 _ (A ++ [y261]) L2 _ (A.length + 1) sp_apn (by rw [List.length_cons] at hf9; omega) sp_apl (by rw [List.length_cons] at hA; rw [List.length_append]; show A.length + 1 + _ ≤ 12; omega) (fun x hx => hv x (List.mem_cons_of_mem _ hx)) (by rw [hF148, sp_raT hq261] at he; rw [hF148]; exact he) (by rw [← sp_mid]; exact R33) (by exact hth) h33 ((((hfm.tr (fw28.fm (q := 59) (by omega))).tr (fw29.fm (q := 59) (by omega))).tr (fm32.le (q' := 59) (by decide))).tr (fw33.fm (q := 59) (by omega)))) (z_q1 rfl (z_q1 rfl (z_q1 rfl (z_q1 rfl (z_q1 rfl z_q0)))))
                              · exact absurd c_149_780 (by decide)
                  refine j_widen (kc' := 0) (ks' := 0) (by omega) (by omega) ?_
                  exact j_lo2 (loop63 ((sp_R S i135).length + 1) w25 _ [] (sp_R S i135) _ 0 (by exact rfl) (Nat.lt_succ_self _) sp_apl (by rw [List.length_nil]; omega) (fun x hx => (ok.1 i135 (by omega)).2 x hx) rfl (by rw [List.nil_append, show sp_uR (sp_uC S i135 (z_bp (sp_C S i135) 0)) i135 (sp_R S i135) = sp_uC S i135 (z_bp (sp_C S i135) 0) from sp_uR_id]; exact R25) (by exact rfl) h25 ((fm2.le (q' := 59) (by decide)).tr (fw25.fm (q := 59) (by omega)))) (z_q1 rfl (z_q1 rfl (z_q1 rfl (z_q1 rfl (z_q1 rfl z_q0)))))
                · exact absurd c_43_596 (by decide)
              · exact absurd c_31_590 (by decide)
end ZMe3
