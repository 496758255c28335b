section ZMp
variable {G : z_G} {l : Launch}
set_option maxRecDepth 100000 in
set_option maxHeartbeats 8000000 in
theorem cm_refuses (hl : l.stackTraces = false) (w : z_W) (s : z_Z) (i : Nat) (x : Int32) (h : z_mst w s) (hi : i < 2) : z_Con G l mX10_refuses 18 2 31 w [.ref (1009 + i), .int x] (fun v w9 => (v = some (.int 1) ∧ ((z_qh s i).1 ≠ -1000 ∧ (z_qh s i).1 = x) ∧ w9 = w) ∨ (v = some (.int 0) ∧ ¬ ((z_qh s i).1 ≠ -1000 ∧ (z_qh s i).1 = x) ∧ ∃ s9, z_fm 56 w w9 ∧ z_mst w9 s9 ∧ z_key s9 = z_key s ∧ z_sx s s9 ∧ z_qh s9 i = ((z_qh s i).1, (z_qh s i).2.1 + 1, (z_qh s i).2.2.1 + x, x) ∧ (z_ql s9 i).2 = z_rec (z_ql s i).2 x ∧ ∀ j, j ≠ i → z_qh s9 j = z_qh s j ∧ z_ql s9 j = z_ql s j)) (fun _ _ => False) := by
  have ke0 : z_key s = z_key s := rfl
  refine z_body hl (by decide) rfl (Nat.le_of_ble_eq_true rfl) ?_
  show z_J G l mX10_refuses _ 0 [(0, _), (1, _)] [] _ 0 0
  refine j_aload_n dX10_refuses_0 rfl rfl ?_
  refine j_getf dX10_refuses_1 fX10_9 (h.hd (i := i) hi) rfl ?_
  refine j_sipush (v := (-1000)) dX10_refuses_4 (by decide) ?_
  refine j_icmp_eq (tgt := 20) dX10_refuses_7 (by decide) (fun c_7_5 => ?_) (fun c_7_5 => ?_)
  · refine j_aload_n dX10_refuses_20 rfl rfl ?_
    refine j_dup dX10_refuses_21 rfl ?_
    refine j_getf dX10_refuses_22 fX10_25 (h.hd (i := i) hi) rfl ?_
    refine j_iconst (v := 1) dX10_refuses_25 (by decide) ?_
    refine j_iadd dX10_refuses_26 ?_
    refine j_put (w' := _) dX10_refuses_27 fX10_25 tX10_1 (h.hd (i := i) hi) ⟨rfl, rfl⟩ rfl ?_
    refine j_seal (by omega) ?_
    intro w1 u1
    have fw1 := u1.fw (ρ := 49 + i) (by omega) (by omega)
    have h1 := h.up49 (i0 := i) hi fw1 u1.1
    have ke1 := z_ke h1 ke0 z_keH
    refine j_aload_n dX10_refuses_30 rfl rfl ?_
    refine j_dup dX10_refuses_31 rfl ?_
    refine j_getf dX10_refuses_32 fX10_28 (h1.hd (i := i) hi) rfl ?_
    refine j_iload_n dX10_refuses_35 rfl ?_
    refine j_iadd dX10_refuses_36 ?_
    refine j_put (w' := _) dX10_refuses_37 fX10_28 tX10_2 (h1.hd (i := i) hi) ⟨rfl, rfl⟩ rfl ?_
    refine j_seal (by omega) ?_
    intro w2 u2
    have fw2 := u2.fw (ρ := 49 + i) (by omega) (by omega)
    have h2 := h1.up49 (i0 := i) hi fw2 u2.1
    have ke2 := z_ke h2 ke1 z_keH
    refine j_aload_n dX10_refuses_40 rfl rfl ?_
    refine j_iload_n dX10_refuses_41 rfl ?_
    refine j_put (w' := _) dX10_refuses_42 fX10_15 tX10_3 (h2.hd (i := i) hi) ⟨rfl, rfl⟩ rfl ?_
    refine j_seal (by omega) ?_
    intro w3 u3
    have fw3 := u3.fw (ρ := 49 + i) (by omega) (by omega)
    have h3 := h2.up49 (i0 := i) hi fw3 u3.1
    have ke3 := z_ke h3 ke2 z_keH
    refine j_aload_n dX10_refuses_45 rfl rfl ?_
    refine j_getf dX10_refuses_46 fX10_21 (h3.hd (i := i) hi) rfl ?_
    refine j_iload_n dX10_refuses_49 rfl ?_
    refine j_callS dX10_refuses_50 kJ6_valueOf_2dffe lX10_31 stJ6_valueOf_2dffe (cl_val hl w3 _) (Nat.le_of_ble_eq_true rfl) ⟨(Nat.le_of_ble_eq_true rfl), (Nat.le_of_ble_eq_true rfl)⟩ rfl (Nat.le_of_ble_eq_true rfl) rfl rfl (fun _ _ h => h.elim) ?_
    rintro _ _ ⟨rfl, hw1⟩
    refine j_w w3 hw1 ?_
    obtain ⟨lv2, -, lg2⟩ := z_li.cell (h3.hl (i := i) hi).1
    refine j_callV (q := (RJx4a65c, TJx4a65c, 3)) dX10_refuses_53 kJx4a65c_add_9ea2d lX10_37 inJx4a65c_add_9ea2d seJx4a65c_add_9ea2d lg2 rfl (cl_add hl w3 (54 + i) (1014 + i) _ _ 10 _ (h3.hl hi).1 (by omega) h3.fn (by rw [z_bx_len]; exact (h3.hl hi).2) (by decide) z_bx_el z_elF) (Nat.le_of_ble_eq_true rfl) ⟨(Nat.le_of_ble_eq_true rfl), (Nat.le_of_ble_eq_true rfl)⟩ rfl (Nat.le_of_ble_eq_true rfl) rfl rfl (fun _ _ h => h.elim) ?_
    rintro _ w4 ⟨rfl, fw4, mo4, hr4⟩
    rw [z_bx_app] at hr4
    have g4_hh := fw4.g (Or.inr (by omega)) (h3.hd hi)
    have hlen4 : (z_ql s i).2.length ≤ 10 := (h3.hl hi).2
    refine j_pop dX10_refuses_56 rfl ?_
    refine j_aload_n dX10_refuses_57 rfl rfl ?_
    refine j_getf dX10_refuses_58 fX10_21 g4_hh rfl ?_
    obtain ⟨lv3, -, lg3⟩ := z_li.cell hr4
    refine j_callV (q := (RJx4a65c, TJx4a65c, 3)) dX10_refuses_61 kJx4a65c_size_8abf5 lX10_41 inJx4a65c_size_8abf5 seJx4a65c_size_8abf5 lg3 rfl (cl_sizeB hl w4 _ _ _ _ hr4) (Nat.le_of_ble_eq_true rfl) ⟨(Nat.le_of_ble_eq_true rfl), (Nat.le_of_ble_eq_true rfl)⟩ rfl (Nat.le_of_ble_eq_true rfl) rfl rfl (fun _ _ h => h.elim) ?_
    rintro _ _ ⟨⟨n4, rfl, hn4⟩, hw4⟩
    refine j_w w4 hw4 ?_
    rw [List.length_append] at hn4
    have hn4 : n4 = (z_ql s i).2.length + 1 := hn4
    refine j_bipush (v := 10) dX10_refuses_64 (by decide) ?_
    refine j_icmp_le (tgt := 78) dX10_refuses_66 (by decide) (fun c_66_58 => ?_) (fun c_66_58 => ?_)
    · have hb66 : n4 ≤ 10 := (nI_leI (a := n4) (b := 10) (by omega) (by omega)).mp c_66_58
      refine j_iconst (v := 0) dX10_refuses_78 (by decide) ?_
      refine j_iret dX10_refuses_79 rfl rfl ?_ (Nat.le_of_ble_eq_true rfl) (Nat.le_of_ble_eq_true rfl)
      have hB : (z_rec (z_ql s i).2 x).length ≤ 10 ∧ z_li w4 (54 + i) (1014 + i) mo4 (z_bx (z_rec (z_ql s i).2 x)) := by
        unfold z_rec
        have h9 := z_le10 (by omega) c_66_58
        rw [if_pos (by rw [List.length_append]; show _ + 1 ≤ 10; omega)]
        exact ⟨by rw [List.length_append]; show _ + 1 ≤ 10; omega, hr4⟩
      have h99 := h3.li54 hi fw4 hB.2 hB.1
      exact Or.inr ⟨rfl, (fun z => z.1 c_7_5), _, ((((fw1.fm (q := 56) (by omega)).tr (fw2.fm (q := 56) (by omega))).tr (fw3.fm (q := 56) (by omega))).tr (fw4.fm (q := 56) (by omega))), h99, z_ke h99 ke3 rfl, ⟨rfl, rfl, rfl, rfl, rfl, rfl, rfl, rfl⟩, by simp only [z_qh, z_ql, z_th, z_tl, z_fu_self], by simp only [z_qh, z_ql, z_th, z_tl, z_fu_self], fun j hj => ⟨by simp only [z_qh, z_ql, z_th, z_tl, z_fu_ne hj], by simp only [z_qh, z_ql, z_th, z_tl, z_fu_ne hj]⟩⟩
    · have hb66 : 10 < n4 := Nat.not_le.mp (fun z => c_66_58 ((nI_leI (a := n4) (b := 10) (by omega) (by omega)).mpr z))
      refine j_aload_n dX10_refuses_69 rfl rfl ?_
      refine j_getf dX10_refuses_70 fX10_21 g4_hh rfl ?_
      refine j_iconst (v := 0) dX10_refuses_73 (by decide) ?_
      obtain ⟨lv5, -, lg5⟩ := z_li.cell hr4
      refine j_callV (q := (RJx4a65c, TJx4a65c, 3)) dX10_refuses_74 kJx4a65c_remove_915e3 lX10_45 inJx4a65c_remove_915e3 seJx4a65c_remove_915e3 lg5 rfl (cl_rem hl w4 _ _ _ _ 0 _ hr4 (z_bx_get (by rw [List.length_append]; exact Nat.succ_pos _)) (fw4.2.1 h3.fn) z_bx_el) (Nat.le_of_ble_eq_true rfl) ⟨(Nat.le_of_ble_eq_true rfl), (Nat.le_of_ble_eq_true rfl)⟩ rfl (Nat.le_of_ble_eq_true rfl) rfl rfl (fun _ _ h => h.elim) ?_
      rintro _ w5 ⟨rfl, fw5, mo5, hr5⟩
      rw [z_bx_rem] at hr5
      refine j_pop dX10_refuses_77 rfl ?_
      refine j_iconst (v := 0) dX10_refuses_78 (by decide) ?_
      refine j_iret dX10_refuses_79 rfl rfl ?_ (Nat.le_of_ble_eq_true rfl) (Nat.le_of_ble_eq_true rfl)
      have hB : (z_rec (z_ql s i).2 x).length ≤ 10 ∧ z_li w5 (54 + i) (1014 + i) mo5 (z_bx (z_rec (z_ql s i).2 x)) := by
        unfold z_rec
        have h9 := z_gt10 (by omega) c_66_58
        rw [if_neg (by rw [List.length_append]; show ¬ _ + 1 ≤ 10; omega)]
        exact ⟨by rw [List.length_eraseIdx_of_lt (by rw [List.length_append]; exact Nat.succ_pos _), List.length_append]; show _ + 1 - 1 ≤ 10; omega, hr5⟩
      have h99 := h3.li54 hi (fw4.tr fw5) hB.2 hB.1
      exact Or.inr ⟨rfl, (fun z => z.1 c_7_5), _, ((((fw1.fm (q := 56) (by omega)).tr (fw2.fm (q := 56) (by omega))).tr (fw3.fm (q := 56) (by omega))).tr ((fw4.tr fw5).fm (q := 56) (by omega))), h99, z_ke h99 ke3 rfl, ⟨rfl, rfl, rfl, rfl, rfl, rfl, rfl, rfl⟩, by simp only [z_qh, z_ql, z_th, z_tl, z_fu_self], by simp only [z_qh, z_ql, z_th, z_tl, z_fu_self], fun j hj => ⟨by simp only [z_qh, z_ql, z_th, z_tl, z_fu_ne hj], by simp only [z_qh, z_ql, z_th, z_tl, z_fu_ne hj]⟩⟩
  · refine j_iload_n dX10_refuses_10 rfl ?_
    refine j_aload_n dX10_refuses_11 rfl rfl ?_
    refine j_getf dX10_refuses_12 fX10_9 (h.hd (i := i) hi) rfl ?_
    refine j_icmp_ne (tgt := 20) dX10_refuses_15 (by decide) (fun c_15_90 => ?_) (fun c_15_90 => ?_)
    · refine j_aload_n dX10_refuses_20 rfl rfl ?_
      refine j_dup dX10_refuses_21 rfl ?_
      refine j_getf dX10_refuses_22 fX10_25 (h.hd (i := i) hi) rfl ?_
      refine j_iconst (v := 1) dX10_refuses_25 (by decide) ?_
      refine j_iadd dX10_refuses_26 ?_
      refine j_put (w' := _) dX10_refuses_27 fX10_25 tX10_1 (h.hd (i := i) hi) ⟨rfl, rfl⟩ rfl ?_
      refine j_seal (by omega) ?_
      intro w6 u6
      have fw6 := u6.fw (ρ := 49 + i) (by omega) (by omega)
      have h6 := h.up49 (i0 := i) hi fw6 u6.1
      have ke6 := z_ke h6 ke0 z_keH
      refine j_aload_n dX10_refuses_30 rfl rfl ?_
      refine j_dup dX10_refuses_31 rfl ?_
      refine j_getf dX10_refuses_32 fX10_28 (h6.hd (i := i) hi) rfl ?_
      refine j_iload_n dX10_refuses_35 rfl ?_
      refine j_iadd dX10_refuses_36 ?_
      refine j_put (w' := _) dX10_refuses_37 fX10_28 tX10_2 (h6.hd (i := i) hi) ⟨rfl, rfl⟩ rfl ?_
      refine j_seal (by omega) ?_
      intro w7 u7
      have fw7 := u7.fw (ρ := 49 + i) (by omega) (by omega)
      have h7 := h6.up49 (i0 := i) hi fw7 u7.1
      have ke7 := z_ke h7 ke6 z_keH
      refine j_aload_n dX10_refuses_40 rfl rfl ?_
      refine j_iload_n dX10_refuses_41 rfl ?_
      refine j_put (w' := _) dX10_refuses_42 fX10_15 tX10_3 (h7.hd (i := i) hi) ⟨rfl, rfl⟩ rfl ?_
      refine j_seal (by omega) ?_
      intro w8 u8
      have fw8 := u8.fw (ρ := 49 + i) (by omega) (by omega)
      have h8 := h7.up49 (i0 := i) hi fw8 u8.1
      have ke8 := z_ke h8 ke7 z_keH
      refine j_aload_n dX10_refuses_45 rfl rfl ?_
      refine j_getf dX10_refuses_46 fX10_21 (h8.hd (i := i) hi) rfl ?_
      refine j_iload_n dX10_refuses_49 rfl ?_
      refine j_callS dX10_refuses_50 kJ6_valueOf_2dffe lX10_31 stJ6_valueOf_2dffe (cl_val hl w8 _) (Nat.le_of_ble_eq_true rfl) ⟨(Nat.le_of_ble_eq_true rfl), (Nat.le_of_ble_eq_true rfl)⟩ rfl (Nat.le_of_ble_eq_true rfl) rfl rfl (fun _ _ h => h.elim) ?_
      rintro _ _ ⟨rfl, hw6⟩
      refine j_w w8 hw6 ?_
      obtain ⟨lv7, -, lg7⟩ := z_li.cell (h8.hl (i := i) hi).1
      refine j_callV (q := (RJx4a65c, TJx4a65c, 3)) dX10_refuses_53 kJx4a65c_add_9ea2d lX10_37 inJx4a65c_add_9ea2d seJx4a65c_add_9ea2d lg7 rfl (cl_add hl w8 (54 + i) (1014 + i) _ _ 10 _ (h8.hl hi).1 (by omega) h8.fn (by rw [z_bx_len]; exact (h8.hl hi).2) (by decide) z_bx_el z_elF) (Nat.le_of_ble_eq_true rfl) ⟨(Nat.le_of_ble_eq_true rfl), (Nat.le_of_ble_eq_true rfl)⟩ rfl (Nat.le_of_ble_eq_true rfl) rfl rfl (fun _ _ h => h.elim) ?_
      rintro _ w9 ⟨rfl, fw9, mo9, hr9⟩
      rw [z_bx_app] at hr9
      have g9_hh := fw9.g (Or.inr (by omega)) (h8.hd hi)
      have hlen9 : (z_ql s i).2.length ≤ 10 := (h8.hl hi).2
      refine j_pop dX10_refuses_56 rfl ?_
      refine j_aload_n dX10_refuses_57 rfl rfl ?_
      refine j_getf dX10_refuses_58 fX10_21 g9_hh rfl ?_
      obtain ⟨lv8, -, lg8⟩ := z_li.cell hr9
      refine j_callV (q := (RJx4a65c, TJx4a65c, 3)) dX10_refuses_61 kJx4a65c_size_8abf5 lX10_41 inJx4a65c_size_8abf5 seJx4a65c_size_8abf5 lg8 rfl (cl_sizeB hl w9 _ _ _ _ hr9) (Nat.le_of_ble_eq_true rfl) ⟨(Nat.le_of_ble_eq_true rfl), (Nat.le_of_ble_eq_true rfl)⟩ rfl (Nat.le_of_ble_eq_true rfl) rfl rfl (fun _ _ h => h.elim) ?_
      rintro _ _ ⟨⟨n9, rfl, hn9⟩, hw9⟩
      refine j_w w9 hw9 ?_
      rw [List.length_append] at hn9
      have hn9 : n9 = (z_ql s i).2.length + 1 := hn9
      refine j_bipush (v := 10) dX10_refuses_64 (by decide) ?_
      refine j_icmp_le (tgt := 78) dX10_refuses_66 (by decide) (fun c_66_143 => ?_) (fun c_66_143 => ?_)
      · have hb66 : n9 ≤ 10 := (nI_leI (a := n9) (b := 10) (by omega) (by omega)).mp c_66_143
        refine j_iconst (v := 0) dX10_refuses_78 (by decide) ?_
        refine j_iret dX10_refuses_79 rfl rfl ?_ (Nat.le_of_ble_eq_true rfl) (Nat.le_of_ble_eq_true rfl)
        have hB : (z_rec (z_ql s i).2 x).length ≤ 10 ∧ z_li w9 (54 + i) (1014 + i) mo9 (z_bx (z_rec (z_ql s i).2 x)) := by
          unfold z_rec
          have h9 := z_le10 (by omega) c_66_143
          rw [if_pos (by rw [List.length_append]; show _ + 1 ≤ 10; omega)]
          exact ⟨by rw [List.length_append]; show _ + 1 ≤ 10; omega, hr9⟩
        have h99 := h8.li54 hi fw9 hB.2 hB.1
        exact Or.inr ⟨rfl, (fun z => c_15_90 z.2.symm), _, ((((fw6.fm (q := 56) (by omega)).tr (fw7.fm (q := 56) (by omega))).tr (fw8.fm (q := 56) (by omega))).tr (fw9.fm (q := 56) (by omega))), h99, z_ke h99 ke8 rfl, ⟨rfl, rfl, rfl, rfl, rfl, rfl, rfl, rfl⟩, by simp only [z_qh, z_ql, z_th, z_tl, z_fu_self], by simp only [z_qh, z_ql, z_th, z_tl, z_fu_self], fun j hj => ⟨by simp only [z_qh, z_ql, z_th, z_tl, z_fu_ne hj], by simp only [z_qh, z_ql, z_th, z_tl, z_fu_ne hj]⟩⟩
      · have hb66 : 10 < n9 := Nat.not_le.mp (fun z => c_66_143 ((nI_leI (a := n9) (b := 10) (by omega) (by omega)).mpr z))
        refine j_aload_n dX10_refuses_69 rfl rfl ?_
        refine j_getf dX10_refuses_70 fX10_21 g9_hh rfl ?_
        refine j_iconst (v := 0) dX10_refuses_73 (by decide) ?_
        obtain ⟨lv10, -, lg10⟩ := z_li.cell hr9
        refine j_callV (q := (RJx4a65c, TJx4a65c, 3)) dX10_refuses_74 kJx4a65c_remove_915e3 lX10_45 inJx4a65c_remove_915e3 seJx4a65c_remove_915e3 lg10 rfl (cl_rem hl w9 _ _ _ _ 0 _ hr9 (z_bx_get (by rw [List.length_append]; exact Nat.succ_pos _)) (fw9.2.1 h8.fn) z_bx_el) (Nat.le_of_ble_eq_true rfl) ⟨(Nat.le_of_ble_eq_true rfl), (Nat.le_of_ble_eq_true rfl)⟩ rfl (Nat.le_of_ble_eq_true rfl) rfl rfl (fun _ _ h => h.elim) ?_
        rintro _ w10 ⟨rfl, fw10, mo10, hr10⟩
        rw [z_bx_rem] at hr10
        refine j_pop dX10_refuses_77 rfl ?_
        refine j_iconst (v := 0) dX10_refuses_78 (by decide) ?_
        refine j_iret dX10_refuses_79 rfl rfl ?_ (Nat.le_of_ble_eq_true rfl) (Nat.le_of_ble_eq_true rfl)
        have hB : (z_rec (z_ql s i).2 x).length ≤ 10 ∧ z_li w10 (54 + i) (1014 + i) mo10 (z_bx (z_rec (z_ql s i).2 x)) := by
          unfold z_rec
          have h9 := z_gt10 (by omega) c_66_143
          rw [if_neg (by rw [List.length_append]; show ¬ _ + 1 ≤ 10; omega)]
          exact ⟨by rw [List.length_eraseIdx_of_lt (by rw [List.length_append]; exact Nat.succ_pos _), List.length_append]; show _ + 1 - 1 ≤ 10; omega, hr10⟩
        have h99 := h8.li54 hi (fw9.tr fw10) hB.2 hB.1
        exact Or.inr ⟨rfl, (fun z => c_15_90 z.2.symm), _, ((((fw6.fm (q := 56) (by omega)).tr (fw7.fm (q := 56) (by omega))).tr (fw8.fm (q := 56) (by omega))).tr ((fw9.tr fw10).fm (q := 56) (by omega))), h99, z_ke h99 ke8 rfl, ⟨rfl, rfl, rfl, rfl, rfl, rfl, rfl, rfl⟩, by simp only [z_qh, z_ql, z_th, z_tl, z_fu_self], by simp only [z_qh, z_ql, z_th, z_tl, z_fu_self], fun j hj => ⟨by simp only [z_qh, z_ql, z_th, z_tl, z_fu_ne hj], by simp only [z_qh, z_ql, z_th, z_tl, z_fu_ne hj]⟩⟩
    · refine j_iconst (v := 1) dX10_refuses_18 (by decide) ?_
      refine j_iret dX10_refuses_19 rfl rfl ?_ (Nat.le_of_ble_eq_true rfl) (Nat.le_of_ble_eq_true rfl)
      exact Or.inl ⟨rfl, ⟨c_7_5, (c_15_90).symm⟩, rfl⟩
set_option maxRecDepth 100000 in
set_option maxHeartbeats 8000000 in
theorem cm_forgetH (hl : l.stackTraces = false) (w : z_W) (s : z_Z) (i : Nat) (h : z_mst w s) (hi : i < 2) : z_Con G l mX10_forget 13 0 0 w [.ref (1009 + i)] (fun v w9 => v = none ∧ ∃ s9, z_fm 56 w w9 ∧ z_mst w9 s9 ∧ z_key s9 = z_key s ∧ z_sx s s9 ∧ z_qh s9 i = ((z_qh s i).1, 0, 0, -1) ∧ (z_ql s9 i).2 = [] ∧ ∀ j, j ≠ i → z_qh s9 j = z_qh s j ∧ z_ql s9 j = z_ql s j) (fun _ _ => False) := by
  have ke0 : z_key s = z_key s := rfl
  refine z_body hl (by decide) rfl (Nat.le_of_ble_eq_true rfl) ?_
  show z_J G l mX10_forget _ 0 [(0, _)] [] _ 0 0
  refine j_aload_n dX10_forget_0 rfl rfl ?_
  refine j_iconst (v := 0) dX10_forget_1 (by decide) ?_
  refine j_put (w' := _) dX10_forget_2 fX10_25 tX10_1 (h.hd (i := i) hi) ⟨rfl, rfl⟩ rfl ?_
  refine j_seal (by omega) ?_
  intro w1 u1
  have fw1 := u1.fw (ρ := 49 + i) (by omega) (by omega)
  have h1 := h.up49 (i0 := i) hi fw1 u1.1
  have ke1 := z_ke h1 ke0 z_keH
  refine j_aload_n dX10_forget_5 rfl rfl ?_
  refine j_iconst (v := 0) dX10_forget_6 (by decide) ?_
  refine j_put (w' := _) dX10_forget_7 fX10_28 tX10_2 (h1.hd (i := i) hi) ⟨rfl, rfl⟩ rfl ?_
  refine j_seal (by omega) ?_
  intro w2 u2
  have fw2 := u2.fw (ρ := 49 + i) (by omega) (by omega)
  have h2 := h1.up49 (i0 := i) hi fw2 u2.1
  have ke2 := z_ke h2 ke1 z_keH
  refine j_aload_n dX10_forget_10 rfl rfl ?_
  refine j_iconst (v := (-1)) dX10_forget_11 (by decide) ?_
  refine j_put (w' := _) dX10_forget_12 fX10_15 tX10_3 (h2.hd (i := i) hi) ⟨rfl, rfl⟩ rfl ?_
  refine j_seal (by omega) ?_
  intro w3 u3
  have fw3 := u3.fw (ρ := 49 + i) (by omega) (by omega)
  have h3 := h2.up49 (i0 := i) hi fw3 u3.1
  have ke3 := z_ke h3 ke2 z_keH
  refine j_aload_n dX10_forget_15 rfl rfl ?_
  refine j_getf dX10_forget_16 fX10_21 (h3.hd (i := i) hi) rfl ?_
  obtain ⟨lv11, -, lg11⟩ := z_li.cell (h3.hl (i := i) hi).1
  refine j_callV (q := (RJx4a65c, TJx4a65c, 3)) dX10_forget_19 kJx4a65c_clear_da8c8 lX10_49 inJx4a65c_clear_da8c8 seJx4a65c_clear_da8c8 lg11 rfl (cl_clear hl w3 _ _ _ _ (h3.hl hi).1 h3.fn) (Nat.le_of_ble_eq_true rfl) ⟨(Nat.le_of_ble_eq_true rfl), (Nat.le_of_ble_eq_true rfl)⟩ rfl (Nat.le_of_ble_eq_true rfl) rfl rfl (fun _ _ h => h.elim) ?_
  rintro _ w4 ⟨rfl, fw4, mo4, hr4⟩
  have fm4 := fw4.fm (q := 56) (by omega)
  have h4 := h3.li54 (B := []) hi fw4 hr4 (by decide)
  have ke4 := z_ke h4 ke3 rfl
  refine j_vret dX10_forget_22 rfl ?_ (Nat.le_of_ble_eq_true rfl) (Nat.le_of_ble_eq_true rfl)
  exact ⟨rfl, _, ((((fw1.fm (q := 56) (by omega)).tr (fw2.fm (q := 56) (by omega))).tr (fw3.fm (q := 56) (by omega))).tr (fm4.le (q' := 56) (by decide))), h4, ke4, ⟨rfl, rfl, rfl, rfl, rfl, rfl, rfl, rfl⟩, by simp only [z_qh, z_ql, z_th, z_tl, z_fu_self], by simp only [z_qh, z_ql, z_th, z_tl, z_fu_self], fun j hj => ⟨by simp only [z_qh, z_ql, z_th, z_tl, z_fu_ne hj], by simp only [z_qh, z_ql, z_th, z_tl, z_fu_ne hj]⟩⟩
end ZMp
