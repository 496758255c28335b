section ZMr
variable {G : z_G} {l : Launch}
set_option maxRecDepth 100000 in
set_option maxHeartbeats 8000000 in
theorem cm_hearRow (hl : l.stackTraces = false) (w : z_W) (s : z_Z) (i a0 g : Nat) (h : z_mst w s) (hi : i < 2) (hg : g < 2) (ha : a0 ≤ 12) : z_Con G l mX11_hearRow 20 24 372 w [.ref 1000, .int (nI i), .int (nI a0), .int (nI g)] (fun v w9 => ∃ (r : Int32) (s9 : z_Z), v = some (.int r) ∧ z_fm 59 w w9 ∧ z_mst w9 s9 ∧ z_key s9 = z_key s) (fun _ _ => False) := by
  have ke0 : z_key s = z_key s := rfl
  refine z_body hl (by decide) rfl (Nat.le_of_ble_eq_true rfl) ?_
  show z_J G l mX11_hearRow _ 0 [(0, _), (1, _), (2, _), (3, _)] [] _ 0 0
  refine j_aload_n dX11_hearRow_0 rfl rfl ?_
  refine j_getf dX11_hearRow_1 fX11_31 h.m rfl ?_
  refine j_iload_n dX11_hearRow_4 rfl ?_
  obtain ⟨fz80, gz80, hz80⟩ := h.co
  refine j_aald (v := .ref (1004 + i)) dX11_hearRow_5 gz80 rfl rfl (vp_in_nI (by omega) (by omega)) (by rw [z_cla (by omega)]; exact hz80 _ (by omega)) ?_
  refine j_iconst (v := 0) dX11_hearRow_6 (by decide) ?_
  refine j_dup2 dX11_hearRow_7 rfl rfl ?_
  refine j_ld dX11_hearRow_8 (h.cn (i := i) (by omega)) (vp_in_nI (n := 0) (by decide) (by decide)) ?_
  refine j_iconst (v := 1) dX11_hearRow_9 (by decide) ?_
  refine j_iadd dX11_hearRow_10 ?_
  refine j_sto (w' := _) dX11_hearRow_11 (h.cn (i := i) (by omega)) (vp_in_nI (n := 0) (by decide) (by decide)) rfl ?_
  refine j_seal (by omega) ?_
  intro w1 u1
  have fw1 := u1.fw (ρ := 44 + i) (by omega) (by omega)
  have h1 := h.up44 (i0 := i) (by omega) fw1 u1.1
  have ke1 := z_ke h1 ke0 rfl
  refine j_aload_n dX11_hearRow_12 rfl rfl ?_
  refine j_getf dX11_hearRow_13 fX11_31 h1.m rfl ?_
  refine j_iload_n dX11_hearRow_16 rfl ?_
  obtain ⟨fz83, gz83, hz83⟩ := h1.co
  refine j_aald (v := .ref (1004 + i)) dX11_hearRow_17 gz83 rfl rfl (vp_in_nI (by omega) (by omega)) (by rw [z_cla (by omega)]; exact hz83 _ (by omega)) ?_
  refine j_iconst (v := 2) dX11_hearRow_18 (by decide) ?_
  refine j_dup2 dX11_hearRow_19 rfl rfl ?_
  refine j_ld dX11_hearRow_20 (h1.cn (i := i) (by omega)) (vp_in_nI (n := 2) (by decide) (by decide)) ?_
  refine j_iload_n dX11_hearRow_21 rfl ?_
  refine j_iadd dX11_hearRow_22 ?_
  refine j_sto (w' := _) dX11_hearRow_23 (h1.cn (i := i) (by omega)) (vp_in_nI (n := 2) (by decide) (by decide)) rfl ?_
  refine j_seal (by omega) ?_
  intro w2 u2
  have fw2 := u2.fw (ρ := 44 + i) (by omega) (by omega)
  have h2 := h1.up44 (i0 := i) (by omega) fw2 u2.1
  have ke2 := z_ke h2 ke1 rfl
  refine j_iconst (v := 0) dX11_hearRow_24 (by decide) ?_
  refine j_istore (lo' := [(4, _), (0, _), (1, _), (2, _), (3, _)]) dX11_hearRow_25 (by decide) rfl ?_
  refine j_iload_n dX11_hearRow_27 rfl ?_
  refine j_istore (lo' := [(5, _), (4, _), (0, _), (1, _), (2, _), (3, _)]) dX11_hearRow_28 (by decide) rfl ?_
  have loop30 : ∀ (n9 : Nat) (w3 : z_W) (s1 : z_Z) (j : Nat) (m : Int32), a0 + j ≤ 12 → 12 < a0 + j + n9 → z_mst w3 s1 → z_fm 59 w w3 → z_key s1 = z_key s → z_J G l mX11_hearRow (20, 24, 372, w, (fun v w9 => ∃ (r : Int32) (s9 : z_Z), v = some (.int r) ∧ z_fm 59 w w9 ∧ z_mst w9 s9 ∧ z_key s9 = z_key s), (fun _ _ => False)) 30 [(0, .ref 1000), (1, .int (nI i)), (2, .int (nI a0)), (3, .int (nI g)), (4, .int m), (5, .int (nI (a0 + j)))] [] w3 (2 * j) (31 * j) := by
    intro n9
    induction n9 with
    | zero => intro w3 s1 j m hj hf9 hm hfm hke; exact absurd hf9 (by omega)
    | succ n9 ih =>
      intro w3 s1 j m hj hf9 hm hfm hke
      refine j_iload dX11_hearRow_30 rfl ?_
      refine j_aload_n dX11_hearRow_32 rfl rfl ?_
      refine j_getf dX11_hearRow_33 fX11_21 hm.m rfl ?_
      refine j_iload_n dX11_hearRow_36 rfl ?_
      obtain ⟨lv87, -, lg87⟩ := z_li.cell hm.rows
      refine j_callV (q := (RJx4a65c, TJx4a65c, 3)) dX11_hearRow_37 kJx4a65c_get_915e3 lX11_82 inJx4a65c_get_915e3 seJx4a65c_get_915e3 lg87 rfl (cl_get hl w3 41 1001 _ _ (i) _ hm.rows (z_two2 (i := i) (by omega))) (Nat.le_of_ble_eq_true rfl) ⟨(by show _ ≤ 24; omega), (by show _ ≤ 372; omega)⟩ rfl (Nat.le_of_ble_eq_true rfl) rfl rfl (fun _ _ h => h.elim) ?_
      rintro _ _ ⟨rfl, hw88⟩
      refine j_w w3 hw88 ?_
      refine j_castS dX11_hearRow_40 (z_w 1341 ((lwg_6 96).trans (by decide +kernel)) (by decide +kernel)) (z_li.is (hm.rw (i := i) (by omega)).1) ?_
      obtain ⟨lv90, -, lg90⟩ := z_li.cell (hm.rw (i := i) (by omega)).1
      refine j_callV (q := (RJx4a65c, TJx4a65c, 3)) dX11_hearRow_43 kJx4a65c_size_8abf5 lX11_86 inJx4a65c_size_8abf5 seJx4a65c_size_8abf5 lg90 rfl (cl_sizeB hl w3 _ _ _ _ (hm.rw (i := i) (by omega)).1) (Nat.le_of_ble_eq_true rfl) ⟨(by show _ ≤ 24; omega), (by show _ ≤ 372; omega)⟩ rfl (Nat.le_of_ble_eq_true rfl) rfl rfl (fun _ _ h => h.elim) ?_
      rintro _ _ ⟨⟨n91, rfl, hn91⟩, hw91⟩
      refine j_w w3 hw91 ?_
      have hn91 : n91 = (z_qw s1 (i)).2.length := hn91
      have hz91 : (z_qw s1 (i)).2.length ≤ 12 := (hm.rw (i := i) (by omega)).2
      refine j_icmp_ge (tgt := 121) dX11_hearRow_46 (by decide) (fun c_46_59 => ?_) (fun c_46_59 => ?_)
      · have hb46 : n91 ≤ (a0 + j) := (nI_leI (a := n91) (b := (a0 + j)) (by omega) (by omega)).mp c_46_59
        refine j_aload_n dX11_hearRow_121 rfl rfl ?_
        refine j_getf dX11_hearRow_122 fX11_31 hm.m rfl ?_
        refine j_iload_n dX11_hearRow_125 rfl ?_
        obtain ⟨fz92, gz92, hz92⟩ := hm.co
        refine j_aald (v := .ref (1004 + i)) dX11_hearRow_126 gz92 rfl rfl (vp_in_nI (by omega) (by omega)) (by rw [z_cla (by omega)]; exact hz92 _ (by omega)) ?_
        refine j_iconst (v := 1) dX11_hearRow_127 (by decide) ?_
        refine j_dup2 dX11_hearRow_128 rfl rfl ?_
        refine j_ld dX11_hearRow_129 (hm.cn (i := i) (by omega)) (vp_in_nI (n := 1) (by decide) (by decide)) ?_
        refine j_iconst (v := 1) dX11_hearRow_130 (by decide) ?_
        refine j_iadd dX11_hearRow_131 ?_
        refine j_sto (w' := _) dX11_hearRow_132 (hm.cn (i := i) (by omega)) (vp_in_nI (n := 1) (by decide) (by decide)) rfl ?_
        refine j_seal (by omega) ?_
        intro w4 u4
        have fw4 := u4.fw (ρ := 44 + i) (by omega) (by omega)
        have h4 := hm.up44 (i0 := i) (by omega) fw4 u4.1
        have ke4 := z_ke h4 hke rfl
        refine j_iload dX11_hearRow_133 rfl ?_
        refine j_iret dX11_hearRow_135 rfl rfl ?_ (by show _ ≤ 24; omega) (by show _ ≤ 372; omega)
        exact ⟨_, _, rfl, (hfm.tr (fw4.fm (q := 59) (by omega))), h4, ke4⟩
      · have hb46 : (a0 + j) < n91 := Nat.not_le.mp (fun z => c_46_59 ((nI_leI (a := n91) (b := (a0 + j)) (by omega) (by omega)).mpr z))
        refine j_aload_n dX11_hearRow_49 rfl rfl ?_
        refine j_getf dX11_hearRow_50 fX11_31 hm.m rfl ?_
        refine j_iload_n dX11_hearRow_53 rfl ?_
        obtain ⟨fz95, gz95, hz95⟩ := hm.co
        refine j_aald (v := .ref (1004 + i)) dX11_hearRow_54 gz95 rfl rfl (vp_in_nI (by omega) (by omega)) (by rw [z_cla (by omega)]; exact hz95 _ (by omega)) ?_
        refine j_iconst (v := 1) dX11_hearRow_55 (by decide) ?_
        refine j_dup2 dX11_hearRow_56 rfl rfl ?_
        refine j_ld dX11_hearRow_57 (hm.cn (i := i) (by omega)) (vp_in_nI (n := 1) (by decide) (by decide)) ?_
        refine j_iconst (v := 1) dX11_hearRow_58 (by decide) ?_
        refine j_iadd dX11_hearRow_59 ?_
        refine j_sto (w' := _) dX11_hearRow_60 (hm.cn (i := i) (by omega)) (vp_in_nI (n := 1) (by decide) (by decide)) rfl ?_
        refine j_seal (by omega) ?_
        intro w5 u5
        have fw5 := u5.fw (ρ := 44 + i) (by omega) (by omega)
        have h5 := hm.up44 (i0 := i) (by omega) fw5 u5.1
        have ke5 := z_ke h5 hke rfl
        refine j_aload_n dX11_hearRow_61 rfl rfl ?_
        refine j_getf dX11_hearRow_62 fX11_31 h5.m rfl ?_
        refine j_iload_n dX11_hearRow_65 rfl ?_
        obtain ⟨fz98, gz98, hz98⟩ := h5.co
        refine j_aald (v := .ref (1004 + i)) dX11_hearRow_66 gz98 rfl rfl (vp_in_nI (by omega) (by omega)) (by rw [z_cla (by omega)]; exact hz98 _ (by omega)) ?_
        refine j_iconst (v := 2) dX11_hearRow_67 (by decide) ?_
        refine j_dup2 dX11_hearRow_68 rfl rfl ?_
        refine j_ld dX11_hearRow_69 (h5.cn (i := i) (by omega)) (vp_in_nI (n := 2) (by decide) (by decide)) ?_
        refine j_iconst (v := 1) dX11_hearRow_70 (by decide) ?_
        refine j_iadd dX11_hearRow_71 ?_
        refine j_sto (w' := _) dX11_hearRow_72 (h5.cn (i := i) (by omega)) (vp_in_nI (n := 2) (by decide) (by decide)) rfl ?_
        refine j_seal (by omega) ?_
        intro w6 u6
        have fw6 := u6.fw (ρ := 44 + i) (by omega) (by omega)
        have h6 := h5.up44 (i0 := i) (by omega) fw6 u6.1
        have ke6 := z_ke h6 ke5 rfl
        refine j_aload_n dX11_hearRow_73 rfl rfl ?_
        refine j_getf dX11_hearRow_74 fX11_40 h6.m rfl ?_
        refine j_iload_n dX11_hearRow_77 rfl ?_
        obtain ⟨fz101, gz101, hz101⟩ := h6.hs
        refine j_aald (v := .ref (1009 + g)) dX11_hearRow_78 gz101 rfl rfl (vp_in_nI (by omega) (by omega)) (by rw [z_cla (by omega)]; exact hz101 _ (by omega)) ?_
        refine j_aload_n dX11_hearRow_79 rfl rfl ?_
        refine j_getf dX11_hearRow_80 fX11_21 h6.m rfl ?_
        refine j_iload_n dX11_hearRow_83 rfl ?_
        obtain ⟨lv103, -, lg103⟩ := z_li.cell h6.rows
        refine j_callV (q := (RJx4a65c, TJx4a65c, 3)) dX11_hearRow_84 kJx4a65c_get_915e3 lX11_82 inJx4a65c_get_915e3 seJx4a65c_get_915e3 lg103 rfl (cl_get hl w6 41 1001 _ _ (i) _ h6.rows (z_two2 (i := i) (by omega))) (Nat.le_of_ble_eq_true rfl) ⟨(by show _ ≤ 24; omega), (by show _ ≤ 372; omega)⟩ rfl (Nat.le_of_ble_eq_true rfl) rfl rfl (fun _ _ h => h.elim) ?_
        rintro _ _ ⟨rfl, hw104⟩
        refine j_w w6 hw104 ?_
        refine j_castS dX11_hearRow_87 (z_w 1341 ((lwg_6 96).trans (by decide +kernel)) (by decide +kernel)) (z_li.is (h6.rw (i := i) (by omega)).1) ?_
        refine j_iload dX11_hearRow_90 rfl ?_
        obtain ⟨lv107, -, lg107⟩ := z_li.cell (h6.rw (i := i) (by omega)).1
        refine j_callV (q := (RJx4a65c, TJx4a65c, 3)) dX11_hearRow_92 kJx4a65c_get_915e3 lX11_82 inJx4a65c_get_915e3 seJx4a65c_get_915e3 lg107 rfl (cl_get hl w6 _ _ _ _ ((a0 + j)) _ (h6.rw (i := i) (by omega)).1 (z_bx_get (B := (z_qw s1 (i)).2) (by omega))) (Nat.le_of_ble_eq_true rfl) ⟨(by show _ ≤ 24; omega), (by show _ ≤ 372; omega)⟩ rfl (Nat.le_of_ble_eq_true rfl) rfl rfl (fun _ _ h => h.elim) ?_
        rintro _ _ ⟨rfl, hw108⟩
        refine j_w w6 hw108 ?_
        refine j_castS dX11_hearRow_95 (z_w 1567 ((lwg_7 82).trans (by decide +kernel)) (by decide +kernel)) rfl ?_
        refine j_callVB (v0 := .float _) (C := "java/lang/Integer") dX11_hearRow_98 kJ6_intValue_8abf5 lX11_99 inJ6_intValue_8abf5 seJ6_intValue_8abf5 rfl (c_J6_intValue_8abf5 hl w6 _) (Nat.le_of_ble_eq_true rfl) ⟨(by show _ ≤ 24; omega), (by show _ ≤ 372; omega)⟩ rfl (Nat.le_of_ble_eq_true rfl) rfl rfl (fun _ _ h => h.elim) ?_
        rintro _ _ ⟨rfl, hw110⟩
        refine j_w w6 hw110 ?_
        refine j_callVN (q := (RX10, TX10, 5)) dX11_hearRow_101 kX10_refuses lX11_102 inX10_refuses seX10_refuses (h6.hd (i := g) (by omega)) rfl (cm_refuses hl w6 _ (g) _ h6 (by omega)) (Nat.le_of_ble_eq_true rfl) ⟨(by show _ ≤ 24; omega), (by show _ ≤ 372; omega)⟩ rfl (Nat.le_of_ble_eq_true rfl) rfl rfl (fun _ _ h => h.elim) ?_
        rintro _ w7 (⟨rfl, hst7, hw7⟩ | ⟨rfl, hst7, s7, fm7, h7, hk7, hx7, hh7, hr7, ho7⟩)
        · refine j_w w6 hw7 ?_
          refine j_if_eq (tgt := 112) dX11_hearRow_104 (by decide) (fun c_104_138 => ?_) (fun c_104_138 => ?_)
          · exact absurd c_104_138 (by decide)
          · refine j_aload_n dX11_hearRow_107 rfl rfl ?_
            refine j_callV (q := (RX11, TX11, 8)) dX11_hearRow_108 kX11_nine lX11_105 inX11_nine seX11_nine h6.m rfl (cm_nine hl w6 _ h6) (Nat.le_of_ble_eq_true rfl) ⟨(by show _ ≤ 24; omega), (by show _ ≤ 372; omega)⟩ rfl (Nat.le_of_ble_eq_true rfl) rfl rfl (fun _ _ h => h.elim) ?_
            rintro _ w8 ⟨rfl, fm8, h8⟩
            have ke8 := z_ke h8 ke6 rfl
            refine j_iret dX11_hearRow_111 rfl rfl ?_ (by show _ ≤ 24; omega) (by show _ ≤ 372; omega)
            exact ⟨_, _, rfl, (((hfm.tr (fw5.fm (q := 59) (by omega))).tr (fw6.fm (q := 59) (by omega))).tr (fm8.le (q' := 59) (by decide))), h8, ke8⟩
        · have ke7 := z_ke h7 ke6 hk7
          refine j_if_eq (tgt := 112) dX11_hearRow_104 (by decide) (fun c_104_147 => ?_) (fun c_104_147 => ?_)
          · refine j_iinc (lo' := [(4, _), (0, _), (1, _), (2, _), (3, _), (5, _)]) dX11_hearRow_112 rfl rfl (by decide) rfl ?_
            refine j_iinc (lo' := [(5, _), (4, _), (0, _), (1, _), (2, _), (3, _)]) dX11_hearRow_115 rfl (z_inc _) (by decide) rfl ?_
            refine j_goto (tgt := 30) dX11_hearRow_118 (by decide) ?_
            refine j_widen (kc' := (2 * (j + 1))) (ks' := (31 * (j + 1))) (by omega) (by omega) ?_
            exact j_lo2 (ih w7 _ (j + 1) _ (by omega) (by omega) h7 (((hfm.tr (fw5.fm (q := 59) (by omega))).tr (fw6.fm (q := 59) (by omega))).tr (fm7.le (q' := 59) (by decide))) ke7) (z_q1 rfl (z_q1 rfl (z_q1 rfl (z_q1 rfl (z_q1 rfl (z_q1 rfl z_q0))))))
          · exact absurd c_104_147 (by decide)
  refine j_widen (kc' := (2 * 0)) (ks' := (31 * 0)) (by omega) (by omega) ?_
  exact j_lo2 (loop30 13 w2 _ 0 0 (by omega) (by omega) h2 ((fw1.fm (q := 59) (by omega)).tr (fw2.fm (q := 59) (by omega))) ke2) (z_q1 rfl (z_q1 rfl (z_q1 rfl (z_q1 rfl (z_q1 rfl (z_q1 rfl z_q0))))))
set_option maxRecDepth 100000 in
set_option maxHeartbeats 8000000 in
theorem cm_hear (hl : l.stackTraces = false) (w : z_W) (s : z_Z) (x y : Int32) (h : z_mst w s)  : z_Con G l mX11_hear 22 24 372 w [.ref 1000, .int x, .int y] (fun v w9 => ∃ (r : Int32) (s9 : z_Z), v = some (.int r) ∧ z_fm 59 w w9 ∧ z_mst w9 s9 ∧ z_key s9 = z_key s) (fun _ _ => False) := by
  have ke0 : z_key s = z_key s := rfl
  refine z_body hl (by decide) rfl (Nat.le_of_ble_eq_true rfl) ?_
  show z_J G l mX11_hear _ 0 [(0, _), (1, _), (2, _)] [] _ 0 0
  refine j_aload_n dX11_hear_0 rfl rfl ?_
  refine j_iload_n dX11_hear_1 rfl ?_
  refine j_callS dX11_hear_2 kX11_isNoTwo lX11_72 stX11_isNoTwo (cm_isNoTwo hl w _) (Nat.le_of_ble_eq_true rfl) ⟨(Nat.le_of_ble_eq_true rfl), (Nat.le_of_ble_eq_true rfl)⟩ rfl (Nat.le_of_ble_eq_true rfl) rfl rfl (fun _ _ h => h.elim) ?_
  rintro _ _ ⟨⟨rfl, hno111⟩ | ⟨rfl, i111, hi111, rfl⟩, hw111⟩
  · refine j_w w hw111 ?_
    refine j_if_ne (tgt := 15) dX11_hear_5 (by decide) (fun c_5_7 => ?_) (fun c_5_7 => ?_)
    · refine j_iconst (v := 1) dX11_hear_15 (by decide) ?_
      refine j_goto (tgt := 20) dX11_hear_16 (by decide) ?_
      refine j_iconst (v := 1) dX11_hear_20 (by decide) ?_
      refine j_callV (q := (RX11, TX11, 8)) dX11_hear_21 kX11_start lX11_76 inX11_start seX11_start h.m rfl (cm_start1 hl w _ _ h (by decide)) (Nat.le_of_ble_eq_true rfl) ⟨(Nat.le_of_ble_eq_true rfl), (Nat.le_of_ble_eq_true rfl)⟩ rfl (Nat.le_of_ble_eq_true rfl) rfl rfl (fun _ _ h => h.elim) ?_
      rintro _ w1 ⟨rfl, fm1, h1⟩
      have ke1 := z_ke h1 ke0 rfl
      refine j_if_eq (tgt := 31) dX11_hear_24 (by decide) (fun c_24_14 => ?_) (fun c_24_14 => ?_)
      · exact absurd c_24_14 (by decide)
      · refine j_iconst (v := 0) dX11_hear_27 (by decide) ?_
        refine j_goto (tgt := 38) dX11_hear_28 (by decide) ?_
        refine j_iret dX11_hear_38 rfl rfl ?_ (Nat.le_of_ble_eq_true rfl) (Nat.le_of_ble_eq_true rfl)
        exact ⟨_, _, rfl, (fm1.le (q' := 59) (by decide)), h1, ke1⟩
    · exact absurd c_5_7 (by decide)
  · refine j_w w hw111 ?_
    refine j_if_ne (tgt := 15) dX11_hear_5 (by decide) (fun c_5_22 => ?_) (fun c_5_22 => ?_)
    · exact absurd c_5_22 (by decide)
    · refine j_iload_n dX11_hear_8 rfl ?_
      refine j_callS dX11_hear_9 kX11_isNoTwo lX11_72 stX11_isNoTwo (cm_isNoTwo hl w _) (Nat.le_of_ble_eq_true rfl) ⟨(Nat.le_of_ble_eq_true rfl), (Nat.le_of_ble_eq_true rfl)⟩ rfl (Nat.le_of_ble_eq_true rfl) rfl rfl (fun _ _ h => h.elim) ?_
      rintro _ _ ⟨⟨rfl, hno112⟩ | ⟨rfl, i112, hi112, rfl⟩, hw112⟩
      · refine j_w w hw112 ?_
        refine j_if_eq (tgt := 19) dX11_hear_12 (by decide) (fun c_12_28 => ?_) (fun c_12_28 => ?_)
        · exact absurd c_12_28 (by decide)
        · refine j_iconst (v := 1) dX11_hear_15 (by decide) ?_
          refine j_goto (tgt := 20) dX11_hear_16 (by decide) ?_
          refine j_iconst (v := 1) dX11_hear_20 (by decide) ?_
          refine j_callV (q := (RX11, TX11, 8)) dX11_hear_21 kX11_start lX11_76 inX11_start seX11_start h.m rfl (cm_start1 hl w _ _ h (by decide)) (Nat.le_of_ble_eq_true rfl) ⟨(Nat.le_of_ble_eq_true rfl), (Nat.le_of_ble_eq_true rfl)⟩ rfl (Nat.le_of_ble_eq_true rfl) rfl rfl (fun _ _ h => h.elim) ?_
          rintro _ w2 ⟨rfl, fm2, h2⟩
          have ke2 := z_ke h2 ke0 rfl
          refine j_if_eq (tgt := 31) dX11_hear_24 (by decide) (fun c_24_36 => ?_) (fun c_24_36 => ?_)
          · exact absurd c_24_36 (by decide)
          · refine j_iconst (v := 0) dX11_hear_27 (by decide) ?_
            refine j_goto (tgt := 38) dX11_hear_28 (by decide) ?_
            refine j_iret dX11_hear_38 rfl rfl ?_ (Nat.le_of_ble_eq_true rfl) (Nat.le_of_ble_eq_true rfl)
            exact ⟨_, _, rfl, (fm2.le (q' := 59) (by decide)), h2, ke2⟩
      · refine j_w w hw112 ?_
        refine j_if_eq (tgt := 19) dX11_hear_12 (by decide) (fun c_12_43 => ?_) (fun c_12_43 => ?_)
        · refine j_iconst (v := 0) dX11_hear_19 (by decide) ?_
          refine j_iconst (v := 1) dX11_hear_20 (by decide) ?_
          refine j_callV (q := (RX11, TX11, 8)) dX11_hear_21 kX11_start lX11_76 inX11_start seX11_start h.m rfl (cm_start0 hl w _ _ h) (Nat.le_of_ble_eq_true rfl) ⟨(Nat.le_of_ble_eq_true rfl), (Nat.le_of_ble_eq_true rfl)⟩ rfl (Nat.le_of_ble_eq_true rfl) rfl rfl (fun _ _ h => h.elim) ?_
          rintro _ w3 ⟨rfl, fm3, h3⟩
          have ke3 := z_ke h3 ke0 rfl
          refine j_if_eq (tgt := 31) dX11_hear_24 (by decide) (fun c_24_49 => ?_) (fun c_24_49 => ?_)
          · refine j_aload_n dX11_hear_31 rfl rfl ?_
            refine j_iload_n dX11_hear_32 rfl ?_
            refine j_iconst (v := 0) dX11_hear_33 (by decide) ?_
            refine j_iload_n dX11_hear_34 rfl ?_
            refine j_callV (q := (RX11, TX11, 8)) dX11_hear_35 kX11_hearRow lX11_108 inX11_hearRow seX11_hearRow h3.m rfl (cm_hearRow hl w3 _ (i111) (0) (i112) h3 (by omega) (by omega) (by omega)) (Nat.le_of_ble_eq_true rfl) ⟨(Nat.le_of_ble_eq_true rfl), (Nat.le_of_ble_eq_true rfl)⟩ rfl (Nat.le_of_ble_eq_true rfl) rfl rfl (fun _ _ h => h.elim) ?_
            rintro _ w4 ⟨r4, s4, rfl, fm4, h4, hk4⟩
            have ke4 := z_ke h4 ke3 hk4
            refine j_iret dX11_hear_38 rfl rfl ?_ (Nat.le_of_ble_eq_true rfl) (Nat.le_of_ble_eq_true rfl)
            exact ⟨_, _, rfl, ((fm3.le (q' := 59) (by decide)).tr (fm4.le (q' := 59) (by decide))), h4, ke4⟩
          · exact absurd c_24_49 (by decide)
        · exact absurd c_12_43 (by decide)
set_option maxRecDepth 100000 in
set_option maxHeartbeats 8000000 in
theorem cm_rest (hl : l.stackTraces = false) (w : z_W) (s : z_Z) (x y z : Int32) (h : z_mst w s)  : z_Con G l mX11_rest 22 24 372 w [.ref 1000, .int x, .int y, .int z] (fun v w9 => ∃ (r : Int32) (s9 : z_Z), v = some (.int r) ∧ z_fm 59 w w9 ∧ z_mst w9 s9 ∧ z_key s9 = z_key s) (fun _ _ => False) := by
  have ke0 : z_key s = z_key s := rfl
  refine z_body hl (by decide) rfl (Nat.le_of_ble_eq_true rfl) ?_
  show z_J G l mX11_rest _ 0 [(0, _), (1, _), (2, _), (3, _)] [] _ 0 0
  refine j_aload_n dX11_rest_0 rfl rfl ?_
  refine j_iload_n dX11_rest_1 rfl ?_
  refine j_callS dX11_rest_2 kX11_isNoTwo lX11_72 stX11_isNoTwo (cm_isNoTwo hl w _) (Nat.le_of_ble_eq_true rfl) ⟨(Nat.le_of_ble_eq_true rfl), (Nat.le_of_ble_eq_true rfl)⟩ rfl (Nat.le_of_ble_eq_true rfl) rfl rfl (fun _ _ h => h.elim) ?_
  rintro _ _ ⟨⟨rfl, hno113⟩ | ⟨rfl, i113, hi113, rfl⟩, hw113⟩
  · refine j_w w hw113 ?_
    refine j_if_ne (tgt := 15) dX11_rest_5 (by decide) (fun c_5_7 => ?_) (fun c_5_7 => ?_)
    · refine j_iconst (v := 1) dX11_rest_15 (by decide) ?_
      refine j_goto (tgt := 20) dX11_rest_16 (by decide) ?_
      refine j_iconst (v := 1) dX11_rest_20 (by decide) ?_
      refine j_callV (q := (RX11, TX11, 8)) dX11_rest_21 kX11_start lX11_76 inX11_start seX11_start h.m rfl (cm_start1 hl w _ _ h (by decide)) (Nat.le_of_ble_eq_true rfl) ⟨(Nat.le_of_ble_eq_true rfl), (Nat.le_of_ble_eq_true rfl)⟩ rfl (Nat.le_of_ble_eq_true rfl) rfl rfl (fun _ _ h => h.elim) ?_
      rintro _ w1 ⟨rfl, fm1, h1⟩
      have ke1 := z_ke h1 ke0 rfl
      refine j_if_ne (tgt := 62) dX11_rest_24 (by decide) (fun c_24_14 => ?_) (fun c_24_14 => ?_)
      · refine j_iconst (v := 0) dX11_rest_62 (by decide) ?_
        refine j_goto (tgt := 73) dX11_rest_63 (by decide) ?_
        refine j_iret dX11_rest_73 rfl rfl ?_ (Nat.le_of_ble_eq_true rfl) (Nat.le_of_ble_eq_true rfl)
        exact ⟨_, _, rfl, (fm1.le (q' := 59) (by decide)), h1, ke1⟩
      · exact absurd c_24_14 (by decide)
    · exact absurd c_5_7 (by decide)
  · refine j_w w hw113 ?_
    refine j_if_ne (tgt := 15) dX11_rest_5 (by decide) (fun c_5_22 => ?_) (fun c_5_22 => ?_)
    · exact absurd c_5_22 (by decide)
    · refine j_iload_n dX11_rest_8 rfl ?_
      refine j_callS dX11_rest_9 kX11_isNoTwo lX11_72 stX11_isNoTwo (cm_isNoTwo hl w _) (Nat.le_of_ble_eq_true rfl) ⟨(Nat.le_of_ble_eq_true rfl), (Nat.le_of_ble_eq_true rfl)⟩ rfl (Nat.le_of_ble_eq_true rfl) rfl rfl (fun _ _ h => h.elim) ?_
      rintro _ _ ⟨⟨rfl, hno114⟩ | ⟨rfl, i114, hi114, rfl⟩, hw114⟩
      · refine j_w w hw114 ?_
        refine j_if_eq (tgt := 19) dX11_rest_12 (by decide) (fun c_12_28 => ?_) (fun c_12_28 => ?_)
        · exact absurd c_12_28 (by decide)
        · refine j_iconst (v := 1) dX11_rest_15 (by decide) ?_
          refine j_goto (tgt := 20) dX11_rest_16 (by decide) ?_
          refine j_iconst (v := 1) dX11_rest_20 (by decide) ?_
          refine j_callV (q := (RX11, TX11, 8)) dX11_rest_21 kX11_start lX11_76 inX11_start seX11_start h.m rfl (cm_start1 hl w _ _ h (by decide)) (Nat.le_of_ble_eq_true rfl) ⟨(Nat.le_of_ble_eq_true rfl), (Nat.le_of_ble_eq_true rfl)⟩ rfl (Nat.le_of_ble_eq_true rfl) rfl rfl (fun _ _ h => h.elim) ?_
          rintro _ w2 ⟨rfl, fm2, h2⟩
          have ke2 := z_ke h2 ke0 rfl
          refine j_if_ne (tgt := 62) dX11_rest_24 (by decide) (fun c_24_36 => ?_) (fun c_24_36 => ?_)
          · refine j_iconst (v := 0) dX11_rest_62 (by decide) ?_
            refine j_goto (tgt := 73) dX11_rest_63 (by decide) ?_
            refine j_iret dX11_rest_73 rfl rfl ?_ (Nat.le_of_ble_eq_true rfl) (Nat.le_of_ble_eq_true rfl)
            exact ⟨_, _, rfl, (fm2.le (q' := 59) (by decide)), h2, ke2⟩
          · exact absurd c_24_36 (by decide)
      · refine j_w w hw114 ?_
        refine j_if_eq (tgt := 19) dX11_rest_12 (by decide) (fun c_12_43 => ?_) (fun c_12_43 => ?_)
        · refine j_iconst (v := 0) dX11_rest_19 (by decide) ?_
          refine j_iconst (v := 1) dX11_rest_20 (by decide) ?_
          refine j_callV (q := (RX11, TX11, 8)) dX11_rest_21 kX11_start lX11_76 inX11_start seX11_start h.m rfl (cm_start0 hl w _ _ h) (Nat.le_of_ble_eq_true rfl) ⟨(Nat.le_of_ble_eq_true rfl), (Nat.le_of_ble_eq_true rfl)⟩ rfl (Nat.le_of_ble_eq_true rfl) rfl rfl (fun _ _ h => h.elim) ?_
          rintro _ w3 ⟨rfl, fm3, h3⟩
          have ke3 := z_ke h3 ke0 rfl
          refine j_if_ne (tgt := 62) dX11_rest_24 (by decide) (fun c_24_49 => ?_) (fun c_24_49 => ?_)
          · exact absurd c_24_49 (by decide)
          · refine j_aload_n dX11_rest_27 rfl rfl ?_
            refine j_iload_n dX11_rest_28 rfl ?_
            refine j_iconst (v := 0) dX11_rest_29 (by decide) ?_
            refine j_aload_n dX11_rest_30 rfl rfl ?_
            refine j_getf dX11_rest_31 fX11_21 h3.m rfl ?_
            refine j_iload_n dX11_rest_34 rfl ?_
            obtain ⟨lv116, -, lg116⟩ := z_li.cell h3.rows
            refine j_callV (q := (RJx4a65c, TJx4a65c, 3)) dX11_rest_35 kJx4a65c_get_915e3 lX11_82 inJx4a65c_get_915e3 seJx4a65c_get_915e3 lg116 rfl (cl_get hl w3 41 1001 _ _ (i113) _ h3.rows (z_two2 (i := i113) (by omega))) (Nat.le_of_ble_eq_true rfl) ⟨(Nat.le_of_ble_eq_true rfl), (Nat.le_of_ble_eq_true rfl)⟩ rfl (Nat.le_of_ble_eq_true rfl) rfl rfl (fun _ _ h => h.elim) ?_
            rintro _ _ ⟨rfl, hw117⟩
            refine j_w w3 hw117 ?_
            refine j_castS dX11_rest_38 (z_w 1341 ((lwg_6 96).trans (by decide +kernel)) (by decide +kernel)) (z_li.is (h3.rw (i := i113) (by omega)).1) ?_
            obtain ⟨lv119, -, lg119⟩ := z_li.cell (h3.rw (i := i113) (by omega)).1
            refine j_callV (q := (RJx4a65c, TJx4a65c, 3)) dX11_rest_41 kJx4a65c_size_8abf5 lX11_86 inJx4a65c_size_8abf5 seJx4a65c_size_8abf5 lg119 rfl (cl_sizeB hl w3 _ _ _ _ (h3.rw (i := i113) (by omega)).1) (Nat.le_of_ble_eq_true rfl) ⟨(Nat.le_of_ble_eq_true rfl), (Nat.le_of_ble_eq_true rfl)⟩ rfl (Nat.le_of_ble_eq_true rfl) rfl rfl (fun _ _ h => h.elim) ?_
            rintro _ _ ⟨⟨n120, rfl, hn120⟩, hw120⟩
            refine j_w w3 hw120 ?_
            have hn120 : n120 = (z_qw s (i113)).2.length := hn120
            have hz120 : (z_qw s (i113)).2.length ≤ 12 := (h3.rw (i := i113) (by omega)).2
            refine j_callS dX11_rest_44 kX11_isIn lX11_59 stX11_isIn (cm_isIn hl w3 _ _ _) (Nat.le_of_ble_eq_true rfl) ⟨(Nat.le_of_ble_eq_true rfl), (Nat.le_of_ble_eq_true rfl)⟩ rfl (Nat.le_of_ble_eq_true rfl) rfl rfl (fun _ _ h => h.elim) ?_
            rintro _ _ ⟨⟨rfl, hi121⟩ | ⟨rfl, hno121⟩, hw121⟩
            · refine j_w w3 hw121 ?_
              obtain ⟨i121, hi121', rfl⟩ := z_nat (m := n120) rfl rfl (by omega) hi121
              refine j_if_ne (tgt := 54) dX11_rest_47 (by decide) (fun c_47_72 => ?_) (fun c_47_72 => ?_)
              · refine j_iconst (v := 0) dX11_rest_54 (by decide) ?_
                refine j_iconst (v := 2) dX11_rest_55 (by decide) ?_
                refine j_callV (q := (RX11, TX11, 8)) dX11_rest_56 kX11_refuse lX11_52 inX11_refuse seX11_refuse h3.m rfl (cm_refuse0 hl w3 _ _ h3 rfl) (Nat.le_of_ble_eq_true rfl) ⟨(Nat.le_of_ble_eq_true rfl), (Nat.le_of_ble_eq_true rfl)⟩ rfl (Nat.le_of_ble_eq_true rfl) rfl rfl (fun _ _ h => h.elim) ?_
                rintro _ _ ⟨rfl, hw122⟩
                refine j_w w3 hw122 ?_
                refine j_if_eq (tgt := 66) dX11_rest_59 (by decide) (fun c_59_78 => ?_) (fun c_59_78 => ?_)
                · refine j_aload_n dX11_rest_66 rfl rfl ?_
                  refine j_iload_n dX11_rest_67 rfl ?_
                  refine j_iload_n dX11_rest_68 rfl ?_
                  refine j_iload_n dX11_rest_69 rfl ?_
                  refine j_callV (q := (RX11, TX11, 8)) dX11_rest_70 kX11_hearRow lX11_108 inX11_hearRow seX11_hearRow h3.m rfl (cm_hearRow hl w3 _ (i113) (i121) (i114) h3 (by omega) (by omega) (by omega)) (Nat.le_of_ble_eq_true rfl) ⟨(Nat.le_of_ble_eq_true rfl), (Nat.le_of_ble_eq_true rfl)⟩ rfl (Nat.le_of_ble_eq_true rfl) rfl rfl (fun _ _ h => h.elim) ?_
                  rintro _ w4 ⟨r4, s4, rfl, fm4, h4, hk4⟩
                  have ke4 := z_ke h4 ke3 hk4
                  refine j_iret dX11_rest_73 rfl rfl ?_ (Nat.le_of_ble_eq_true rfl) (Nat.le_of_ble_eq_true rfl)
                  exact ⟨_, _, rfl, ((fm3.le (q' := 59) (by decide)).tr (fm4.le (q' := 59) (by decide))), h4, ke4⟩
                · exact absurd c_59_78 (by decide)
              · exact absurd c_47_72 (by decide)
            · refine j_w w3 hw121 ?_
              refine j_if_ne (tgt := 54) dX11_rest_47 (by decide) (fun c_47_91 => ?_) (fun c_47_91 => ?_)
              · exact absurd c_47_91 (by decide)
              · refine j_iconst (v := 1) dX11_rest_50 (by decide) ?_
                refine j_goto (tgt := 55) dX11_rest_51 (by decide) ?_
                refine j_iconst (v := 2) dX11_rest_55 (by decide) ?_
                refine j_callV (q := (RX11, TX11, 8)) dX11_rest_56 kX11_refuse lX11_52 inX11_refuse seX11_refuse h3.m rfl (cm_refuse1 hl w3 _ _ h3 rfl (by decide)) (Nat.le_of_ble_eq_true rfl) ⟨(Nat.le_of_ble_eq_true rfl), (Nat.le_of_ble_eq_true rfl)⟩ rfl (Nat.le_of_ble_eq_true rfl) rfl rfl (fun _ _ h => h.elim) ?_
                rintro _ w5 ⟨rfl, fm5, h5⟩
                have ke5 := z_ke h5 ke3 rfl
                refine j_if_eq (tgt := 66) dX11_rest_59 (by decide) (fun c_59_99 => ?_) (fun c_59_99 => ?_)
                · exact absurd c_59_99 (by decide)
                · refine j_iconst (v := 0) dX11_rest_62 (by decide) ?_
                  refine j_goto (tgt := 73) dX11_rest_63 (by decide) ?_
                  refine j_iret dX11_rest_73 rfl rfl ?_ (Nat.le_of_ble_eq_true rfl) (Nat.le_of_ble_eq_true rfl)
                  exact ⟨_, _, rfl, ((fm3.le (q' := 59) (by decide)).tr (fm5.le (q' := 59) (by decide))), h5, ke5⟩
        · exact absurd c_12_43 (by decide)
set_option maxRecDepth 100000 in
set_option maxHeartbeats 8000000 in
theorem cm_type (hl : l.stackTraces = false) (w : z_W) (s : z_Z) (x y : Int32) (h : z_mst w s)  : z_Con G l mX11_type 22 2 33 w [.ref 1000, .int x, .int y] (fun v w9 => ∃ (r : Int32) (s9 : z_Z), v = some (.int r) ∧ z_fm 59 w w9 ∧ z_mst w9 s9 ∧ z_key s9 = z_key s) (fun _ _ => False) := by
  have ke0 : z_key s = z_key s := rfl
  refine z_body hl (by decide) rfl (Nat.le_of_ble_eq_true rfl) ?_
  show z_J G l mX11_type _ 0 [(0, _), (1, _), (2, _)] [] _ 0 0
  refine j_aload_n dX11_type_0 rfl rfl ?_
  refine j_iload_n dX11_type_1 rfl ?_
  refine j_callS dX11_type_2 kX11_isNoTwo lX11_72 stX11_isNoTwo (cm_isNoTwo hl w _) (Nat.le_of_ble_eq_true rfl) ⟨(Nat.le_of_ble_eq_true rfl), (Nat.le_of_ble_eq_true rfl)⟩ rfl (Nat.le_of_ble_eq_true rfl) rfl rfl (fun _ _ h => h.elim) ?_
  rintro _ _ ⟨⟨rfl, hno123⟩ | ⟨rfl, i123, hi123, rfl⟩, hw123⟩
  · refine j_w w hw123 ?_
    refine j_iconst (v := 1) dX11_type_5 (by decide) ?_
    refine j_callV (q := (RX11, TX11, 8)) dX11_type_6 kX11_start lX11_76 inX11_start seX11_start h.m rfl (cm_start1 hl w _ _ h (by decide)) (Nat.le_of_ble_eq_true rfl) ⟨(Nat.le_of_ble_eq_true rfl), (Nat.le_of_ble_eq_true rfl)⟩ rfl (Nat.le_of_ble_eq_true rfl) rfl rfl (fun _ _ h => h.elim) ?_
    rintro _ w1 ⟨rfl, fm1, h1⟩
    have ke1 := z_ke h1 ke0 rfl
    refine j_if_ne (tgt := 56) dX11_type_9 (by decide) (fun c_9_11 => ?_) (fun c_9_11 => ?_)
    · refine j_iconst (v := 0) dX11_type_56 (by decide) ?_
      refine j_iret dX11_type_57 rfl rfl ?_ (Nat.le_of_ble_eq_true rfl) (Nat.le_of_ble_eq_true rfl)
      exact ⟨_, _, rfl, (fm1.le (q' := 59) (by decide)), h1, ke1⟩
    · exact absurd c_9_11 (by decide)
  · refine j_w w hw123 ?_
    refine j_iconst (v := 1) dX11_type_5 (by decide) ?_
    refine j_callV (q := (RX11, TX11, 8)) dX11_type_6 kX11_start lX11_76 inX11_start seX11_start h.m rfl (cm_start0 hl w _ _ h) (Nat.le_of_ble_eq_true rfl) ⟨(Nat.le_of_ble_eq_true rfl), (Nat.le_of_ble_eq_true rfl)⟩ rfl (Nat.le_of_ble_eq_true rfl) rfl rfl (fun _ _ h => h.elim) ?_
    rintro _ w2 ⟨rfl, fm2, h2⟩
    have ke2 := z_ke h2 ke0 rfl
    refine j_if_ne (tgt := 56) dX11_type_9 (by decide) (fun c_9_21 => ?_) (fun c_9_21 => ?_)
    · exact absurd c_9_21 (by decide)
    · refine j_aload_n dX11_type_12 rfl rfl ?_
      refine j_iload_n dX11_type_13 rfl ?_
      refine j_callS dX11_type_14 kX11_isNoValue lX11_79 stX11_isNoValue (cm_isNoValue hl w2 _) (Nat.le_of_ble_eq_true rfl) ⟨(Nat.le_of_ble_eq_true rfl), (Nat.le_of_ble_eq_true rfl)⟩ rfl (Nat.le_of_ble_eq_true rfl) rfl rfl (fun _ _ h => h.elim) ?_
      rintro _ _ ⟨⟨rfl, hno124⟩ | ⟨rfl, hye124⟩, hw124⟩
      · refine j_w w2 hw124 ?_
        refine j_iconst (v := 2) dX11_type_17 (by decide) ?_
        refine j_callV (q := (RX11, TX11, 8)) dX11_type_18 kX11_refuse lX11_52 inX11_refuse seX11_refuse h2.m rfl (cm_refuse1 hl w2 _ _ h2 rfl (by decide)) (Nat.le_of_ble_eq_true rfl) ⟨(Nat.le_of_ble_eq_true rfl), (Nat.le_of_ble_eq_true rfl)⟩ rfl (Nat.le_of_ble_eq_true rfl) rfl rfl (fun _ _ h => h.elim) ?_
        rintro _ w3 ⟨rfl, fm3, h3⟩
        have ke3 := z_ke h3 ke2 rfl
        refine j_if_ne (tgt := 56) dX11_type_21 (by decide) (fun c_21_32 => ?_) (fun c_21_32 => ?_)
        · refine j_iconst (v := 0) dX11_type_56 (by decide) ?_
          refine j_iret dX11_type_57 rfl rfl ?_ (Nat.le_of_ble_eq_true rfl) (Nat.le_of_ble_eq_true rfl)
          exact ⟨_, _, rfl, ((fm2.le (q' := 59) (by decide)).tr (fm3.le (q' := 59) (by decide))), h3, ke3⟩
        · exact absurd c_21_32 (by decide)
      · refine j_w w2 hw124 ?_
        refine j_iconst (v := 2) dX11_type_17 (by decide) ?_
        refine j_callV (q := (RX11, TX11, 8)) dX11_type_18 kX11_refuse lX11_52 inX11_refuse seX11_refuse h2.m rfl (cm_refuse0 hl w2 _ _ h2 rfl) (Nat.le_of_ble_eq_true rfl) ⟨(Nat.le_of_ble_eq_true rfl), (Nat.le_of_ble_eq_true rfl)⟩ rfl (Nat.le_of_ble_eq_true rfl) rfl rfl (fun _ _ h => h.elim) ?_
        rintro _ _ ⟨rfl, hw125⟩
        refine j_w w2 hw125 ?_
        refine j_if_ne (tgt := 56) dX11_type_21 (by decide) (fun c_21_42 => ?_) (fun c_21_42 => ?_)
        · exact absurd c_21_42 (by decide)
        · refine j_aload_n dX11_type_24 rfl rfl ?_
          refine j_aload_n dX11_type_25 rfl rfl ?_
          refine j_getf dX11_type_26 fX11_21 h2.m rfl ?_
          refine j_iload_n dX11_type_29 rfl ?_
          obtain ⟨lv127, -, lg127⟩ := z_li.cell h2.rows
          refine j_callV (q := (RJx4a65c, TJx4a65c, 3)) dX11_type_30 kJx4a65c_get_915e3 lX11_82 inJx4a65c_get_915e3 seJx4a65c_get_915e3 lg127 rfl (cl_get hl w2 41 1001 _ _ (i123) _ h2.rows (z_two2 (i := i123) (by omega))) (Nat.le_of_ble_eq_true rfl) ⟨(Nat.le_of_ble_eq_true rfl), (Nat.le_of_ble_eq_true rfl)⟩ rfl (Nat.le_of_ble_eq_true rfl) rfl rfl (fun _ _ h => h.elim) ?_
          rintro _ _ ⟨rfl, hw128⟩
          refine j_w w2 hw128 ?_
          refine j_castS dX11_type_33 (z_w 1341 ((lwg_6 96).trans (by decide +kernel)) (by decide +kernel)) (z_li.is (h2.rw (i := i123) (by omega)).1) ?_
          obtain ⟨lv130, -, lg130⟩ := z_li.cell (h2.rw (i := i123) (by omega)).1
          refine j_callV (q := (RJx4a65c, TJx4a65c, 3)) dX11_type_36 kJx4a65c_size_8abf5 lX11_86 inJx4a65c_size_8abf5 seJx4a65c_size_8abf5 lg130 rfl (cl_sizeB hl w2 _ _ _ _ (h2.rw (i := i123) (by omega)).1) (Nat.le_of_ble_eq_true rfl) ⟨(Nat.le_of_ble_eq_true rfl), (Nat.le_of_ble_eq_true rfl)⟩ rfl (Nat.le_of_ble_eq_true rfl) rfl rfl (fun _ _ h => h.elim) ?_
          rintro _ _ ⟨⟨n131, rfl, hn131⟩, hw131⟩
          refine j_w w2 hw131 ?_
          have hn131 : n131 = (z_qw s (i123)).2.length := hn131
          have hz131 : (z_qw s (i123)).2.length ≤ 12 := (h2.rw (i := i123) (by omega)).2
          refine j_bipush (v := 12) dX11_type_39 (by decide) ?_
          refine j_icmp_ne (tgt := 48) dX11_type_41 (by decide) (fun c_41_60 => ?_) (fun c_41_60 => ?_)
          · have hb41 : ¬ n131 = 12 := fun z => c_41_60 (show nI n131 = nI 12 by rw [z])
            refine j_iconst (v := 0) dX11_type_48 (by decide) ?_
            refine j_iconst (v := 3) dX11_type_49 (by decide) ?_
            refine j_callV (q := (RX11, TX11, 8)) dX11_type_50 kX11_refuse lX11_52 inX11_refuse seX11_refuse h2.m rfl (cm_refuse0 hl w2 _ _ h2 rfl) (Nat.le_of_ble_eq_true rfl) ⟨(Nat.le_of_ble_eq_true rfl), (Nat.le_of_ble_eq_true rfl)⟩ rfl (Nat.le_of_ble_eq_true rfl) rfl rfl (fun _ _ h => h.elim) ?_
            rintro _ _ ⟨rfl, hw132⟩
            refine j_w w2 hw132 ?_
            refine j_if_eq (tgt := 58) dX11_type_53 (by decide) (fun c_53_67 => ?_) (fun c_53_67 => ?_)
            · refine j_aload_n dX11_type_58 rfl rfl ?_
              refine j_getf dX11_type_59 fX11_21 h2.m rfl ?_
              refine j_iload_n dX11_type_62 rfl ?_
              obtain ⟨lv134, -, lg134⟩ := z_li.cell h2.rows
              refine j_callV (q := (RJx4a65c, TJx4a65c, 3)) dX11_type_63 kJx4a65c_get_915e3 lX11_82 inJx4a65c_get_915e3 seJx4a65c_get_915e3 lg134 rfl (cl_get hl w2 41 1001 _ _ (i123) _ h2.rows (z_two2 (i := i123) (by omega))) (Nat.le_of_ble_eq_true rfl) ⟨(Nat.le_of_ble_eq_true rfl), (Nat.le_of_ble_eq_true rfl)⟩ rfl (Nat.le_of_ble_eq_true rfl) rfl rfl (fun _ _ h => h.elim) ?_
              rintro _ _ ⟨rfl, hw135⟩
              refine j_w w2 hw135 ?_
              refine j_castS dX11_type_66 (z_w 1341 ((lwg_6 96).trans (by decide +kernel)) (by decide +kernel)) (z_li.is (h2.rw (i := i123) (by omega)).1) ?_
              refine j_iload_n dX11_type_69 rfl ?_
              refine j_callS dX11_type_70 kJ6_valueOf_2dffe lX11_90 stJ6_valueOf_2dffe (cl_val hl w2 _) (Nat.le_of_ble_eq_true rfl) ⟨(Nat.le_of_ble_eq_true rfl), (Nat.le_of_ble_eq_true rfl)⟩ rfl (Nat.le_of_ble_eq_true rfl) rfl rfl (fun _ _ h => h.elim) ?_
              rintro _ _ ⟨rfl, hw137⟩
              refine j_w w2 hw137 ?_
              obtain ⟨lv138, -, lg138⟩ := z_li.cell (h2.rw (i := i123) (by omega)).1
              refine j_callV (q := (RJx4a65c, TJx4a65c, 3)) dX11_type_73 kJx4a65c_add_9ea2d lX11_44 inJx4a65c_add_9ea2d seJx4a65c_add_9ea2d lg138 rfl (cl_add hl w2 (11 + i123) _ _ _ 11 _ (h2.rw (i := i123) (by omega)).1 (by omega) h2.fn (by rw [z_bx_len]; show (z_qw s i123).2.length ≤ 11; omega) (by decide) z_bx_el z_elF) (Nat.le_of_ble_eq_true rfl) ⟨(Nat.le_of_ble_eq_true rfl), (Nat.le_of_ble_eq_true rfl)⟩ rfl (Nat.le_of_ble_eq_true rfl) rfl rfl (fun _ _ h => h.elim) ?_
              rintro _ w4 ⟨rfl, fw4, mo4, hr4⟩
              rw [z_bx_app] at hr4
              have fm4 := fw4.fm (q := 56) (by omega)
              have h4 := h2.li11 (i0 := i123) (by omega) fw4 hr4 (by rw [List.length_append]; show (z_qw s i123).2.length + 1 ≤ 12; omega)
              have ke4 := z_ke h4 ke2 rfl
              refine j_pop dX11_type_76 rfl ?_
              refine j_aload_n dX11_type_77 rfl rfl ?_
              refine j_getf dX11_type_78 fX11_21 h4.m rfl ?_
              refine j_iload_n dX11_type_81 rfl ?_
              obtain ⟨lv140, -, lg140⟩ := z_li.cell h4.rows
              refine j_callV (q := (RJx4a65c, TJx4a65c, 3)) dX11_type_82 kJx4a65c_get_915e3 lX11_82 inJx4a65c_get_915e3 seJx4a65c_get_915e3 lg140 rfl (cl_get hl w4 41 1001 _ _ (i123) _ h4.rows (z_two2 (i := i123) (by omega))) (Nat.le_of_ble_eq_true rfl) ⟨(Nat.le_of_ble_eq_true rfl), (Nat.le_of_ble_eq_true rfl)⟩ rfl (Nat.le_of_ble_eq_true rfl) rfl rfl (fun _ _ h => h.elim) ?_
              rintro _ _ ⟨rfl, hw141⟩
              refine j_w w4 hw141 ?_
              refine j_castS dX11_type_85 (z_w 1341 ((lwg_6 96).trans (by decide +kernel)) (by decide +kernel)) (z_li.is (h4.rw (i := i123) (by omega)).1) ?_
              obtain ⟨lv143, -, lg143⟩ := z_li.cell (h4.rw (i := i123) (by omega)).1
              refine j_callV (q := (RJx4a65c, TJx4a65c, 3)) dX11_type_88 kJx4a65c_size_8abf5 lX11_86 inJx4a65c_size_8abf5 seJx4a65c_size_8abf5 lg143 rfl (cl_sizeB hl w4 _ _ _ _ (h4.rw (i := i123) (by omega)).1) (Nat.le_of_ble_eq_true rfl) ⟨(Nat.le_of_ble_eq_true rfl), (Nat.le_of_ble_eq_true rfl)⟩ rfl (Nat.le_of_ble_eq_true rfl) rfl rfl (fun _ _ h => h.elim) ?_
              rintro _ _ ⟨⟨n144, rfl, hn144⟩, hw144⟩
              refine j_w w4 hw144 ?_
              refine j_iret dX11_type_91 rfl rfl ?_ (Nat.le_of_ble_eq_true rfl) (Nat.le_of_ble_eq_true rfl)
              exact ⟨_, _, rfl, ((fm2.le (q' := 59) (by decide)).tr (fm4.le (q' := 59) (by decide))), h4, ke4⟩
            · exact absurd c_53_67 (by decide)
          · have hb41 : n131 = 12 := nI_inj (a := n131) (b := 12) c_41_60 (by omega) (by omega)
            refine j_iconst (v := 1) dX11_type_44 (by decide) ?_
            refine j_goto (tgt := 49) dX11_type_45 (by decide) ?_
            refine j_iconst (v := 3) dX11_type_49 (by decide) ?_
            refine j_callV (q := (RX11, TX11, 8)) dX11_type_50 kX11_refuse lX11_52 inX11_refuse seX11_refuse h2.m rfl (cm_refuse1 hl w2 _ _ h2 rfl (by decide)) (Nat.le_of_ble_eq_true rfl) ⟨(Nat.le_of_ble_eq_true rfl), (Nat.le_of_ble_eq_true rfl)⟩ rfl (Nat.le_of_ble_eq_true rfl) rfl rfl (fun _ _ h => h.elim) ?_
            rintro _ w5 ⟨rfl, fm5, h5⟩
            have ke5 := z_ke h5 ke2 rfl
            refine j_if_eq (tgt := 58) dX11_type_53 (by decide) (fun c_53_110 => ?_) (fun c_53_110 => ?_)
            · exact absurd c_53_110 (by decide)
            · refine j_iconst (v := 0) dX11_type_56 (by decide) ?_
              refine j_iret dX11_type_57 rfl rfl ?_ (Nat.le_of_ble_eq_true rfl) (Nat.le_of_ble_eq_true rfl)
              exact ⟨_, _, rfl, ((fm2.le (q' := 59) (by decide)).tr (fm5.le (q' := 59) (by decide))), h5, ke5⟩
set_option maxRecDepth 100000 in
set_option maxHeartbeats 8000000 in
theorem cm_drop (hl : l.stackTraces = false) (w : z_W) (s : z_Z) (x y : Int32) (h : z_mst w s)  : z_Con G l mX11_drop 22 0 0 w [.ref 1000, .int x, .int y] (fun v w9 => ∃ (r : Int32) (s9 : z_Z), v = some (.int r) ∧ z_fm 59 w w9 ∧ z_mst w9 s9 ∧ z_key s9 = z_key s) (fun _ _ => False) := by
  have ke0 : z_key s = z_key s := rfl
  refine z_body hl (by decide) rfl (Nat.le_of_ble_eq_true rfl) ?_
  show z_J G l mX11_drop _ 0 [(0, _), (1, _), (2, _)] [] _ 0 0
  refine j_aload_n dX11_drop_0 rfl rfl ?_
  refine j_iload_n dX11_drop_1 rfl ?_
  refine j_callS dX11_drop_2 kX11_isNoTwo lX11_72 stX11_isNoTwo (cm_isNoTwo hl w _) (Nat.le_of_ble_eq_true rfl) ⟨(Nat.le_of_ble_eq_true rfl), (Nat.le_of_ble_eq_true rfl)⟩ rfl (Nat.le_of_ble_eq_true rfl) rfl rfl (fun _ _ h => h.elim) ?_
  rintro _ _ ⟨⟨rfl, hno145⟩ | ⟨rfl, i145, hi145, rfl⟩, hw145⟩
  · refine j_w w hw145 ?_
    refine j_iconst (v := 1) dX11_drop_5 (by decide) ?_
    refine j_callV (q := (RX11, TX11, 8)) dX11_drop_6 kX11_start lX11_76 inX11_start seX11_start h.m rfl (cm_start1 hl w _ _ h (by decide)) (Nat.le_of_ble_eq_true rfl) ⟨(Nat.le_of_ble_eq_true rfl), (Nat.le_of_ble_eq_true rfl)⟩ rfl (Nat.le_of_ble_eq_true rfl) rfl rfl (fun _ _ h => h.elim) ?_
    rintro _ w1 ⟨rfl, fm1, h1⟩
    have ke1 := z_ke h1 ke0 rfl
    refine j_if_ne (tgt := 47) dX11_drop_9 (by decide) (fun c_9_11 => ?_) (fun c_9_11 => ?_)
    · refine j_iconst (v := 0) dX11_drop_47 (by decide) ?_
      refine j_iret dX11_drop_48 rfl rfl ?_ (Nat.le_of_ble_eq_true rfl) (Nat.le_of_ble_eq_true rfl)
      exact ⟨_, _, rfl, (fm1.le (q' := 59) (by decide)), h1, ke1⟩
    · exact absurd c_9_11 (by decide)
  · refine j_w w hw145 ?_
    refine j_iconst (v := 1) dX11_drop_5 (by decide) ?_
    refine j_callV (q := (RX11, TX11, 8)) dX11_drop_6 kX11_start lX11_76 inX11_start seX11_start h.m rfl (cm_start0 hl w _ _ h) (Nat.le_of_ble_eq_true rfl) ⟨(Nat.le_of_ble_eq_true rfl), (Nat.le_of_ble_eq_true rfl)⟩ rfl (Nat.le_of_ble_eq_true rfl) rfl rfl (fun _ _ h => h.elim) ?_
    rintro _ w2 ⟨rfl, fm2, h2⟩
    have ke2 := z_ke h2 ke0 rfl
    refine j_if_ne (tgt := 47) dX11_drop_9 (by decide) (fun c_9_21 => ?_) (fun c_9_21 => ?_)
    · exact absurd c_9_21 (by decide)
    · refine j_aload_n dX11_drop_12 rfl rfl ?_
      refine j_iload_n dX11_drop_13 rfl ?_
      refine j_iconst (v := 1) dX11_drop_14 (by decide) ?_
      refine j_aload_n dX11_drop_15 rfl rfl ?_
      refine j_getf dX11_drop_16 fX11_21 h2.m rfl ?_
      refine j_iload_n dX11_drop_19 rfl ?_
      obtain ⟨lv147, -, lg147⟩ := z_li.cell h2.rows
      refine j_callV (q := (RJx4a65c, TJx4a65c, 3)) dX11_drop_20 kJx4a65c_get_915e3 lX11_82 inJx4a65c_get_915e3 seJx4a65c_get_915e3 lg147 rfl (cl_get hl w2 41 1001 _ _ (i145) _ h2.rows (z_two2 (i := i145) (by omega))) (Nat.le_of_ble_eq_true rfl) ⟨(Nat.le_of_ble_eq_true rfl), (Nat.le_of_ble_eq_true rfl)⟩ rfl (Nat.le_of_ble_eq_true rfl) rfl rfl (fun _ _ h => h.elim) ?_
      rintro _ _ ⟨rfl, hw148⟩
      refine j_w w2 hw148 ?_
      refine j_castS dX11_drop_23 (z_w 1341 ((lwg_6 96).trans (by decide +kernel)) (by decide +kernel)) (z_li.is (h2.rw (i := i145) (by omega)).1) ?_
      obtain ⟨lv150, -, lg150⟩ := z_li.cell (h2.rw (i := i145) (by omega)).1
      refine j_callV (q := (RJx4a65c, TJx4a65c, 3)) dX11_drop_26 kJx4a65c_size_8abf5 lX11_86 inJx4a65c_size_8abf5 seJx4a65c_size_8abf5 lg150 rfl (cl_sizeB hl w2 _ _ _ _ (h2.rw (i := i145) (by omega)).1) (Nat.le_of_ble_eq_true rfl) ⟨(Nat.le_of_ble_eq_true rfl), (Nat.le_of_ble_eq_true rfl)⟩ rfl (Nat.le_of_ble_eq_true rfl) rfl rfl (fun _ _ h => h.elim) ?_
      rintro _ _ ⟨⟨n151, rfl, hn151⟩, hw151⟩
      refine j_w w2 hw151 ?_
      have hn151 : n151 = (z_qw s (i145)).2.length := hn151
      have hz151 : (z_qw s (i145)).2.length ≤ 12 := (h2.rw (i := i145) (by omega)).2
      refine j_callS dX11_drop_29 kX11_isIn lX11_59 stX11_isIn (cm_isIn hl w2 _ _ _) (Nat.le_of_ble_eq_true rfl) ⟨(Nat.le_of_ble_eq_true rfl), (Nat.le_of_ble_eq_true rfl)⟩ rfl (Nat.le_of_ble_eq_true rfl) rfl rfl (fun _ _ h => h.elim) ?_
      rintro _ _ ⟨⟨rfl, hi152⟩ | ⟨rfl, hno152⟩, hw152⟩
      · refine j_w w2 hw152 ?_
        obtain ⟨i152, hj152, hi152', rfl⟩ := z_nat1 (m := n151) rfl (by omega) hi152
        refine j_if_ne (tgt := 39) dX11_drop_32 (by decide) (fun c_32_44 => ?_) (fun c_32_44 => ?_)
        · refine j_iconst (v := 0) dX11_drop_39 (by decide) ?_
          refine j_iconst (v := 2) dX11_drop_40 (by decide) ?_
          refine j_callV (q := (RX11, TX11, 8)) dX11_drop_41 kX11_refuse lX11_52 inX11_refuse seX11_refuse h2.m rfl (cm_refuse0 hl w2 _ _ h2 rfl) (Nat.le_of_ble_eq_true rfl) ⟨(Nat.le_of_ble_eq_true rfl), (Nat.le_of_ble_eq_true rfl)⟩ rfl (Nat.le_of_ble_eq_true rfl) rfl rfl (fun _ _ h => h.elim) ?_
          rintro _ _ ⟨rfl, hw153⟩
          refine j_w w2 hw153 ?_
          refine j_if_eq (tgt := 49) dX11_drop_44 (by decide) (fun c_44_50 => ?_) (fun c_44_50 => ?_)
          · refine j_iconst (v := 0) dX11_drop_49 (by decide) ?_
            refine j_istore_n (lo' := [(3, _), (0, _), (1, _), (2, _)]) dX11_drop_50 (by decide) rfl ?_
            have hi2 : i152 ≤ (z_qw s i145).2.length := by omega
            have loop51 : ∀ (n9 : Nat) (w3 : z_W) (s1 : z_Z) (j : Nat), j ≤ i152 → i152 < j + n9 → (z_qw s1 i145).2.length + j = (z_qw s i145).2.length → z_mst w3 s1 → z_fm 59 w w3 → z_key s1 = z_key s → z_J G l mX11_drop (22, 0, 0, w, (fun v w9 => ∃ (r : Int32) (s9 : z_Z), v = some (.int r) ∧ z_fm 59 w w9 ∧ z_mst w9 s9 ∧ z_key s9 = z_key s), (fun _ _ => False)) 51 [(0, .ref 1000), (1, .int (nI i145)), (2, .int (nI i152)), (3, .int (nI j))] [] w3 0 0 := by
              intro n9
              induction n9 with
              | zero => intro w3 s1 j hj hf9 hlq hm hfm hke; exact absurd hf9 (by omega)
              | succ n9 ih =>
                intro w3 s1 j hj hf9 hlq hm hfm hke
                refine j_iload_n dX11_drop_51 rfl ?_
                refine j_iload_n dX11_drop_52 rfl ?_
                refine j_icmp_ge (tgt := 93) dX11_drop_53 (by decide) (fun c_53_62 => ?_) (fun c_53_62 => ?_)
                · have hb53 : i152 ≤ j := (nI_leI (a := i152) (b := j) (by omega) (by omega)).mp c_53_62
                  refine j_aload_n dX11_drop_93 rfl rfl ?_
                  refine j_getf dX11_drop_94 fX11_21 hm.m rfl ?_
                  refine j_iload_n dX11_drop_97 rfl ?_
                  obtain ⟨lv155, -, lg155⟩ := z_li.cell hm.rows
                  refine j_callV (q := (RJx4a65c, TJx4a65c, 3)) dX11_drop_98 kJx4a65c_get_915e3 lX11_82 inJx4a65c_get_915e3 seJx4a65c_get_915e3 lg155 rfl (cl_get hl w3 41 1001 _ _ (i145) _ hm.rows (z_two2 (i := i145) (by omega))) (Nat.le_of_ble_eq_true rfl) ⟨(Nat.le_of_ble_eq_true rfl), (Nat.le_of_ble_eq_true rfl)⟩ rfl (Nat.le_of_ble_eq_true rfl) rfl rfl (fun _ _ h => h.elim) ?_
                  rintro _ _ ⟨rfl, hw156⟩
                  refine j_w w3 hw156 ?_
                  refine j_castS dX11_drop_101 (z_w 1341 ((lwg_6 96).trans (by decide +kernel)) (by decide +kernel)) (z_li.is (hm.rw (i := i145) (by omega)).1) ?_
                  obtain ⟨lv158, -, lg158⟩ := z_li.cell (hm.rw (i := i145) (by omega)).1
                  refine j_callV (q := (RJx4a65c, TJx4a65c, 3)) dX11_drop_104 kJx4a65c_size_8abf5 lX11_86 inJx4a65c_size_8abf5 seJx4a65c_size_8abf5 lg158 rfl (cl_sizeB hl w3 _ _ _ _ (hm.rw (i := i145) (by omega)).1) (Nat.le_of_ble_eq_true rfl) ⟨(Nat.le_of_ble_eq_true rfl), (Nat.le_of_ble_eq_true rfl)⟩ rfl (Nat.le_of_ble_eq_true rfl) rfl rfl (fun _ _ h => h.elim) ?_
                  rintro _ _ ⟨⟨n159, rfl, hn159⟩, hw159⟩
                  refine j_w w3 hw159 ?_
                  have hn159 : n159 = (z_qw s1 (i145)).2.length := hn159
                  have hz159 : (z_qw s1 (i145)).2.length ≤ 12 := (hm.rw (i := i145) (by omega)).2
                  refine j_iret dX11_drop_107 rfl rfl ?_ (Nat.le_of_ble_eq_true rfl) (Nat.le_of_ble_eq_true rfl)
                  exact ⟨_, _, rfl, hfm, hm, hke⟩
                · have hb53 : j < i152 := Nat.not_le.mp (fun z => c_53_62 ((nI_leI (a := i152) (b := j) (by omega) (by omega)).mpr z))
                  refine j_aload_n dX11_drop_56 rfl rfl ?_
                  refine j_getf dX11_drop_57 fX11_21 hm.m rfl ?_
                  refine j_iload_n dX11_drop_60 rfl ?_
                  obtain ⟨lv161, -, lg161⟩ := z_li.cell hm.rows
                  refine j_callV (q := (RJx4a65c, TJx4a65c, 3)) dX11_drop_61 kJx4a65c_get_915e3 lX11_82 inJx4a65c_get_915e3 seJx4a65c_get_915e3 lg161 rfl (cl_get hl w3 41 1001 _ _ (i145) _ hm.rows (z_two2 (i := i145) (by omega))) (Nat.le_of_ble_eq_true rfl) ⟨(Nat.le_of_ble_eq_true rfl), (Nat.le_of_ble_eq_true rfl)⟩ rfl (Nat.le_of_ble_eq_true rfl) rfl rfl (fun _ _ h => h.elim) ?_
                  rintro _ _ ⟨rfl, hw162⟩
                  refine j_w w3 hw162 ?_
                  refine j_castS dX11_drop_64 (z_w 1341 ((lwg_6 96).trans (by decide +kernel)) (by decide +kernel)) (z_li.is (hm.rw (i := i145) (by omega)).1) ?_
                  refine j_aload_n dX11_drop_67 rfl rfl ?_
                  refine j_getf dX11_drop_68 fX11_21 hm.m rfl ?_
                  refine j_iload_n dX11_drop_71 rfl ?_
                  obtain ⟨lv165, -, lg165⟩ := z_li.cell hm.rows
                  refine j_callV (q := (RJx4a65c, TJx4a65c, 3)) dX11_drop_72 kJx4a65c_get_915e3 lX11_82 inJx4a65c_get_915e3 seJx4a65c_get_915e3 lg165 rfl (cl_get hl w3 41 1001 _ _ (i145) _ hm.rows (z_two2 (i := i145) (by omega))) (Nat.le_of_ble_eq_true rfl) ⟨(Nat.le_of_ble_eq_true rfl), (Nat.le_of_ble_eq_true rfl)⟩ rfl (Nat.le_of_ble_eq_true rfl) rfl rfl (fun _ _ h => h.elim) ?_
                  rintro _ _ ⟨rfl, hw166⟩
                  refine j_w w3 hw166 ?_
                  refine j_castS dX11_drop_75 (z_w 1341 ((lwg_6 96).trans (by decide +kernel)) (by decide +kernel)) (z_li.is (hm.rw (i := i145) (by omega)).1) ?_
                  obtain ⟨lv168, -, lg168⟩ := z_li.cell (hm.rw (i := i145) (by omega)).1
                  refine j_callV (q := (RJx4a65c, TJx4a65c, 3)) dX11_drop_78 kJx4a65c_size_8abf5 lX11_86 inJx4a65c_size_8abf5 seJx4a65c_size_8abf5 lg168 rfl (cl_sizeB hl w3 _ _ _ _ (hm.rw (i := i145) (by omega)).1) (Nat.le_of_ble_eq_true rfl) ⟨(Nat.le_of_ble_eq_true rfl), (Nat.le_of_ble_eq_true rfl)⟩ rfl (Nat.le_of_ble_eq_true rfl) rfl rfl (fun _ _ h => h.elim) ?_
                  rintro _ _ ⟨⟨n169, rfl, hn169⟩, hw169⟩
                  refine j_w w3 hw169 ?_
                  have hn169 : n169 = (z_qw s1 (i145)).2.length := hn169
                  have hz169 : (z_qw s1 (i145)).2.length ≤ 12 := (hm.rw (i := i145) (by omega)).2
                  refine j_iconst (v := 1) dX11_drop_81 (by decide) ?_
                  refine j_isub dX11_drop_82 ?_
                  refine j_top (congrArg Value.int (pk_sub (a := n169) (b := 1) (by omega))) ?_
                  obtain ⟨lv170, -, lg170⟩ := z_li.cell (hm.rw (i := i145) (by omega)).1
                  refine j_callV (q := (RJx4a65c, TJx4a65c, 3)) dX11_drop_83 kJx4a65c_remove_915e3 lX11_96 inJx4a65c_remove_915e3 seJx4a65c_remove_915e3 lg170 rfl (cl_rem hl w3 _ _ _ _ ((n169 - 1)) _ (hm.rw (i := i145) (by omega)).1 (z_bx_get (B := (z_qw s1 i145).2) (by omega)) hm.fn z_bx_el) (Nat.le_of_ble_eq_true rfl) ⟨(Nat.le_of_ble_eq_true rfl), (Nat.le_of_ble_eq_true rfl)⟩ rfl (Nat.le_of_ble_eq_true rfl) rfl rfl (fun _ _ h => h.elim) ?_
                  rintro _ w4 ⟨rfl, fw4, mo4, hr4⟩
                  rw [z_bx_rem] at hr4
                  have fm4 := fw4.fm (q := 56) (by omega)
                  have hlr4 : ((z_qw s1 i145).2.eraseIdx ((n169 - 1))).length = (z_qw s1 i145).2.length - 1 := List.length_eraseIdx_of_lt (by omega)
                  have h4 := hm.li11 (i0 := i145) (B := (z_qw s1 i145).2.eraseIdx ((n169 - 1))) (by omega) fw4 hr4 (by omega)
                  have ke4 := z_ke h4 hke rfl
                  refine j_pop dX11_drop_86 rfl ?_
                  refine j_iinc (lo' := [(3, _), (0, _), (1, _), (2, _)]) dX11_drop_87 rfl (z_inc _) (by decide) rfl ?_
                  refine j_goto (tgt := 51) dX11_drop_90 (by decide) ?_
                  exact j_lo2 (ih w4 _ (j + 1) (by omega) (by omega) (by show (z_fu (z_qw s1) i145 _ i145).2.length + (j + 1) = _; rw [z_fu_self]; show ((z_qw s1 i145).2.eraseIdx _).length + (j + 1) = _; omega) h4 (hfm.tr (fm4.le (q' := 59) (by decide))) ke4) (z_q1 rfl (z_q1 rfl (z_q1 rfl (z_q1 rfl z_q0))))
            exact j_lo2 (loop51 (i152 + 1) w2 _ 0 (by omega) (by omega) (by exact rfl) h2 (fm2.le (q' := 59) (by decide)) ke2) (z_q1 rfl (z_q1 rfl (z_q1 rfl (z_q1 rfl z_q0))))
          · exact absurd c_44_50 (by decide)
        · exact absurd c_32_44 (by decide)
      · refine j_w w2 hw152 ?_
        refine j_if_ne (tgt := 39) dX11_drop_32 (by decide) (fun c_32_122 => ?_) (fun c_32_122 => ?_)
        · exact absurd c_32_122 (by decide)
        · refine j_iconst (v := 1) dX11_drop_35 (by decide) ?_
          refine j_goto (tgt := 40) dX11_drop_36 (by decide) ?_
          refine j_iconst (v := 2) dX11_drop_40 (by decide) ?_
          refine j_callV (q := (RX11, TX11, 8)) dX11_drop_41 kX11_refuse lX11_52 inX11_refuse seX11_refuse h2.m rfl (cm_refuse1 hl w2 _ _ h2 rfl (by decide)) (Nat.le_of_ble_eq_true rfl) ⟨(Nat.le_of_ble_eq_true rfl), (Nat.le_of_ble_eq_true rfl)⟩ rfl (Nat.le_of_ble_eq_true rfl) rfl rfl (fun _ _ h => h.elim) ?_
          rintro _ w5 ⟨rfl, fm5, h5⟩
          have ke5 := z_ke h5 ke2 rfl
          refine j_if_eq (tgt := 49) dX11_drop_44 (by decide) (fun c_44_130 => ?_) (fun c_44_130 => ?_)
          · exact absurd c_44_130 (by decide)
          · refine j_iconst (v := 0) dX11_drop_47 (by decide) ?_
            refine j_iret dX11_drop_48 rfl rfl ?_ (Nat.le_of_ble_eq_true rfl) (Nat.le_of_ble_eq_true rfl)
            exact ⟨_, _, rfl, ((fm2.le (q' := 59) (by decide)).tr (fm5.le (q' := 59) (by decide))), h5, ke5⟩
set_option maxRecDepth 100000 in
set_option maxHeartbeats 8000000 in
theorem cm_removeIf (hl : l.stackTraces = false) (w : z_W) (s : z_Z) (x y z : Int32) (h : z_mst w s)  : z_Con G l mX11_removeIf 22 0 0 w [.ref 1000, .int x, .int y, .int z] (fun v w9 => ∃ (r : Int32) (s9 : z_Z), v = some (.int r) ∧ z_fm 59 w w9 ∧ z_mst w9 s9 ∧ z_key s9 = z_key s) (fun _ _ => False) := by
  have ke0 : z_key s = z_key s := rfl
  refine z_body hl (by decide) rfl (Nat.le_of_ble_eq_true rfl) ?_
  show z_J G l mX11_removeIf _ 0 [(0, _), (1, _), (2, _), (3, _)] [] _ 0 0
  refine j_aload_n dX11_removeIf_0 rfl rfl ?_
  refine j_iload_n dX11_removeIf_1 rfl ?_
  refine j_callS dX11_removeIf_2 kX11_isNoTwo lX11_72 stX11_isNoTwo (cm_isNoTwo hl w _) (Nat.le_of_ble_eq_true rfl) ⟨(Nat.le_of_ble_eq_true rfl), (Nat.le_of_ble_eq_true rfl)⟩ rfl (Nat.le_of_ble_eq_true rfl) rfl rfl (fun _ _ h => h.elim) ?_
  rintro _ _ ⟨⟨rfl, hno171⟩ | ⟨rfl, i171, hi171, rfl⟩, hw171⟩
  · refine j_w w hw171 ?_
    refine j_iconst (v := 1) dX11_removeIf_5 (by decide) ?_
    refine j_callV (q := (RX11, TX11, 8)) dX11_removeIf_6 kX11_start lX11_76 inX11_start seX11_start h.m rfl (cm_start1 hl w _ _ h (by decide)) (Nat.le_of_ble_eq_true rfl) ⟨(Nat.le_of_ble_eq_true rfl), (Nat.le_of_ble_eq_true rfl)⟩ rfl (Nat.le_of_ble_eq_true rfl) rfl rfl (fun _ _ h => h.elim) ?_
    rintro _ w1 ⟨rfl, fm1, h1⟩
    have ke1 := z_ke h1 ke0 rfl
    refine j_if_ne (tgt := 41) dX11_removeIf_9 (by decide) (fun c_9_11 => ?_) (fun c_9_11 => ?_)
    · refine j_iconst (v := 0) dX11_removeIf_41 (by decide) ?_
      refine j_iret dX11_removeIf_42 rfl rfl ?_ (Nat.le_of_ble_eq_true rfl) (Nat.le_of_ble_eq_true rfl)
      exact ⟨_, _, rfl, (fm1.le (q' := 59) (by decide)), h1, ke1⟩
    · exact absurd c_9_11 (by decide)
  · refine j_w w hw171 ?_
    refine j_iconst (v := 1) dX11_removeIf_5 (by decide) ?_
    refine j_callV (q := (RX11, TX11, 8)) dX11_removeIf_6 kX11_start lX11_76 inX11_start seX11_start h.m rfl (cm_start0 hl w _ _ h) (Nat.le_of_ble_eq_true rfl) ⟨(Nat.le_of_ble_eq_true rfl), (Nat.le_of_ble_eq_true rfl)⟩ rfl (Nat.le_of_ble_eq_true rfl) rfl rfl (fun _ _ h => h.elim) ?_
    rintro _ w2 ⟨rfl, fm2, h2⟩
    have ke2 := z_ke h2 ke0 rfl
    refine j_if_ne (tgt := 41) dX11_removeIf_9 (by decide) (fun c_9_21 => ?_) (fun c_9_21 => ?_)
    · exact absurd c_9_21 (by decide)
    · refine j_aload_n dX11_removeIf_12 rfl rfl ?_
      refine j_iload_n dX11_removeIf_13 rfl ?_
      refine j_iconst (v := 0) dX11_removeIf_14 (by decide) ?_
      refine j_iconst (v := 5) dX11_removeIf_15 (by decide) ?_
      refine j_callS dX11_removeIf_16 kX11_isIn lX11_59 stX11_isIn (cm_isIn hl w2 _ _ _) (Nat.le_of_ble_eq_true rfl) ⟨(Nat.le_of_ble_eq_true rfl), (Nat.le_of_ble_eq_true rfl)⟩ rfl (Nat.le_of_ble_eq_true rfl) rfl rfl (fun _ _ h => h.elim) ?_
      rintro _ _ ⟨⟨rfl, hye172⟩ | ⟨rfl, hno172⟩, hw172⟩
      · refine j_w w2 hw172 ?_
        refine j_if_eq (tgt := 29) dX11_removeIf_19 (by decide) (fun c_19_30 => ?_) (fun c_19_30 => ?_)
        · exact absurd c_19_30 (by decide)
        · refine j_iload_n dX11_removeIf_22 rfl ?_
          refine j_callS dX11_removeIf_23 kX11_isNoValue lX11_79 stX11_isNoValue (cm_isNoValue hl w2 _) (Nat.le_of_ble_eq_true rfl) ⟨(Nat.le_of_ble_eq_true rfl), (Nat.le_of_ble_eq_true rfl)⟩ rfl (Nat.le_of_ble_eq_true rfl) rfl rfl (fun _ _ h => h.elim) ?_
          rintro _ _ ⟨⟨rfl, hno173⟩ | ⟨rfl, hye173⟩, hw173⟩
          · refine j_w w2 hw173 ?_
            refine j_if_eq (tgt := 33) dX11_removeIf_26 (by decide) (fun c_26_36 => ?_) (fun c_26_36 => ?_)
            · exact absurd c_26_36 (by decide)
            · refine j_iconst (v := 1) dX11_removeIf_29 (by decide) ?_
              refine j_goto (tgt := 34) dX11_removeIf_30 (by decide) ?_
              refine j_iconst (v := 2) dX11_removeIf_34 (by decide) ?_
              refine j_callV (q := (RX11, TX11, 8)) dX11_removeIf_35 kX11_refuse lX11_52 inX11_refuse seX11_refuse h2.m rfl (cm_refuse1 hl w2 _ _ h2 rfl (by decide)) (Nat.le_of_ble_eq_true rfl) ⟨(Nat.le_of_ble_eq_true rfl), (Nat.le_of_ble_eq_true rfl)⟩ rfl (Nat.le_of_ble_eq_true rfl) rfl rfl (fun _ _ h => h.elim) ?_
              rintro _ w3 ⟨rfl, fm3, h3⟩
              have ke3 := z_ke h3 ke2 rfl
              refine j_if_eq (tgt := 43) dX11_removeIf_38 (by decide) (fun c_38_44 => ?_) (fun c_38_44 => ?_)
              · exact absurd c_38_44 (by decide)
              · refine j_iconst (v := 0) dX11_removeIf_41 (by decide) ?_
                refine j_iret dX11_removeIf_42 rfl rfl ?_ (Nat.le_of_ble_eq_true rfl) (Nat.le_of_ble_eq_true rfl)
                exact ⟨_, _, rfl, ((fm2.le (q' := 59) (by decide)).tr (fm3.le (q' := 59) (by decide))), h3, ke3⟩
          · refine j_w w2 hw173 ?_
            refine j_if_eq (tgt := 33) dX11_removeIf_26 (by decide) (fun c_26_50 => ?_) (fun c_26_50 => ?_)
            · refine j_iconst (v := 0) dX11_removeIf_33 (by decide) ?_
              refine j_iconst (v := 2) dX11_removeIf_34 (by decide) ?_
              refine j_callV (q := (RX11, TX11, 8)) dX11_removeIf_35 kX11_refuse lX11_52 inX11_refuse seX11_refuse h2.m rfl (cm_refuse0 hl w2 _ _ h2 rfl) (Nat.le_of_ble_eq_true rfl) ⟨(Nat.le_of_ble_eq_true rfl), (Nat.le_of_ble_eq_true rfl)⟩ rfl (Nat.le_of_ble_eq_true rfl) rfl rfl (fun _ _ h => h.elim) ?_
              rintro _ _ ⟨rfl, hw174⟩
              refine j_w w2 hw174 ?_
              refine j_if_eq (tgt := 43) dX11_removeIf_38 (by decide) (fun c_38_56 => ?_) (fun c_38_56 => ?_)
              · refine j_aload_n dX11_removeIf_43 rfl rfl ?_
                refine j_getf dX11_removeIf_44 fX11_31 h2.m rfl ?_
                refine j_iload_n dX11_removeIf_47 rfl ?_
                obtain ⟨fz175, gz175, hz175⟩ := h2.co
                refine j_aald (v := .ref (1004 + i171)) dX11_removeIf_48 gz175 rfl rfl (vp_in_nI (by omega) (by omega)) (by rw [z_cla (by omega)]; exact hz175 _ (by omega)) ?_
                refine j_iconst (v := 0) dX11_removeIf_49 (by decide) ?_
                refine j_dup2 dX11_removeIf_50 rfl rfl ?_
                refine j_ld dX11_removeIf_51 (h2.cn (i := i171) (by omega)) (vp_in_nI (n := 0) (by decide) (by decide)) ?_
                refine j_iconst (v := 1) dX11_removeIf_52 (by decide) ?_
                refine j_iadd dX11_removeIf_53 ?_
                refine j_sto (w' := _) dX11_removeIf_54 (h2.cn (i := i171) (by omega)) (vp_in_nI (n := 0) (by decide) (by decide)) rfl ?_
                refine j_seal (by omega) ?_
                intro w4 u4
                have fw4 := u4.fw (ρ := 44 + i171) (by omega) (by omega)
                have h4 := h2.up44 (i0 := i171) (by omega) fw4 u4.1
                have ke4 := z_ke h4 ke2 rfl
                refine j_iconst (v := 0) dX11_removeIf_55 (by decide) ?_
                refine j_istore (lo' := [(4, _), (0, _), (1, _), (2, _), (3, _)]) dX11_removeIf_56 (by decide) rfl ?_
                refine j_iconst (v := 0) dX11_removeIf_58 (by decide) ?_
                refine j_istore (lo' := [(5, _), (4, _), (0, _), (1, _), (2, _), (3, _)]) dX11_removeIf_59 (by decide) rfl ?_
                have loop61 : ∀ (n9 : Nat) (w5 : z_W) (s1 : z_Z) (a : Nat) (m : Int32), a ≤ (z_qw s1 i171).2.length → (z_qw s1 i171).2.length < a + n9 → z_mst w5 s1 → z_fm 59 w w5 → z_key s1 = z_key s → z_J G l mX11_removeIf (22, 0, 0, w, (fun v w9 => ∃ (r : Int32) (s9 : z_Z), v = some (.int r) ∧ z_fm 59 w w9 ∧ z_mst w9 s9 ∧ z_key s9 = z_key s), (fun _ _ => False)) 61 [(0, .ref 1000), (1, .int (nI i171)), (2, .int y), (3, .int z), (4, .int m), (5, .int (nI a))] [] w5 0 0 := by
                  intro n9
                  induction n9 with
                  | zero => intro w5 s1 a m hj hf9 hm hfm hke; exact absurd hf9 (by omega)
                  | succ n9 ih =>
                    intro w5 s1 a m hj hf9 hm hfm hke
                    refine j_iload dX11_removeIf_61 rfl ?_
                    refine j_aload_n dX11_removeIf_63 rfl rfl ?_
                    refine j_getf dX11_removeIf_64 fX11_21 hm.m rfl ?_
                    refine j_iload_n dX11_removeIf_67 rfl ?_
                    obtain ⟨lv179, -, lg179⟩ := z_li.cell hm.rows
                    refine j_callV (q := (RJx4a65c, TJx4a65c, 3)) dX11_removeIf_68 kJx4a65c_get_915e3 lX11_82 inJx4a65c_get_915e3 seJx4a65c_get_915e3 lg179 rfl (cl_get hl w5 41 1001 _ _ (i171) _ hm.rows (z_two2 (i := i171) (by omega))) (Nat.le_of_ble_eq_true rfl) ⟨(Nat.le_of_ble_eq_true rfl), (Nat.le_of_ble_eq_true rfl)⟩ rfl (Nat.le_of_ble_eq_true rfl) rfl rfl (fun _ _ h => h.elim) ?_
                    rintro _ _ ⟨rfl, hw180⟩
                    refine j_w w5 hw180 ?_
                    refine j_castS dX11_removeIf_71 (z_w 1341 ((lwg_6 96).trans (by decide +kernel)) (by decide +kernel)) (z_li.is (hm.rw (i := i171) (by omega)).1) ?_
                    obtain ⟨lv182, -, lg182⟩ := z_li.cell (hm.rw (i := i171) (by omega)).1
                    refine j_callV (q := (RJx4a65c, TJx4a65c, 3)) dX11_removeIf_74 kJx4a65c_size_8abf5 lX11_86 inJx4a65c_size_8abf5 seJx4a65c_size_8abf5 lg182 rfl (cl_sizeB hl w5 _ _ _ _ (hm.rw (i := i171) (by omega)).1) (Nat.le_of_ble_eq_true rfl) ⟨(Nat.le_of_ble_eq_true rfl), (Nat.le_of_ble_eq_true rfl)⟩ rfl (Nat.le_of_ble_eq_true rfl) rfl rfl (fun _ _ h => h.elim) ?_
                    rintro _ _ ⟨⟨n183, rfl, hn183⟩, hw183⟩
                    refine j_w w5 hw183 ?_
                    have hn183 : n183 = (z_qw s1 (i171)).2.length := hn183
                    have hz183 : (z_qw s1 (i171)).2.length ≤ 12 := (hm.rw (i := i171) (by omega)).2
                    refine j_icmp_ge (tgt := 207) dX11_removeIf_77 (by decide) (fun c_77_98 => ?_) (fun c_77_98 => ?_)
                    · have hb77 : n183 ≤ a := (nI_leI (a := n183) (b := a) (by omega) (by omega)).mp c_77_98
                      refine j_aload_n dX11_removeIf_207 rfl rfl ?_
                      refine j_getf dX11_removeIf_208 fX11_31 hm.m rfl ?_
                      refine j_iload_n dX11_removeIf_211 rfl ?_
                      obtain ⟨fz184, gz184, hz184⟩ := hm.co
                      refine j_aald (v := .ref (1004 + i171)) dX11_removeIf_212 gz184 rfl rfl (vp_in_nI (by omega) (by omega)) (by rw [z_cla (by omega)]; exact hz184 _ (by omega)) ?_
                      refine j_iconst (v := 1) dX11_removeIf_213 (by decide) ?_
                      refine j_dup2 dX11_removeIf_214 rfl rfl ?_
                      refine j_ld dX11_removeIf_215 (hm.cn (i := i171) (by omega)) (vp_in_nI (n := 1) (by decide) (by decide)) ?_
                      refine j_iconst (v := 1) dX11_removeIf_216 (by decide) ?_
                      refine j_iadd dX11_removeIf_217 ?_
                      refine j_sto (w' := _) dX11_removeIf_218 (hm.cn (i := i171) (by omega)) (vp_in_nI (n := 1) (by decide) (by decide)) rfl ?_
                      refine j_seal (by omega) ?_
                      intro w6 u6
                      have fw6 := u6.fw (ρ := 44 + i171) (by omega) (by omega)
                      have h6 := hm.up44 (i0 := i171) (by omega) fw6 u6.1
                      have ke6 := z_ke h6 hke rfl
                      refine j_iload dX11_removeIf_219 rfl ?_
                      refine j_callS dX11_removeIf_221 kX11_one lX11_68 stX11_one (cm_one hl w6 _) (Nat.le_of_ble_eq_true rfl) ⟨(Nat.le_of_ble_eq_true rfl), (Nat.le_of_ble_eq_true rfl)⟩ rfl (Nat.le_of_ble_eq_true rfl) rfl rfl (fun _ _ h => h.elim) ?_
                      rintro _ _ ⟨⟨rfl, -⟩ | ⟨rfl, -⟩, hw187⟩
                      · refine j_w w6 hw187 ?_
                        refine j_iret dX11_removeIf_224 rfl rfl ?_ (Nat.le_of_ble_eq_true rfl) (Nat.le_of_ble_eq_true rfl)
                        exact ⟨_, _, rfl, (hfm.tr (fw6.fm (q := 59) (by omega))), h6, ke6⟩
                      · refine j_w w6 hw187 ?_
                        refine j_iret dX11_removeIf_224 rfl rfl ?_ (Nat.le_of_ble_eq_true rfl) (Nat.le_of_ble_eq_true rfl)
                        exact ⟨_, _, rfl, (hfm.tr (fw6.fm (q := 59) (by omega))), h6, ke6⟩
                    · have hb77 : a < n183 := Nat.not_le.mp (fun z => c_77_98 ((nI_leI (a := n183) (b := a) (by omega) (by omega)).mpr z))
                      refine j_aload_n dX11_removeIf_80 rfl rfl ?_
                      refine j_getf dX11_removeIf_81 fX11_31 hm.m rfl ?_
                      refine j_iload_n dX11_removeIf_84 rfl ?_
                      obtain ⟨fz188, gz188, hz188⟩ := hm.co
                      refine j_aald (v := .ref (1004 + i171)) dX11_removeIf_85 gz188 rfl rfl (vp_in_nI (by omega) (by omega)) (by rw [z_cla (by omega)]; exact hz188 _ (by omega)) ?_
                      refine j_iconst (v := 1) dX11_removeIf_86 (by decide) ?_
                      refine j_dup2 dX11_removeIf_87 rfl rfl ?_
                      refine j_ld dX11_removeIf_88 (hm.cn (i := i171) (by omega)) (vp_in_nI (n := 1) (by decide) (by decide)) ?_
                      refine j_iconst (v := 1) dX11_removeIf_89 (by decide) ?_
                      refine j_iadd dX11_removeIf_90 ?_
                      refine j_sto (w' := _) dX11_removeIf_91 (hm.cn (i := i171) (by omega)) (vp_in_nI (n := 1) (by decide) (by decide)) rfl ?_
                      refine j_seal (by omega) ?_
                      intro w7 u7
                      have fw7 := u7.fw (ρ := 44 + i171) (by omega) (by omega)
                      have h7 := hm.up44 (i0 := i171) (by omega) fw7 u7.1
                      have ke7 := z_ke h7 hke rfl
                      refine j_aload_n dX11_removeIf_92 rfl rfl ?_
                      refine j_getf dX11_removeIf_93 fX11_31 h7.m rfl ?_
                      refine j_iload_n dX11_removeIf_96 rfl ?_
                      obtain ⟨fz191, gz191, hz191⟩ := h7.co
                      refine j_aald (v := .ref (1004 + i171)) dX11_removeIf_97 gz191 rfl rfl (vp_in_nI (by omega) (by omega)) (by rw [z_cla (by omega)]; exact hz191 _ (by omega)) ?_
                      refine j_iconst (v := 2) dX11_removeIf_98 (by decide) ?_
                      refine j_dup2 dX11_removeIf_99 rfl rfl ?_
                      refine j_ld dX11_removeIf_100 (h7.cn (i := i171) (by omega)) (vp_in_nI (n := 2) (by decide) (by decide)) ?_
                      refine j_iconst (v := 1) dX11_removeIf_101 (by decide) ?_
                      refine j_iadd dX11_removeIf_102 ?_
                      refine j_sto (w' := _) dX11_removeIf_103 (h7.cn (i := i171) (by omega)) (vp_in_nI (n := 2) (by decide) (by decide)) rfl ?_
                      refine j_seal (by omega) ?_
                      intro w8 u8
                      have fw8 := u8.fw (ρ := 44 + i171) (by omega) (by omega)
                      have h8 := h7.up44 (i0 := i171) (by omega) fw8 u8.1
                      have ke8 := z_ke h8 ke7 rfl
                      refine j_iload_n dX11_removeIf_104 rfl ?_
                      refine j_aload_n dX11_removeIf_105 rfl rfl ?_
                      refine j_getf dX11_removeIf_106 fX11_21 h8.m rfl ?_
                      refine j_iload_n dX11_removeIf_109 rfl ?_
                      obtain ⟨lv195, -, lg195⟩ := z_li.cell h8.rows
                      refine j_callV (q := (RJx4a65c, TJx4a65c, 3)) dX11_removeIf_110 kJx4a65c_get_915e3 lX11_82 inJx4a65c_get_915e3 seJx4a65c_get_915e3 lg195 rfl (cl_get hl w8 41 1001 _ _ (i171) _ h8.rows (z_two2 (i := i171) (by omega))) (Nat.le_of_ble_eq_true rfl) ⟨(Nat.le_of_ble_eq_true rfl), (Nat.le_of_ble_eq_true rfl)⟩ rfl (Nat.le_of_ble_eq_true rfl) rfl rfl (fun _ _ h => h.elim) ?_
                      rintro _ _ ⟨rfl, hw196⟩
                      refine j_w w8 hw196 ?_
                      refine j_castS dX11_removeIf_113 (z_w 1341 ((lwg_6 96).trans (by decide +kernel)) (by decide +kernel)) (z_li.is (h8.rw (i := i171) (by omega)).1) ?_
                      refine j_iload dX11_removeIf_116 rfl ?_
                      obtain ⟨lv199, -, lg199⟩ := z_li.cell (h8.rw (i := i171) (by omega)).1
                      refine j_callV (q := (RJx4a65c, TJx4a65c, 3)) dX11_removeIf_118 kJx4a65c_get_915e3 lX11_82 inJx4a65c_get_915e3 seJx4a65c_get_915e3 lg199 rfl (cl_get hl w8 _ _ _ _ (a) _ (h8.rw (i := i171) (by omega)).1 (z_bx_get (B := (z_qw s1 (i171)).2) (by omega))) (Nat.le_of_ble_eq_true rfl) ⟨(Nat.le_of_ble_eq_true rfl), (Nat.le_of_ble_eq_true rfl)⟩ rfl (Nat.le_of_ble_eq_true rfl) rfl rfl (fun _ _ h => h.elim) ?_
                      rintro _ _ ⟨rfl, hw200⟩
                      refine j_w w8 hw200 ?_
                      refine j_castS dX11_removeIf_121 (z_w 1567 ((lwg_7 82).trans (by decide +kernel)) (by decide +kernel)) rfl ?_
                      refine j_callVB (v0 := .float _) (C := "java/lang/Integer") dX11_removeIf_124 kJ6_intValue_8abf5 lX11_99 inJ6_intValue_8abf5 seJ6_intValue_8abf5 rfl (c_J6_intValue_8abf5 hl w8 _) (Nat.le_of_ble_eq_true rfl) ⟨(Nat.le_of_ble_eq_true rfl), (Nat.le_of_ble_eq_true rfl)⟩ rfl (Nat.le_of_ble_eq_true rfl) rfl rfl (fun _ _ h => h.elim) ?_
                      rintro _ _ ⟨rfl, hw202⟩
                      refine j_w w8 hw202 ?_
                      refine j_iload_n dX11_removeIf_127 rfl ?_
                      refine j_callS dX11_removeIf_128 kX11_test lX11_112 stX11_test (cm_test hl w8 _ _ _) (Nat.le_of_ble_eq_true rfl) ⟨(Nat.le_of_ble_eq_true rfl), (Nat.le_of_ble_eq_true rfl)⟩ rfl (Nat.le_of_ble_eq_true rfl) rfl rfl (fun _ _ h => h.elim) ?_
                      rintro _ _ ⟨⟨r203, rfl⟩, hw203⟩
                      refine j_w w8 hw203 ?_
                      refine j_istore (lo' := [(6, _), (0, _), (1, _), (2, _), (3, _), (4, _), (5, _)]) dX11_removeIf_131 (by decide) rfl ?_
                      refine j_iload dX11_removeIf_133 rfl ?_
                      refine j_ldc dX11_removeIf_135 kcX11_67 ?_
                      refine j_icmp_eq (tgt := 155) dX11_removeIf_137 (by decide) (fun c_137_183 => ?_) (fun c_137_183 => ?_)
                      · refine j_aload_n dX11_removeIf_155 rfl rfl ?_
                        refine j_callV (q := (RX11, TX11, 8)) dX11_removeIf_156 kX11_nine lX11_105 inX11_nine seX11_nine h8.m rfl (cm_nine hl w8 _ h8) (Nat.le_of_ble_eq_true rfl) ⟨(Nat.le_of_ble_eq_true rfl), (Nat.le_of_ble_eq_true rfl)⟩ rfl (Nat.le_of_ble_eq_true rfl) rfl rfl (fun _ _ h => h.elim) ?_
                        rintro _ w9 ⟨rfl, fm9, h9⟩
                        have ke9 := z_ke h9 ke8 rfl
                        refine j_iret dX11_removeIf_159 rfl rfl ?_ (Nat.le_of_ble_eq_true rfl) (Nat.le_of_ble_eq_true rfl)
                        exact ⟨_, _, rfl, (((hfm.tr (fw7.fm (q := 59) (by omega))).tr (fw8.fm (q := 59) (by omega))).tr (fm9.le (q' := 59) (by decide))), h9, ke9⟩
                      · refine j_iload dX11_removeIf_140 rfl ?_
                        refine j_iconst (v := 1) dX11_removeIf_142 (by decide) ?_
                        refine j_icmp_ne (tgt := 160) dX11_removeIf_143 (by decide) (fun c_143_192 => ?_) (fun c_143_192 => ?_)
                        · refine j_iload dX11_removeIf_160 rfl ?_
                          refine j_iconst (v := 1) dX11_removeIf_162 (by decide) ?_
                          refine j_icmp_ne (tgt := 201) dX11_removeIf_163 (by decide) (fun c_163_195 => ?_) (fun c_163_195 => ?_)
                          · refine j_iinc (lo' := [(5, _), (6, _), (0, _), (1, _), (2, _), (3, _), (4, _)]) dX11_removeIf_201 rfl (z_inc _) (by decide) rfl ?_
                            refine j_goto (tgt := 61) dX11_removeIf_204 (by decide) ?_
                            exact j_lo2 (ih w8 _ (a + 1) _ (by show _ ≤ (z_qw s1 i171).2.length; omega) (by show (z_qw s1 i171).2.length < _; omega) h8 ((hfm.tr (fw7.fm (q := 59) (by omega))).tr (fw8.fm (q := 59) (by omega))) ke8) (z_q1 rfl (z_q1 rfl (z_q1 rfl (z_q1 rfl (z_q1 rfl (z_q1 rfl z_q0))))))
                          · refine j_aload_n dX11_removeIf_166 rfl rfl ?_
                            refine j_getf dX11_removeIf_167 fX11_21 h8.m rfl ?_
                            refine j_iload_n dX11_removeIf_170 rfl ?_
                            obtain ⟨lv205, -, lg205⟩ := z_li.cell h8.rows
                            refine j_callV (q := (RJx4a65c, TJx4a65c, 3)) dX11_removeIf_171 kJx4a65c_get_915e3 lX11_82 inJx4a65c_get_915e3 seJx4a65c_get_915e3 lg205 rfl (cl_get hl w8 41 1001 _ _ (i171) _ h8.rows (z_two2 (i := i171) (by omega))) (Nat.le_of_ble_eq_true rfl) ⟨(Nat.le_of_ble_eq_true rfl), (Nat.le_of_ble_eq_true rfl)⟩ rfl (Nat.le_of_ble_eq_true rfl) rfl rfl (fun _ _ h => h.elim) ?_
                            rintro _ _ ⟨rfl, hw206⟩
                            refine j_w w8 hw206 ?_
                            refine j_castS dX11_removeIf_174 (z_w 1341 ((lwg_6 96).trans (by decide +kernel)) (by decide +kernel)) (z_li.is (h8.rw (i := i171) (by omega)).1) ?_
                            refine j_iload dX11_removeIf_177 rfl ?_
                            obtain ⟨lv208, -, lg208⟩ := z_li.cell (h8.rw (i := i171) (by omega)).1
                            refine j_callV (q := (RJx4a65c, TJx4a65c, 3)) dX11_removeIf_179 kJx4a65c_remove_915e3 lX11_96 inJx4a65c_remove_915e3 seJx4a65c_remove_915e3 lg208 rfl (cl_rem hl w8 _ _ _ _ (a) _ (h8.rw (i := i171) (by omega)).1 (z_bx_get (B := (z_qw s1 i171).2) (by omega)) h8.fn z_bx_el) (Nat.le_of_ble_eq_true rfl) ⟨(Nat.le_of_ble_eq_true rfl), (Nat.le_of_ble_eq_true rfl)⟩ rfl (Nat.le_of_ble_eq_true rfl) rfl rfl (fun _ _ h => h.elim) ?_
                            rintro _ w10 ⟨rfl, fw10, mo10, hr10⟩
                            rw [z_bx_rem] at hr10
                            have fm10 := fw10.fm (q := 56) (by omega)
                            have hlr10 : ((z_qw s1 i171).2.eraseIdx (a)).length = (z_qw s1 i171).2.length - 1 := List.length_eraseIdx_of_lt (by omega)
                            have h10 := h8.li11 (i0 := i171) (B := (z_qw s1 i171).2.eraseIdx (a)) (by omega) fw10 hr10 (by omega)
                            have ke10 := z_ke h10 ke8 rfl
                            refine j_pop dX11_removeIf_182 rfl ?_
                            refine j_aload_n dX11_removeIf_183 rfl rfl ?_
                            refine j_getf dX11_removeIf_184 fX11_31 h10.m rfl ?_
                            refine j_iload_n dX11_removeIf_187 rfl ?_
                            obtain ⟨fz209, gz209, hz209⟩ := h10.co
                            refine j_aald (v := .ref (1004 + i171)) dX11_removeIf_188 gz209 rfl rfl (vp_in_nI (by omega) (by omega)) (by rw [z_cla (by omega)]; exact hz209 _ (by omega)) ?_
                            refine j_iconst (v := 4) dX11_removeIf_189 (by decide) ?_
                            refine j_dup2 dX11_removeIf_190 rfl rfl ?_
                            refine j_ld dX11_removeIf_191 (h10.cn (i := i171) (by omega)) (vp_in_nI (n := 4) (by decide) (by decide)) ?_
                            refine j_iconst (v := 1) dX11_removeIf_192 (by decide) ?_
                            refine j_iadd dX11_removeIf_193 ?_
                            refine j_sto (w' := _) dX11_removeIf_194 (h10.cn (i := i171) (by omega)) (vp_in_nI (n := 4) (by decide) (by decide)) rfl ?_
                            refine j_seal (by omega) ?_
                            intro w11 u11
                            have fw11 := u11.fw (ρ := 44 + i171) (by omega) (by omega)
                            have h11 := h10.up44 (i0 := i171) (by omega) fw11 u11.1
                            have ke11 := z_ke h11 ke10 rfl
                            refine j_iconst (v := 1) dX11_removeIf_195 (by decide) ?_
                            refine j_istore (lo' := [(4, _), (6, _), (0, _), (1, _), (2, _), (3, _), (5, _)]) dX11_removeIf_196 (by decide) rfl ?_
                            refine j_goto (tgt := 204) dX11_removeIf_198 (by decide) ?_
                            refine j_goto (tgt := 61) dX11_removeIf_204 (by decide) ?_
                            exact j_lo2 (ih w11 _ a _ (by show a ≤ (z_fu (z_qw s1) i171 _ i171).2.length; rw [z_fu_self]; show a ≤ ((z_qw s1 i171).2.eraseIdx _).length; omega) (by show (z_fu (z_qw s1) i171 _ i171).2.length < _; rw [z_fu_self]; show ((z_qw s1 i171).2.eraseIdx _).length < _; omega) h11 ((((hfm.tr (fw7.fm (q := 59) (by omega))).tr (fw8.fm (q := 59) (by omega))).tr (fm10.le (q' := 59) (by decide))).tr (fw11.fm (q := 59) (by omega))) ke11) (z_q1 rfl (z_q1 rfl (z_q1 rfl (z_q1 rfl (z_q1 rfl (z_q1 rfl z_q0))))))
                        · refine j_aload_n dX11_removeIf_146 rfl rfl ?_
                          refine j_getf dX11_removeIf_147 fX11_25 h8.m rfl ?_
                          refine j_iload_n dX11_removeIf_150 rfl ?_
                          refine j_zald dX11_removeIf_151 h8.fx (vp_in_nI (by omega) (by omega)) rfl ?_
                          refine j_if_eq (tgt := 160) dX11_removeIf_152 (by decide) (fun c_152_242 => ?_) (fun c_152_242 => ?_)
                          · refine j_iload dX11_removeIf_160 rfl ?_
                            refine j_iconst (v := 1) dX11_removeIf_162 (by decide) ?_
                            refine j_icmp_ne (tgt := 201) dX11_removeIf_163 (by decide) (fun c_163_245 => ?_) (fun c_163_245 => ?_)
                            · refine j_iinc (lo' := [(5, _), (6, _), (0, _), (1, _), (2, _), (3, _), (4, _)]) dX11_removeIf_201 rfl (z_inc _) (by decide) rfl ?_
                              refine j_goto (tgt := 61) dX11_removeIf_204 (by decide) ?_
                              exact j_lo2 (ih w8 _ (a + 1) _ (by show _ ≤ (z_qw s1 i171).2.length; omega) (by show (z_qw s1 i171).2.length < _; omega) h8 ((hfm.tr (fw7.fm (q := 59) (by omega))).tr (fw8.fm (q := 59) (by omega))) ke8) (z_q1 rfl (z_q1 rfl (z_q1 rfl (z_q1 rfl (z_q1 rfl (z_q1 rfl z_q0))))))
                            · refine j_aload_n dX11_removeIf_166 rfl rfl ?_
                              refine j_getf dX11_removeIf_167 fX11_21 h8.m rfl ?_
                              refine j_iload_n dX11_removeIf_170 rfl ?_
                              obtain ⟨lv214, -, lg214⟩ := z_li.cell h8.rows
                              refine j_callV (q := (RJx4a65c, TJx4a65c, 3)) dX11_removeIf_171 kJx4a65c_get_915e3 lX11_82 inJx4a65c_get_915e3 seJx4a65c_get_915e3 lg214 rfl (cl_get hl w8 41 1001 _ _ (i171) _ h8.rows (z_two2 (i := i171) (by omega))) (Nat.le_of_ble_eq_true rfl) ⟨(Nat.le_of_ble_eq_true rfl), (Nat.le_of_ble_eq_true rfl)⟩ rfl (Nat.le_of_ble_eq_true rfl) rfl rfl (fun _ _ h => h.elim) ?_
                              rintro _ _ ⟨rfl, hw215⟩
                              refine j_w w8 hw215 ?_
                              refine j_castS dX11_removeIf_174 (z_w 1341 ((lwg_6 96).trans (by decide +kernel)) (by decide +kernel)) (z_li.is (h8.rw (i := i171) (by omega)).1) ?_
                              refine j_iload dX11_removeIf_177 rfl ?_
                              obtain ⟨lv217, -, lg217⟩ := z_li.cell (h8.rw (i := i171) (by omega)).1
                              refine j_callV (q := (RJx4a65c, TJx4a65c, 3)) dX11_removeIf_179 kJx4a65c_remove_915e3 lX11_96 inJx4a65c_remove_915e3 seJx4a65c_remove_915e3 lg217 rfl (cl_rem hl w8 _ _ _ _ (a) _ (h8.rw (i := i171) (by omega)).1 (z_bx_get (B := (z_qw s1 i171).2) (by omega)) h8.fn z_bx_el) (Nat.le_of_ble_eq_true rfl) ⟨(Nat.le_of_ble_eq_true rfl), (Nat.le_of_ble_eq_true rfl)⟩ rfl (Nat.le_of_ble_eq_true rfl) rfl rfl (fun _ _ h => h.elim) ?_
                              rintro _ w12 ⟨rfl, fw12, mo12, hr12⟩
                              rw [z_bx_rem] at hr12
                              have fm12 := fw12.fm (q := 56) (by omega)
                              have hlr12 : ((z_qw s1 i171).2.eraseIdx (a)).length = (z_qw s1 i171).2.length - 1 := List.length_eraseIdx_of_lt (by omega)
                              have h12 := h8.li11 (i0 := i171) (B := (z_qw s1 i171).2.eraseIdx (a)) (by omega) fw12 hr12 (by omega)
                              have ke12 := z_ke h12 ke8 rfl
                              refine j_pop dX11_removeIf_182 rfl ?_
                              refine j_aload_n dX11_removeIf_183 rfl rfl ?_
                              refine j_getf dX11_removeIf_184 fX11_31 h12.m rfl ?_
                              refine j_iload_n dX11_removeIf_187 rfl ?_
                              obtain ⟨fz218, gz218, hz218⟩ := h12.co
                              refine j_aald (v := .ref (1004 + i171)) dX11_removeIf_188 gz218 rfl rfl (vp_in_nI (by omega) (by omega)) (by rw [z_cla (by omega)]; exact hz218 _ (by omega)) ?_
                              refine j_iconst (v := 4) dX11_removeIf_189 (by decide) ?_
                              refine j_dup2 dX11_removeIf_190 rfl rfl ?_
                              refine j_ld dX11_removeIf_191 (h12.cn (i := i171) (by omega)) (vp_in_nI (n := 4) (by decide) (by decide)) ?_
                              refine j_iconst (v := 1) dX11_removeIf_192 (by decide) ?_
                              refine j_iadd dX11_removeIf_193 ?_
                              refine j_sto (w' := _) dX11_removeIf_194 (h12.cn (i := i171) (by omega)) (vp_in_nI (n := 4) (by decide) (by decide)) rfl ?_
                              refine j_seal (by omega) ?_
                              intro w13 u13
                              have fw13 := u13.fw (ρ := 44 + i171) (by omega) (by omega)
                              have h13 := h12.up44 (i0 := i171) (by omega) fw13 u13.1
                              have ke13 := z_ke h13 ke12 rfl
                              refine j_iconst (v := 1) dX11_removeIf_195 (by decide) ?_
                              refine j_istore (lo' := [(4, _), (6, _), (0, _), (1, _), (2, _), (3, _), (5, _)]) dX11_removeIf_196 (by decide) rfl ?_
                              refine j_goto (tgt := 204) dX11_removeIf_198 (by decide) ?_
                              refine j_goto (tgt := 61) dX11_removeIf_204 (by decide) ?_
                              exact j_lo2 (ih w13 _ a _ (by show a ≤ (z_fu (z_qw s1) i171 _ i171).2.length; rw [z_fu_self]; show a ≤ ((z_qw s1 i171).2.eraseIdx _).length; omega) (by show (z_fu (z_qw s1) i171 _ i171).2.length < _; rw [z_fu_self]; show ((z_qw s1 i171).2.eraseIdx _).length < _; omega) h13 ((((hfm.tr (fw7.fm (q := 59) (by omega))).tr (fw8.fm (q := 59) (by omega))).tr (fm12.le (q' := 59) (by decide))).tr (fw13.fm (q := 59) (by omega))) ke13) (z_q1 rfl (z_q1 rfl (z_q1 rfl (z_q1 rfl (z_q1 rfl (z_q1 rfl z_q0))))))
                          · refine j_aload_n dX11_removeIf_155 rfl rfl ?_
                            refine j_callV (q := (RX11, TX11, 8)) dX11_removeIf_156 kX11_nine lX11_105 inX11_nine seX11_nine h8.m rfl (cm_nine hl w8 _ h8) (Nat.le_of_ble_eq_true rfl) ⟨(Nat.le_of_ble_eq_true rfl), (Nat.le_of_ble_eq_true rfl)⟩ rfl (Nat.le_of_ble_eq_true rfl) rfl rfl (fun _ _ h => h.elim) ?_
                            rintro _ w14 ⟨rfl, fm14, h14⟩
                            have ke14 := z_ke h14 ke8 rfl
                            refine j_iret dX11_removeIf_159 rfl rfl ?_ (Nat.le_of_ble_eq_true rfl) (Nat.le_of_ble_eq_true rfl)
                            exact ⟨_, _, rfl, (((hfm.tr (fw7.fm (q := 59) (by omega))).tr (fw8.fm (q := 59) (by omega))).tr (fm14.le (q' := 59) (by decide))), h14, ke14⟩
                exact j_lo2 (loop61 ((z_qw s i171).2.length + 1) w4 _ 0 _ (by omega) (by show (z_qw s i171).2.length < _; omega) h4 ((fm2.le (q' := 59) (by decide)).tr (fw4.fm (q := 59) (by omega))) ke4) (z_q1 rfl (z_q1 rfl (z_q1 rfl (z_q1 rfl (z_q1 rfl (z_q1 rfl z_q0))))))
              · exact absurd c_38_56 (by decide)
            · exact absurd c_26_50 (by decide)
      · refine j_w w2 hw172 ?_
        refine j_if_eq (tgt := 29) dX11_removeIf_19 (by decide) (fun c_19_298 => ?_) (fun c_19_298 => ?_)
        · refine j_iconst (v := 1) dX11_removeIf_29 (by decide) ?_
          refine j_goto (tgt := 34) dX11_removeIf_30 (by decide) ?_
          refine j_iconst (v := 2) dX11_removeIf_34 (by decide) ?_
          refine j_callV (q := (RX11, TX11, 8)) dX11_removeIf_35 kX11_refuse lX11_52 inX11_refuse seX11_refuse h2.m rfl (cm_refuse1 hl w2 _ _ h2 rfl (by decide)) (Nat.le_of_ble_eq_true rfl) ⟨(Nat.le_of_ble_eq_true rfl), (Nat.le_of_ble_eq_true rfl)⟩ rfl (Nat.le_of_ble_eq_true rfl) rfl rfl (fun _ _ h => h.elim) ?_
          rintro _ w15 ⟨rfl, fm15, h15⟩
          have ke15 := z_ke h15 ke2 rfl
          refine j_if_eq (tgt := 43) dX11_removeIf_38 (by decide) (fun c_38_305 => ?_) (fun c_38_305 => ?_)
          · exact absurd c_38_305 (by decide)
          · refine j_iconst (v := 0) dX11_removeIf_41 (by decide) ?_
            refine j_iret dX11_removeIf_42 rfl rfl ?_ (Nat.le_of_ble_eq_true rfl) (Nat.le_of_ble_eq_true rfl)
            exact ⟨_, _, rfl, ((fm2.le (q' := 59) (by decide)).tr (fm15.le (q' := 59) (by decide))), h15, ke15⟩
        · exact absurd c_19_298 (by decide)
set_option maxRecDepth 100000 in
set_option maxHeartbeats 8000000 in
theorem cm_replaceAll (hl : l.stackTraces = false) (w : z_W) (s : z_Z) (x y z : Int32) (h : z_mst w s)  : z_Con G l mX11_replaceAll 22 12 12 w [.ref 1000, .int x, .int y, .int z] (fun v w9 => ∃ (r : Int32) (s9 : z_Z), v = some (.int r) ∧ z_fm 59 w w9 ∧ z_mst w9 s9 ∧ z_key s9 = z_key s) (fun _ _ => False) := by
  have ke0 : z_key s = z_key s := rfl
  refine z_body hl (by decide) rfl (Nat.le_of_ble_eq_true rfl) ?_
  show z_J G l mX11_replaceAll _ 0 [(0, _), (1, _), (2, _), (3, _)] [] _ 0 0
  refine j_aload_n dX11_replaceAll_0 rfl rfl ?_
  refine j_iload_n dX11_replaceAll_1 rfl ?_
  refine j_callS dX11_replaceAll_2 kX11_isNoTwo lX11_72 stX11_isNoTwo (cm_isNoTwo hl w _) (Nat.le_of_ble_eq_true rfl) ⟨(by show _ ≤ 12; omega), (by show _ ≤ 12; omega)⟩ rfl (Nat.le_of_ble_eq_true rfl) rfl rfl (fun _ _ h => h.elim) ?_
  rintro _ _ ⟨⟨rfl, hno221⟩ | ⟨rfl, i221, hi221, rfl⟩, hw221⟩
  · refine j_w w hw221 ?_
    refine j_iconst (v := 1) dX11_replaceAll_5 (by decide) ?_
    refine j_callV (q := (RX11, TX11, 8)) dX11_replaceAll_6 kX11_start lX11_76 inX11_start seX11_start h.m rfl (cm_start1 hl w _ _ h (by decide)) (Nat.le_of_ble_eq_true rfl) ⟨(by show _ ≤ 12; omega), (by show _ ≤ 12; omega)⟩ rfl (Nat.le_of_ble_eq_true rfl) rfl rfl (fun _ _ h => h.elim) ?_
    rintro _ w1 ⟨rfl, fm1, h1⟩
    have ke1 := z_ke h1 ke0 rfl
    refine j_if_ne (tgt := 46) dX11_replaceAll_9 (by decide) (fun c_9_11 => ?_) (fun c_9_11 => ?_)
    · refine j_iconst (v := 0) dX11_replaceAll_46 (by decide) ?_
      refine j_iret dX11_replaceAll_47 rfl rfl ?_ (by show _ ≤ 12; omega) (by show _ ≤ 12; omega)
      exact ⟨_, _, rfl, (fm1.le (q' := 59) (by decide)), h1, ke1⟩
    · exact absurd c_9_11 (by decide)
  · refine j_w w hw221 ?_
    refine j_iconst (v := 1) dX11_replaceAll_5 (by decide) ?_
    refine j_callV (q := (RX11, TX11, 8)) dX11_replaceAll_6 kX11_start lX11_76 inX11_start seX11_start h.m rfl (cm_start0 hl w _ _ h) (Nat.le_of_ble_eq_true rfl) ⟨(by show _ ≤ 12; omega), (by show _ ≤ 12; omega)⟩ rfl (Nat.le_of_ble_eq_true rfl) rfl rfl (fun _ _ h => h.elim) ?_
    rintro _ w2 ⟨rfl, fm2, h2⟩
    have ke2 := z_ke h2 ke0 rfl
    refine j_if_ne (tgt := 46) dX11_replaceAll_9 (by decide) (fun c_9_21 => ?_) (fun c_9_21 => ?_)
    · exact absurd c_9_21 (by decide)
    · refine j_aload_n dX11_replaceAll_12 rfl rfl ?_
      refine j_iload_n dX11_replaceAll_13 rfl ?_
      refine j_if_eq (tgt := 27) dX11_replaceAll_14 (by decide) (fun c_14_25 => ?_) (fun c_14_25 => ?_)
      · refine j_iload_n dX11_replaceAll_27 rfl ?_
        refine j_callS dX11_replaceAll_28 kX11_isNoValue lX11_79 stX11_isNoValue (cm_isNoValue hl w2 _) (Nat.le_of_ble_eq_true rfl) ⟨(by show _ ≤ 12; omega), (by show _ ≤ 12; omega)⟩ rfl (Nat.le_of_ble_eq_true rfl) rfl rfl (fun _ _ h => h.elim) ?_
        rintro _ _ ⟨⟨rfl, hno222⟩ | ⟨rfl, hye222⟩, hw222⟩
        · refine j_w w2 hw222 ?_
          refine j_if_eq (tgt := 38) dX11_replaceAll_31 (by decide) (fun c_31_30 => ?_) (fun c_31_30 => ?_)
          · exact absurd c_31_30 (by decide)
          · refine j_iconst (v := 1) dX11_replaceAll_34 (by decide) ?_
            refine j_goto (tgt := 39) dX11_replaceAll_35 (by decide) ?_
            refine j_iconst (v := 2) dX11_replaceAll_39 (by decide) ?_
            refine j_callV (q := (RX11, TX11, 8)) dX11_replaceAll_40 kX11_refuse lX11_52 inX11_refuse seX11_refuse h2.m rfl (cm_refuse1 hl w2 _ _ h2 rfl (by decide)) (Nat.le_of_ble_eq_true rfl) ⟨(by show _ ≤ 12; omega), (by show _ ≤ 12; omega)⟩ rfl (Nat.le_of_ble_eq_true rfl) rfl rfl (fun _ _ h => h.elim) ?_
            rintro _ w3 ⟨rfl, fm3, h3⟩
            have ke3 := z_ke h3 ke2 rfl
            refine j_if_eq (tgt := 48) dX11_replaceAll_43 (by decide) (fun c_43_38 => ?_) (fun c_43_38 => ?_)
            · exact absurd c_43_38 (by decide)
            · refine j_iconst (v := 0) dX11_replaceAll_46 (by decide) ?_
              refine j_iret dX11_replaceAll_47 rfl rfl ?_ (by show _ ≤ 12; omega) (by show _ ≤ 12; omega)
              exact ⟨_, _, rfl, ((fm2.le (q' := 59) (by decide)).tr (fm3.le (q' := 59) (by decide))), h3, ke3⟩
        · refine j_w w2 hw222 ?_
          refine j_if_eq (tgt := 38) dX11_replaceAll_31 (by decide) (fun c_31_44 => ?_) (fun c_31_44 => ?_)
          · refine j_iconst (v := 0) dX11_replaceAll_38 (by decide) ?_
            refine j_iconst (v := 2) dX11_replaceAll_39 (by decide) ?_
            refine j_callV (q := (RX11, TX11, 8)) dX11_replaceAll_40 kX11_refuse lX11_52 inX11_refuse seX11_refuse h2.m rfl (cm_refuse0 hl w2 _ _ h2 rfl) (Nat.le_of_ble_eq_true rfl) ⟨(by show _ ≤ 12; omega), (by show _ ≤ 12; omega)⟩ rfl (Nat.le_of_ble_eq_true rfl) rfl rfl (fun _ _ h => h.elim) ?_
            rintro _ _ ⟨rfl, hw223⟩
            refine j_w w2 hw223 ?_
            refine j_if_eq (tgt := 48) dX11_replaceAll_43 (by decide) (fun c_43_50 => ?_) (fun c_43_50 => ?_)
            · refine j_aload_n dX11_replaceAll_48 rfl rfl ?_
              refine j_getf dX11_replaceAll_49 fX11_31 h2.m rfl ?_
              refine j_iload_n dX11_replaceAll_52 rfl ?_
              obtain ⟨fz224, gz224, hz224⟩ := h2.co
              refine j_aald (v := .ref (1004 + i221)) dX11_replaceAll_53 gz224 rfl rfl (vp_in_nI (by omega) (by omega)) (by rw [z_cla (by omega)]; exact hz224 _ (by omega)) ?_
              refine j_iconst (v := 0) dX11_replaceAll_54 (by decide) ?_
              refine j_dup2 dX11_replaceAll_55 rfl rfl ?_
              refine j_ld dX11_replaceAll_56 (h2.cn (i := i221) (by omega)) (vp_in_nI (n := 0) (by decide) (by decide)) ?_
              refine j_iconst (v := 1) dX11_replaceAll_57 (by decide) ?_
              refine j_iadd dX11_replaceAll_58 ?_
              refine j_sto (w' := _) dX11_replaceAll_59 (h2.cn (i := i221) (by omega)) (vp_in_nI (n := 0) (by decide) (by decide)) rfl ?_
              refine j_seal (by omega) ?_
              intro w4 u4
              have fw4 := u4.fw (ρ := 44 + i221) (by omega) (by omega)
              have h4 := h2.up44 (i0 := i221) (by omega) fw4 u4.1
              have ke4 := z_ke h4 ke2 rfl
              refine j_iconst (v := 0) dX11_replaceAll_60 (by decide) ?_
              refine j_istore (lo' := [(4, _), (0, _), (1, _), (2, _), (3, _)]) dX11_replaceAll_61 (by decide) rfl ?_
              have loop63 : ∀ (n9 : Nat) (w5 : z_W) (s1 : z_Z) (j : Nat), j ≤ 12 → j ≤ (z_qw s1 i221).2.length → (z_qw s1 i221).2.length < j + n9 → z_mst w5 s1 → z_fm 59 w w5 → z_key s1 = z_key s → z_J G l mX11_replaceAll (22, 12, 12, w, (fun v w9 => ∃ (r : Int32) (s9 : z_Z), v = some (.int r) ∧ z_fm 59 w w9 ∧ z_mst w9 s9 ∧ z_key s9 = z_key s), (fun _ _ => False)) 63 [(0, .ref 1000), (1, .int (nI i221)), (2, .int y), (3, .int z), (4, .int (nI j))] [] w5 j j := by
                intro n9
                induction n9 with
                | zero => intro w5 s1 j hj12 hj hf9 hm hfm hke; exact absurd hf9 (by omega)
                | succ n9 ih =>
                  intro w5 s1 j hj12 hj hf9 hm hfm hke
                  refine j_iload dX11_replaceAll_63 rfl ?_
                  refine j_aload_n dX11_replaceAll_65 rfl rfl ?_
                  refine j_getf dX11_replaceAll_66 fX11_21 hm.m rfl ?_
                  refine j_iload_n dX11_replaceAll_69 rfl ?_
                  obtain ⟨lv228, -, lg228⟩ := z_li.cell hm.rows
                  refine j_callV (q := (RJx4a65c, TJx4a65c, 3)) dX11_replaceAll_70 kJx4a65c_get_915e3 lX11_82 inJx4a65c_get_915e3 seJx4a65c_get_915e3 lg228 rfl (cl_get hl w5 41 1001 _ _ (i221) _ hm.rows (z_two2 (i := i221) (by omega))) (Nat.le_of_ble_eq_true rfl) ⟨(by show _ ≤ 12; omega), (by show _ ≤ 12; omega)⟩ rfl (Nat.le_of_ble_eq_true rfl) rfl rfl (fun _ _ h => h.elim) ?_
                  rintro _ _ ⟨rfl, hw229⟩
                  refine j_w w5 hw229 ?_
                  refine j_castS dX11_replaceAll_73 (z_w 1341 ((lwg_6 96).trans (by decide +kernel)) (by decide +kernel)) (z_li.is (hm.rw (i := i221) (by omega)).1) ?_
                  obtain ⟨lv231, -, lg231⟩ := z_li.cell (hm.rw (i := i221) (by omega)).1
                  refine j_callV (q := (RJx4a65c, TJx4a65c, 3)) dX11_replaceAll_76 kJx4a65c_size_8abf5 lX11_86 inJx4a65c_size_8abf5 seJx4a65c_size_8abf5 lg231 rfl (cl_sizeB hl w5 _ _ _ _ (hm.rw (i := i221) (by omega)).1) (Nat.le_of_ble_eq_true rfl) ⟨(by show _ ≤ 12; omega), (by show _ ≤ 12; omega)⟩ rfl (Nat.le_of_ble_eq_true rfl) rfl rfl (fun _ _ h => h.elim) ?_
                  rintro _ _ ⟨⟨n232, rfl, hn232⟩, hw232⟩
                  refine j_w w5 hw232 ?_
                  have hn232 : n232 = (z_qw s1 (i221)).2.length := hn232
                  have hz232 : (z_qw s1 (i221)).2.length ≤ 12 := (hm.rw (i := i221) (by omega)).2
                  refine j_icmp_ge (tgt := 197) dX11_replaceAll_79 (by decide) (fun c_79_90 => ?_) (fun c_79_90 => ?_)
                  · have hb79 : n232 ≤ j := (nI_leI (a := n232) (b := j) (by omega) (by omega)).mp c_79_90
                    refine j_aload_n dX11_replaceAll_197 rfl rfl ?_
                    refine j_getf dX11_replaceAll_198 fX11_31 hm.m rfl ?_
                    refine j_iload_n dX11_replaceAll_201 rfl ?_
                    obtain ⟨fz233, gz233, hz233⟩ := hm.co
                    refine j_aald (v := .ref (1004 + i221)) dX11_replaceAll_202 gz233 rfl rfl (vp_in_nI (by omega) (by omega)) (by rw [z_cla (by omega)]; exact hz233 _ (by omega)) ?_
                    refine j_iconst (v := 1) dX11_replaceAll_203 (by decide) ?_
                    refine j_dup2 dX11_replaceAll_204 rfl rfl ?_
                    refine j_ld dX11_replaceAll_205 (hm.cn (i := i221) (by omega)) (vp_in_nI (n := 1) (by decide) (by decide)) ?_
                    refine j_iconst (v := 1) dX11_replaceAll_206 (by decide) ?_
                    refine j_iadd dX11_replaceAll_207 ?_
                    refine j_sto (w' := _) dX11_replaceAll_208 (hm.cn (i := i221) (by omega)) (vp_in_nI (n := 1) (by decide) (by decide)) rfl ?_
                    refine j_seal (by omega) ?_
                    intro w6 u6
                    have fw6 := u6.fw (ρ := 44 + i221) (by omega) (by omega)
                    have h6 := hm.up44 (i0 := i221) (by omega) fw6 u6.1
                    have ke6 := z_ke h6 hke rfl
                    refine j_aload_n dX11_replaceAll_209 rfl rfl ?_
                    refine j_getf dX11_replaceAll_210 fX11_21 h6.m rfl ?_
                    refine j_iload_n dX11_replaceAll_213 rfl ?_
                    obtain ⟨lv237, -, lg237⟩ := z_li.cell h6.rows
                    refine j_callV (q := (RJx4a65c, TJx4a65c, 3)) dX11_replaceAll_214 kJx4a65c_get_915e3 lX11_82 inJx4a65c_get_915e3 seJx4a65c_get_915e3 lg237 rfl (cl_get hl w6 41 1001 _ _ (i221) _ h6.rows (z_two2 (i := i221) (by omega))) (Nat.le_of_ble_eq_true rfl) ⟨(by show _ ≤ 12; omega), (by show _ ≤ 12; omega)⟩ rfl (Nat.le_of_ble_eq_true rfl) rfl rfl (fun _ _ h => h.elim) ?_
                    rintro _ _ ⟨rfl, hw238⟩
                    refine j_w w6 hw238 ?_
                    refine j_castS dX11_replaceAll_217 (z_w 1341 ((lwg_6 96).trans (by decide +kernel)) (by decide +kernel)) (z_li.is (h6.rw (i := i221) (by omega)).1) ?_
                    obtain ⟨lv240, -, lg240⟩ := z_li.cell (h6.rw (i := i221) (by omega)).1
                    refine j_callV (q := (RJx4a65c, TJx4a65c, 3)) dX11_replaceAll_220 kJx4a65c_size_8abf5 lX11_86 inJx4a65c_size_8abf5 seJx4a65c_size_8abf5 lg240 rfl (cl_sizeB hl w6 _ _ _ _ (h6.rw (i := i221) (by omega)).1) (Nat.le_of_ble_eq_true rfl) ⟨(by show _ ≤ 12; omega), (by show _ ≤ 12; omega)⟩ rfl (Nat.le_of_ble_eq_true rfl) rfl rfl (fun _ _ h => h.elim) ?_
                    rintro _ _ ⟨⟨n241, rfl, hn241⟩, hw241⟩
                    refine j_w w6 hw241 ?_
                    have hn241 : n241 = (z_qw s1 (i221)).2.length := hn241
                    have hz241 : (z_qw s1 (i221)).2.length ≤ 12 := (h6.rw (i := i221) (by omega)).2
                    refine j_iret dX11_replaceAll_223 rfl rfl ?_ (by show _ ≤ 12; omega) (by show _ ≤ 12; omega)
                    exact ⟨_, _, rfl, (hfm.tr (fw6.fm (q := 59) (by omega))), h6, ke6⟩
                  · have hb79 : j < n232 := Nat.not_le.mp (fun z => c_79_90 ((nI_leI (a := n232) (b := j) (by omega) (by omega)).mpr z))
                    refine j_aload_n dX11_replaceAll_82 rfl rfl ?_
                    refine j_getf dX11_replaceAll_83 fX11_31 hm.m rfl ?_
                    refine j_iload_n dX11_replaceAll_86 rfl ?_
                    obtain ⟨fz242, gz242, hz242⟩ := hm.co
                    refine j_aald (v := .ref (1004 + i221)) dX11_replaceAll_87 gz242 rfl rfl (vp_in_nI (by omega) (by omega)) (by rw [z_cla (by omega)]; exact hz242 _ (by omega)) ?_
                    refine j_iconst (v := 1) dX11_replaceAll_88 (by decide) ?_
                    refine j_dup2 dX11_replaceAll_89 rfl rfl ?_
                    refine j_ld dX11_replaceAll_90 (hm.cn (i := i221) (by omega)) (vp_in_nI (n := 1) (by decide) (by decide)) ?_
                    refine j_iconst (v := 1) dX11_replaceAll_91 (by decide) ?_
                    refine j_iadd dX11_replaceAll_92 ?_
                    refine j_sto (w' := _) dX11_replaceAll_93 (hm.cn (i := i221) (by omega)) (vp_in_nI (n := 1) (by decide) (by decide)) rfl ?_
                    refine j_seal (by omega) ?_
                    intro w7 u7
                    have fw7 := u7.fw (ρ := 44 + i221) (by omega) (by omega)
                    have h7 := hm.up44 (i0 := i221) (by omega) fw7 u7.1
                    have ke7 := z_ke h7 hke rfl
                    refine j_aload_n dX11_replaceAll_94 rfl rfl ?_
                    refine j_getf dX11_replaceAll_95 fX11_31 h7.m rfl ?_
                    refine j_iload_n dX11_replaceAll_98 rfl ?_
                    obtain ⟨fz245, gz245, hz245⟩ := h7.co
                    refine j_aald (v := .ref (1004 + i221)) dX11_replaceAll_99 gz245 rfl rfl (vp_in_nI (by omega) (by omega)) (by rw [z_cla (by omega)]; exact hz245 _ (by omega)) ?_
                    refine j_iconst (v := 2) dX11_replaceAll_100 (by decide) ?_
                    refine j_dup2 dX11_replaceAll_101 rfl rfl ?_
                    refine j_ld dX11_replaceAll_102 (h7.cn (i := i221) (by omega)) (vp_in_nI (n := 2) (by decide) (by decide)) ?_
                    refine j_iconst (v := 1) dX11_replaceAll_103 (by decide) ?_
                    refine j_iadd dX11_replaceAll_104 ?_
                    refine j_sto (w' := _) dX11_replaceAll_105 (h7.cn (i := i221) (by omega)) (vp_in_nI (n := 2) (by decide) (by decide)) rfl ?_
                    refine j_seal (by omega) ?_
                    intro w8 u8
                    have fw8 := u8.fw (ρ := 44 + i221) (by omega) (by omega)
                    have h8 := h7.up44 (i0 := i221) (by omega) fw8 u8.1
                    have ke8 := z_ke h8 ke7 rfl
                    refine j_iload_n dX11_replaceAll_106 rfl ?_
                    refine j_iconst (v := 0) dX11_replaceAll_107 (by decide) ?_
                    refine j_aload_n dX11_replaceAll_108 rfl rfl ?_
                    refine j_getf dX11_replaceAll_109 fX11_21 h8.m rfl ?_
                    refine j_iload_n dX11_replaceAll_112 rfl ?_
                    obtain ⟨lv249, -, lg249⟩ := z_li.cell h8.rows
                    refine j_callV (q := (RJx4a65c, TJx4a65c, 3)) dX11_replaceAll_113 kJx4a65c_get_915e3 lX11_82 inJx4a65c_get_915e3 seJx4a65c_get_915e3 lg249 rfl (cl_get hl w8 41 1001 _ _ (i221) _ h8.rows (z_two2 (i := i221) (by omega))) (Nat.le_of_ble_eq_true rfl) ⟨(by show _ ≤ 12; omega), (by show _ ≤ 12; omega)⟩ rfl (Nat.le_of_ble_eq_true rfl) rfl rfl (fun _ _ h => h.elim) ?_
                    rintro _ _ ⟨rfl, hw250⟩
                    refine j_w w8 hw250 ?_
                    refine j_castS dX11_replaceAll_116 (z_w 1341 ((lwg_6 96).trans (by decide +kernel)) (by decide +kernel)) (z_li.is (h8.rw (i := i221) (by omega)).1) ?_
                    refine j_iload dX11_replaceAll_119 rfl ?_
                    obtain ⟨lv253, -, lg253⟩ := z_li.cell (h8.rw (i := i221) (by omega)).1
                    refine j_callV (q := (RJx4a65c, TJx4a65c, 3)) dX11_replaceAll_121 kJx4a65c_get_915e3 lX11_82 inJx4a65c_get_915e3 seJx4a65c_get_915e3 lg253 rfl (cl_get hl w8 _ _ _ _ (j) _ (h8.rw (i := i221) (by omega)).1 (z_bx_get (B := (z_qw s1 (i221)).2) (by omega))) (Nat.le_of_ble_eq_true rfl) ⟨(by show _ ≤ 12; omega), (by show _ ≤ 12; omega)⟩ rfl (Nat.le_of_ble_eq_true rfl) rfl rfl (fun _ _ h => h.elim) ?_
                    rintro _ _ ⟨rfl, hw254⟩
                    refine j_w w8 hw254 ?_
                    refine j_castS dX11_replaceAll_124 (z_w 1567 ((lwg_7 82).trans (by decide +kernel)) (by decide +kernel)) rfl ?_
                    refine j_callVB (v0 := .float _) (C := "java/lang/Integer") dX11_replaceAll_127 kJ6_intValue_8abf5 lX11_99 inJ6_intValue_8abf5 seJ6_intValue_8abf5 rfl (c_J6_intValue_8abf5 hl w8 _) (Nat.le_of_ble_eq_true rfl) ⟨(by show _ ≤ 12; omega), (by show _ ≤ 12; omega)⟩ rfl (Nat.le_of_ble_eq_true rfl) rfl rfl (fun _ _ h => h.elim) ?_
                    rintro _ _ ⟨rfl, hw256⟩
                    refine j_w w8 hw256 ?_
                    refine j_iload_n dX11_replaceAll_130 rfl ?_
                    refine j_callS dX11_replaceAll_131 kX11_rule lX11_115 stX11_rule (cm_rule hl w8 _ _ _ _) (Nat.le_of_ble_eq_true rfl) ⟨(by show _ ≤ 12; omega), (by show _ ≤ 12; omega)⟩ rfl (Nat.le_of_ble_eq_true rfl) rfl rfl (fun _ _ h => h.elim) ?_
                    rintro _ _ ⟨⟨r257, rfl⟩, hw257⟩
                    refine j_w w8 hw257 ?_
                    refine j_istore (lo' := [(5, _), (0, _), (1, _), (2, _), (3, _), (4, _)]) dX11_replaceAll_134 (by decide) rfl ?_
                    refine j_iload dX11_replaceAll_136 rfl ?_
                    refine j_ldc dX11_replaceAll_138 kcX11_67 ?_
                    refine j_icmp_eq (tgt := 152) dX11_replaceAll_140 (by decide) (fun c_140_183 => ?_) (fun c_140_183 => ?_)
                    · refine j_aload_n dX11_replaceAll_152 rfl rfl ?_
                      refine j_callV (q := (RX11, TX11, 8)) dX11_replaceAll_153 kX11_nine lX11_105 inX11_nine seX11_nine h8.m rfl (cm_nine hl w8 _ h8) (Nat.le_of_ble_eq_true rfl) ⟨(by show _ ≤ 12; omega), (by show _ ≤ 12; omega)⟩ rfl (Nat.le_of_ble_eq_true rfl) rfl rfl (fun _ _ h => h.elim) ?_
                      rintro _ w9 ⟨rfl, fm9, h9⟩
                      have ke9 := z_ke h9 ke8 rfl
                      refine j_iret dX11_replaceAll_156 rfl rfl ?_ (by show _ ≤ 12; omega) (by show _ ≤ 12; omega)
                      exact ⟨_, _, rfl, (((hfm.tr (fw7.fm (q := 59) (by omega))).tr (fw8.fm (q := 59) (by omega))).tr (fm9.le (q' := 59) (by decide))), h9, ke9⟩
                    · refine j_aload_n dX11_replaceAll_143 rfl rfl ?_
                      refine j_getf dX11_replaceAll_144 fX11_25 h8.m rfl ?_
                      refine j_iload_n dX11_replaceAll_147 rfl ?_
                      refine j_zald dX11_replaceAll_148 h8.fx (vp_in_nI (by omega) (by omega)) rfl ?_
                      refine j_if_eq (tgt := 157) dX11_replaceAll_149 (by decide) (fun c_149_194 => ?_) (fun c_149_194 => ?_)
                      · refine j_aload_n dX11_replaceAll_157 rfl rfl ?_
                        refine j_getf dX11_replaceAll_158 fX11_21 h8.m rfl ?_
                        refine j_iload_n dX11_replaceAll_161 rfl ?_
                        obtain ⟨lv260, -, lg260⟩ := z_li.cell h8.rows
                        refine j_callV (q := (RJx4a65c, TJx4a65c, 3)) dX11_replaceAll_162 kJx4a65c_get_915e3 lX11_82 inJx4a65c_get_915e3 seJx4a65c_get_915e3 lg260 rfl (cl_get hl w8 41 1001 _ _ (i221) _ h8.rows (z_two2 (i := i221) (by omega))) (Nat.le_of_ble_eq_true rfl) ⟨(by show _ ≤ 12; omega), (by show _ ≤ 12; omega)⟩ rfl (Nat.le_of_ble_eq_true rfl) rfl rfl (fun _ _ h => h.elim) ?_
                        rintro _ _ ⟨rfl, hw261⟩
                        refine j_w w8 hw261 ?_
                        refine j_castS dX11_replaceAll_165 (z_w 1341 ((lwg_6 96).trans (by decide +kernel)) (by decide +kernel)) (z_li.is (h8.rw (i := i221) (by omega)).1) ?_
                        refine j_iload dX11_replaceAll_168 rfl ?_
                        refine j_iload dX11_replaceAll_170 rfl ?_
                        refine j_callS dX11_replaceAll_172 kJ6_valueOf_2dffe lX11_90 stJ6_valueOf_2dffe (cl_val hl w8 _) (Nat.le_of_ble_eq_true rfl) ⟨(by show _ ≤ 12; omega), (by show _ ≤ 12; omega)⟩ rfl (Nat.le_of_ble_eq_true rfl) rfl rfl (fun _ _ h => h.elim) ?_
                        rintro _ _ ⟨rfl, hw263⟩
                        refine j_w w8 hw263 ?_
                        obtain ⟨lv264, -, lg264⟩ := z_li.cell (h8.rw (i := i221) (by omega)).1
                        refine j_callV (q := (RJx4a65c, TJx4a65c, 3)) dX11_replaceAll_175 kJx4a65c_set_bcc79 lX11_119 inJx4a65c_set_bcc79 seJx4a65c_set_bcc79 lg264 rfl (cl_set hl w8 _ _ _ _ (j) _ _ (h8.rw (i := i221) (by omega)).1 (z_bx_get (B := (z_qw s1 i221).2) (by omega)) z_elF) (Nat.le_of_ble_eq_true rfl) ⟨(by show _ ≤ 12; omega), (by show _ ≤ 12; omega)⟩ rfl (Nat.le_of_ble_eq_true rfl) rfl rfl (fun _ _ h => h.elim) ?_
                        rintro _ w10 ⟨rfl, fw10, hr10⟩
                        rw [z_bx_set] at hr10
                        have fm10 := fw10.fm (q := 56) (by omega)
                        have h10 := h8.li11 (i0 := i221) (B := (z_qw s1 i221).2.set (j) _) (by omega) fw10 hr10 (by rw [List.length_set]; omega)
                        have ke10 := z_ke h10 ke8 rfl
                        refine j_pop dX11_replaceAll_178 rfl ?_
                        refine j_aload_n dX11_replaceAll_179 rfl rfl ?_
                        refine j_getf dX11_replaceAll_180 fX11_31 h10.m rfl ?_
                        refine j_iload_n dX11_replaceAll_183 rfl ?_
                        obtain ⟨fz265, gz265, hz265⟩ := h10.co
                        refine j_aald (v := .ref (1004 + i221)) dX11_replaceAll_184 gz265 rfl rfl (vp_in_nI (by omega) (by omega)) (by rw [z_cla (by omega)]; exact hz265 _ (by omega)) ?_
                        refine j_iconst (v := 3) dX11_replaceAll_185 (by decide) ?_
                        refine j_dup2 dX11_replaceAll_186 rfl rfl ?_
                        refine j_ld dX11_replaceAll_187 (h10.cn (i := i221) (by omega)) (vp_in_nI (n := 3) (by decide) (by decide)) ?_
                        refine j_iconst (v := 1) dX11_replaceAll_188 (by decide) ?_
                        refine j_iadd dX11_replaceAll_189 ?_
                        refine j_sto (w' := _) dX11_replaceAll_190 (h10.cn (i := i221) (by omega)) (vp_in_nI (n := 3) (by decide) (by decide)) rfl ?_
                        refine j_seal (by omega) ?_
                        intro w11 u11
                        have fw11 := u11.fw (ρ := 44 + i221) (by omega) (by omega)
                        have h11 := h10.up44 (i0 := i221) (by omega) fw11 u11.1
                        have ke11 := z_ke h11 ke10 rfl
                        refine j_iinc (lo' := [(4, _), (5, _), (0, _), (1, _), (2, _), (3, _)]) dX11_replaceAll_191 rfl (z_inc _) (by decide) rfl ?_
                        refine j_goto (tgt := 63) dX11_replaceAll_194 (by decide) ?_
                        refine j_widen (kc' := (j + 1)) (ks' := (j + 1)) (by omega) (by omega) ?_
                        exact j_lo2 (ih w11 _ (j + 1) (by omega) (by show _ ≤ (z_fu (z_qw s1) i221 _ i221).2.length; rw [z_fu_self]; show _ ≤ ((z_qw s1 i221).2.set _ _).length; rw [List.length_set]; omega) (by show (z_fu (z_qw s1) i221 _ i221).2.length < _; rw [z_fu_self]; show ((z_qw s1 i221).2.set _ _).length < _; rw [List.length_set]; omega) h11 ((((hfm.tr (fw7.fm (q := 59) (by omega))).tr (fw8.fm (q := 59) (by omega))).tr (fm10.le (q' := 59) (by decide))).tr (fw11.fm (q := 59) (by omega))) ke11) (z_q1 rfl (z_q1 rfl (z_q1 rfl (z_q1 rfl (z_q1 rfl z_q0)))))
                      · refine j_aload_n dX11_replaceAll_152 rfl rfl ?_
                        refine j_callV (q := (RX11, TX11, 8)) dX11_replaceAll_153 kX11_nine lX11_105 inX11_nine seX11_nine h8.m rfl (cm_nine hl w8 _ h8) (Nat.le_of_ble_eq_true rfl) ⟨(by show _ ≤ 12; omega), (by show _ ≤ 12; omega)⟩ rfl (Nat.le_of_ble_eq_true rfl) rfl rfl (fun _ _ h => h.elim) ?_
                        rintro _ w12 ⟨rfl, fm12, h12⟩
                        have ke12 := z_ke h12 ke8 rfl
                        refine j_iret dX11_replaceAll_156 rfl rfl ?_ (by show _ ≤ 12; omega) (by show _ ≤ 12; omega)
                        exact ⟨_, _, rfl, (((hfm.tr (fw7.fm (q := 59) (by omega))).tr (fw8.fm (q := 59) (by omega))).tr (fm12.le (q' := 59) (by decide))), h12, ke12⟩
              refine j_widen (kc' := 0) (ks' := 0) (by omega) (by omega) ?_
              exact j_lo2 (loop63 ((z_qw s i221).2.length + 1) w4 _ 0 (by omega) (by omega) (by show (z_qw s i221).2.length < _; omega) h4 ((fm2.le (q' := 59) (by decide)).tr (fw4.fm (q := 59) (by omega))) ke4) (z_q1 rfl (z_q1 rfl (z_q1 rfl (z_q1 rfl (z_q1 rfl z_q0)))))
            · exact absurd c_43_50 (by decide)
          · exact absurd c_31_44 (by decide)
      · refine j_iload_n dX11_replaceAll_17 rfl ?_
        refine j_iconst (v := 1) dX11_replaceAll_18 (by decide) ?_
        refine j_icmp_eq (tgt := 27) dX11_replaceAll_19 (by decide) (fun c_19_248 => ?_) (fun c_19_248 => ?_)
        · refine j_iload_n dX11_replaceAll_27 rfl ?_
          refine j_callS dX11_replaceAll_28 kX11_isNoValue lX11_79 stX11_isNoValue (cm_isNoValue hl w2 _) (Nat.le_of_ble_eq_true rfl) ⟨(by show _ ≤ 12; omega), (by show _ ≤ 12; omega)⟩ rfl (Nat.le_of_ble_eq_true rfl) rfl rfl (fun _ _ h => h.elim) ?_
          rintro _ _ ⟨⟨rfl, hno268⟩ | ⟨rfl, hye268⟩, hw268⟩
          · refine j_w w2 hw268 ?_
            refine j_if_eq (tgt := 38) dX11_replaceAll_31 (by decide) (fun c_31_253 => ?_) (fun c_31_253 => ?_)
            · exact absurd c_31_253 (by decide)
            · refine j_iconst (v := 1) dX11_replaceAll_34 (by decide) ?_
              refine j_goto (tgt := 39) dX11_replaceAll_35 (by decide) ?_
              refine j_iconst (v := 2) dX11_replaceAll_39 (by decide) ?_
              refine j_callV (q := (RX11, TX11, 8)) dX11_replaceAll_40 kX11_refuse lX11_52 inX11_refuse seX11_refuse h2.m rfl (cm_refuse1 hl w2 _ _ h2 rfl (by decide)) (Nat.le_of_ble_eq_true rfl) ⟨(by show _ ≤ 12; omega), (by show _ ≤ 12; omega)⟩ rfl (Nat.le_of_ble_eq_true rfl) rfl rfl (fun _ _ h => h.elim) ?_
              rintro _ w13 ⟨rfl, fm13, h13⟩
              have ke13 := z_ke h13 ke2 rfl
              refine j_if_eq (tgt := 48) dX11_replaceAll_43 (by decide) (fun c_43_261 => ?_) (fun c_43_261 => ?_)
              · exact absurd c_43_261 (by decide)
              · refine j_iconst (v := 0) dX11_replaceAll_46 (by decide) ?_
                refine j_iret dX11_replaceAll_47 rfl rfl ?_ (by show _ ≤ 12; omega) (by show _ ≤ 12; omega)
                exact ⟨_, _, rfl, ((fm2.le (q' := 59) (by decide)).tr (fm13.le (q' := 59) (by decide))), h13, ke13⟩
          · refine j_w w2 hw268 ?_
            refine j_if_eq (tgt := 38) dX11_replaceAll_31 (by decide) (fun c_31_267 => ?_) (fun c_31_267 => ?_)
            · refine j_iconst (v := 0) dX11_replaceAll_38 (by decide) ?_
              refine j_iconst (v := 2) dX11_replaceAll_39 (by decide) ?_
              refine j_callV (q := (RX11, TX11, 8)) dX11_replaceAll_40 kX11_refuse lX11_52 inX11_refuse seX11_refuse h2.m rfl (cm_refuse0 hl w2 _ _ h2 rfl) (Nat.le_of_ble_eq_true rfl) ⟨(by show _ ≤ 12; omega), (by show _ ≤ 12; omega)⟩ rfl (Nat.le_of_ble_eq_true rfl) rfl rfl (fun _ _ h => h.elim) ?_
              rintro _ _ ⟨rfl, hw269⟩
              refine j_w w2 hw269 ?_
              refine j_if_eq (tgt := 48) dX11_replaceAll_43 (by decide) (fun c_43_273 => ?_) (fun c_43_273 => ?_)
              · refine j_aload_n dX11_replaceAll_48 rfl rfl ?_
                refine j_getf dX11_replaceAll_49 fX11_31 h2.m rfl ?_
                refine j_iload_n dX11_replaceAll_52 rfl ?_
                obtain ⟨fz270, gz270, hz270⟩ := h2.co
                refine j_aald (v := .ref (1004 + i221)) dX11_replaceAll_53 gz270 rfl rfl (vp_in_nI (by omega) (by omega)) (by rw [z_cla (by omega)]; exact hz270 _ (by omega)) ?_
                refine j_iconst (v := 0) dX11_replaceAll_54 (by decide) ?_
                refine j_dup2 dX11_replaceAll_55 rfl rfl ?_
                refine j_ld dX11_replaceAll_56 (h2.cn (i := i221) (by omega)) (vp_in_nI (n := 0) (by decide) (by decide)) ?_
                refine j_iconst (v := 1) dX11_replaceAll_57 (by decide) ?_
                refine j_iadd dX11_replaceAll_58 ?_
                refine j_sto (w' := _) dX11_replaceAll_59 (h2.cn (i := i221) (by omega)) (vp_in_nI (n := 0) (by decide) (by decide)) rfl ?_
                refine j_seal (by omega) ?_
                intro w14 u14
                have fw14 := u14.fw (ρ := 44 + i221) (by omega) (by omega)
                have h14 := h2.up44 (i0 := i221) (by omega) fw14 u14.1
                have ke14 := z_ke h14 ke2 rfl
                refine j_iconst (v := 0) dX11_replaceAll_60 (by decide) ?_
                refine j_istore (lo' := [(4, _), (0, _), (1, _), (2, _), (3, _)]) dX11_replaceAll_61 (by decide) rfl ?_
                have loop63 : ∀ (n9 : Nat) (w15 : z_W) (s1 : z_Z) (j : Nat), j ≤ 12 → j ≤ (z_qw s1 i221).2.length → (z_qw s1 i221).2.length < j + n9 → z_mst w15 s1 → z_fm 59 w w15 → z_key s1 = z_key s → z_J G l mX11_replaceAll (22, 12, 12, w, (fun v w9 => ∃ (r : Int32) (s9 : z_Z), v = some (.int r) ∧ z_fm 59 w w9 ∧ z_mst w9 s9 ∧ z_key s9 = z_key s), (fun _ _ => False)) 63 [(0, .ref 1000), (1, .int (nI i221)), (2, .int y), (3, .int z), (4, .int (nI j))] [] w15 j j := by
                  intro n9
                  induction n9 with
                  | zero => intro w15 s1 j hj12 hj hf9 hm hfm hke; exact absurd hf9 (by omega)
                  | succ n9 ih =>
                    intro w15 s1 j hj12 hj hf9 hm hfm hke
                    refine j_iload dX11_replaceAll_63 rfl ?_
                    refine j_aload_n dX11_replaceAll_65 rfl rfl ?_
                    refine j_getf dX11_replaceAll_66 fX11_21 hm.m rfl ?_
                    refine j_iload_n dX11_replaceAll_69 rfl ?_
                    obtain ⟨lv274, -, lg274⟩ := z_li.cell hm.rows
                    refine j_callV (q := (RJx4a65c, TJx4a65c, 3)) dX11_replaceAll_70 kJx4a65c_get_915e3 lX11_82 inJx4a65c_get_915e3 seJx4a65c_get_915e3 lg274 rfl (cl_get hl w15 41 1001 _ _ (i221) _ hm.rows (z_two2 (i := i221) (by omega))) (Nat.le_of_ble_eq_true rfl) ⟨(by show _ ≤ 12; omega), (by show _ ≤ 12; omega)⟩ rfl (Nat.le_of_ble_eq_true rfl) rfl rfl (fun _ _ h => h.elim) ?_
                    rintro _ _ ⟨rfl, hw275⟩
                    refine j_w w15 hw275 ?_
                    refine j_castS dX11_replaceAll_73 (z_w 1341 ((lwg_6 96).trans (by decide +kernel)) (by decide +kernel)) (z_li.is (hm.rw (i := i221) (by omega)).1) ?_
                    obtain ⟨lv277, -, lg277⟩ := z_li.cell (hm.rw (i := i221) (by omega)).1
                    refine j_callV (q := (RJx4a65c, TJx4a65c, 3)) dX11_replaceAll_76 kJx4a65c_size_8abf5 lX11_86 inJx4a65c_size_8abf5 seJx4a65c_size_8abf5 lg277 rfl (cl_sizeB hl w15 _ _ _ _ (hm.rw (i := i221) (by omega)).1) (Nat.le_of_ble_eq_true rfl) ⟨(by show _ ≤ 12; omega), (by show _ ≤ 12; omega)⟩ rfl (Nat.le_of_ble_eq_true rfl) rfl rfl (fun _ _ h => h.elim) ?_
                    rintro _ _ ⟨⟨n278, rfl, hn278⟩, hw278⟩
                    refine j_w w15 hw278 ?_
                    have hn278 : n278 = (z_qw s1 (i221)).2.length := hn278
                    have hz278 : (z_qw s1 (i221)).2.length ≤ 12 := (hm.rw (i := i221) (by omega)).2
                    refine j_icmp_ge (tgt := 197) dX11_replaceAll_79 (by decide) (fun c_79_313 => ?_) (fun c_79_313 => ?_)
                    · have hb79 : n278 ≤ j := (nI_leI (a := n278) (b := j) (by omega) (by omega)).mp c_79_313
                      refine j_aload_n dX11_replaceAll_197 rfl rfl ?_
                      refine j_getf dX11_replaceAll_198 fX11_31 hm.m rfl ?_
                      refine j_iload_n dX11_replaceAll_201 rfl ?_
                      obtain ⟨fz279, gz279, hz279⟩ := hm.co
                      refine j_aald (v := .ref (1004 + i221)) dX11_replaceAll_202 gz279 rfl rfl (vp_in_nI (by omega) (by omega)) (by rw [z_cla (by omega)]; exact hz279 _ (by omega)) ?_
                      refine j_iconst (v := 1) dX11_replaceAll_203 (by decide) ?_
                      refine j_dup2 dX11_replaceAll_204 rfl rfl ?_
                      refine j_ld dX11_replaceAll_205 (hm.cn (i := i221) (by omega)) (vp_in_nI (n := 1) (by decide) (by decide)) ?_
                      refine j_iconst (v := 1) dX11_replaceAll_206 (by decide) ?_
                      refine j_iadd dX11_replaceAll_207 ?_
                      refine j_sto (w' := _) dX11_replaceAll_208 (hm.cn (i := i221) (by omega)) (vp_in_nI (n := 1) (by decide) (by decide)) rfl ?_
                      refine j_seal (by omega) ?_
                      intro w16 u16
                      have fw16 := u16.fw (ρ := 44 + i221) (by omega) (by omega)
                      have h16 := hm.up44 (i0 := i221) (by omega) fw16 u16.1
                      have ke16 := z_ke h16 hke rfl
                      refine j_aload_n dX11_replaceAll_209 rfl rfl ?_
                      refine j_getf dX11_replaceAll_210 fX11_21 h16.m rfl ?_
                      refine j_iload_n dX11_replaceAll_213 rfl ?_
                      obtain ⟨lv283, -, lg283⟩ := z_li.cell h16.rows
                      refine j_callV (q := (RJx4a65c, TJx4a65c, 3)) dX11_replaceAll_214 kJx4a65c_get_915e3 lX11_82 inJx4a65c_get_915e3 seJx4a65c_get_915e3 lg283 rfl (cl_get hl w16 41 1001 _ _ (i221) _ h16.rows (z_two2 (i := i221) (by omega))) (Nat.le_of_ble_eq_true rfl) ⟨(by show _ ≤ 12; omega), (by show _ ≤ 12; omega)⟩ rfl (Nat.le_of_ble_eq_true rfl) rfl rfl (fun _ _ h => h.elim) ?_
                      rintro _ _ ⟨rfl, hw284⟩
                      refine j_w w16 hw284 ?_
                      refine j_castS dX11_replaceAll_217 (z_w 1341 ((lwg_6 96).trans (by decide +kernel)) (by decide +kernel)) (z_li.is (h16.rw (i := i221) (by omega)).1) ?_
                      obtain ⟨lv286, -, lg286⟩ := z_li.cell (h16.rw (i := i221) (by omega)).1
                      refine j_callV (q := (RJx4a65c, TJx4a65c, 3)) dX11_replaceAll_220 kJx4a65c_size_8abf5 lX11_86 inJx4a65c_size_8abf5 seJx4a65c_size_8abf5 lg286 rfl (cl_sizeB hl w16 _ _ _ _ (h16.rw (i := i221) (by omega)).1) (Nat.le_of_ble_eq_true rfl) ⟨(by show _ ≤ 12; omega), (by show _ ≤ 12; omega)⟩ rfl (Nat.le_of_ble_eq_true rfl) rfl rfl (fun _ _ h => h.elim) ?_
                      rintro _ _ ⟨⟨n287, rfl, hn287⟩, hw287⟩
                      refine j_w w16 hw287 ?_
                      have hn287 : n287 = (z_qw s1 (i221)).2.length := hn287
                      have hz287 : (z_qw s1 (i221)).2.length ≤ 12 := (h16.rw (i := i221) (by omega)).2
                      refine j_iret dX11_replaceAll_223 rfl rfl ?_ (by show _ ≤ 12; omega) (by show _ ≤ 12; omega)
                      exact ⟨_, _, rfl, (hfm.tr (fw16.fm (q := 59) (by omega))), h16, ke16⟩
                    · have hb79 : j < n278 := Nat.not_le.mp (fun z => c_79_313 ((nI_leI (a := n278) (b := j) (by omega) (by omega)).mpr z))
                      refine j_aload_n dX11_replaceAll_82 rfl rfl ?_
                      refine j_getf dX11_replaceAll_83 fX11_31 hm.m rfl ?_
                      refine j_iload_n dX11_replaceAll_86 rfl ?_
                      obtain ⟨fz288, gz288, hz288⟩ := hm.co
                      refine j_aald (v := .ref (1004 + i221)) dX11_replaceAll_87 gz288 rfl rfl (vp_in_nI (by omega) (by omega)) (by rw [z_cla (by omega)]; exact hz288 _ (by omega)) ?_
                      refine j_iconst (v := 1) dX11_replaceAll_88 (by decide) ?_
                      refine j_dup2 dX11_replaceAll_89 rfl rfl ?_
                      refine j_ld dX11_replaceAll_90 (hm.cn (i := i221) (by omega)) (vp_in_nI (n := 1) (by decide) (by decide)) ?_
                      refine j_iconst (v := 1) dX11_replaceAll_91 (by decide) ?_
                      refine j_iadd dX11_replaceAll_92 ?_
                      refine j_sto (w' := _) dX11_replaceAll_93 (hm.cn (i := i221) (by omega)) (vp_in_nI (n := 1) (by decide) (by decide)) rfl ?_
                      refine j_seal (by omega) ?_
                      intro w17 u17
                      have fw17 := u17.fw (ρ := 44 + i221) (by omega) (by omega)
                      have h17 := hm.up44 (i0 := i221) (by omega) fw17 u17.1
                      have ke17 := z_ke h17 hke rfl
                      refine j_aload_n dX11_replaceAll_94 rfl rfl ?_
                      refine j_getf dX11_replaceAll_95 fX11_31 h17.m rfl ?_
                      refine j_iload_n dX11_replaceAll_98 rfl ?_
                      obtain ⟨fz291, gz291, hz291⟩ := h17.co
                      refine j_aald (v := .ref (1004 + i221)) dX11_replaceAll_99 gz291 rfl rfl (vp_in_nI (by omega) (by omega)) (by rw [z_cla (by omega)]; exact hz291 _ (by omega)) ?_
                      refine j_iconst (v := 2) dX11_replaceAll_100 (by decide) ?_
                      refine j_dup2 dX11_replaceAll_101 rfl rfl ?_
                      refine j_ld dX11_replaceAll_102 (h17.cn (i := i221) (by omega)) (vp_in_nI (n := 2) (by decide) (by decide)) ?_
                      refine j_iconst (v := 1) dX11_replaceAll_103 (by decide) ?_
                      refine j_iadd dX11_replaceAll_104 ?_
                      refine j_sto (w' := _) dX11_replaceAll_105 (h17.cn (i := i221) (by omega)) (vp_in_nI (n := 2) (by decide) (by decide)) rfl ?_
                      refine j_seal (by omega) ?_
                      intro w18 u18
                      have fw18 := u18.fw (ρ := 44 + i221) (by omega) (by omega)
                      have h18 := h17.up44 (i0 := i221) (by omega) fw18 u18.1
                      have ke18 := z_ke h18 ke17 rfl
                      refine j_iload_n dX11_replaceAll_106 rfl ?_
                      refine j_iconst (v := 0) dX11_replaceAll_107 (by decide) ?_
                      refine j_aload_n dX11_replaceAll_108 rfl rfl ?_
                      refine j_getf dX11_replaceAll_109 fX11_21 h18.m rfl ?_
                      refine j_iload_n dX11_replaceAll_112 rfl ?_
                      obtain ⟨lv295, -, lg295⟩ := z_li.cell h18.rows
                      refine j_callV (q := (RJx4a65c, TJx4a65c, 3)) dX11_replaceAll_113 kJx4a65c_get_915e3 lX11_82 inJx4a65c_get_915e3 seJx4a65c_get_915e3 lg295 rfl (cl_get hl w18 41 1001 _ _ (i221) _ h18.rows (z_two2 (i := i221) (by omega))) (Nat.le_of_ble_eq_true rfl) ⟨(by show _ ≤ 12; omega), (by show _ ≤ 12; omega)⟩ rfl (Nat.le_of_ble_eq_true rfl) rfl rfl (fun _ _ h => h.elim) ?_
                      rintro _ _ ⟨rfl, hw296⟩
                      refine j_w w18 hw296 ?_
                      refine j_castS dX11_replaceAll_116 (z_w 1341 ((lwg_6 96).trans (by decide +kernel)) (by decide +kernel)) (z_li.is (h18.rw (i := i221) (by omega)).1) ?_
                      refine j_iload dX11_replaceAll_119 rfl ?_
                      obtain ⟨lv299, -, lg299⟩ := z_li.cell (h18.rw (i := i221) (by omega)).1
                      refine j_callV (q := (RJx4a65c, TJx4a65c, 3)) dX11_replaceAll_121 kJx4a65c_get_915e3 lX11_82 inJx4a65c_get_915e3 seJx4a65c_get_915e3 lg299 rfl (cl_get hl w18 _ _ _ _ (j) _ (h18.rw (i := i221) (by omega)).1 (z_bx_get (B := (z_qw s1 (i221)).2) (by omega))) (Nat.le_of_ble_eq_true rfl) ⟨(by show _ ≤ 12; omega), (by show _ ≤ 12; omega)⟩ rfl (Nat.le_of_ble_eq_true rfl) rfl rfl (fun _ _ h => h.elim) ?_
                      rintro _ _ ⟨rfl, hw300⟩
                      refine j_w w18 hw300 ?_
                      refine j_castS dX11_replaceAll_124 (z_w 1567 ((lwg_7 82).trans (by decide +kernel)) (by decide +kernel)) rfl ?_
                      refine j_callVB (v0 := .float _) (C := "java/lang/Integer") dX11_replaceAll_127 kJ6_intValue_8abf5 lX11_99 inJ6_intValue_8abf5 seJ6_intValue_8abf5 rfl (c_J6_intValue_8abf5 hl w18 _) (Nat.le_of_ble_eq_true rfl) ⟨(by show _ ≤ 12; omega), (by show _ ≤ 12; omega)⟩ rfl (Nat.le_of_ble_eq_true rfl) rfl rfl (fun _ _ h => h.elim) ?_
                      rintro _ _ ⟨rfl, hw302⟩
                      refine j_w w18 hw302 ?_
                      refine j_iload_n dX11_replaceAll_130 rfl ?_
                      refine j_callS dX11_replaceAll_131 kX11_rule lX11_115 stX11_rule (cm_rule hl w18 _ _ _ _) (Nat.le_of_ble_eq_true rfl) ⟨(by show _ ≤ 12; omega), (by show _ ≤ 12; omega)⟩ rfl (Nat.le_of_ble_eq_true rfl) rfl rfl (fun _ _ h => h.elim) ?_
                      rintro _ _ ⟨⟨r303, rfl⟩, hw303⟩
                      refine j_w w18 hw303 ?_
                      refine j_istore (lo' := [(5, _), (0, _), (1, _), (2, _), (3, _), (4, _)]) dX11_replaceAll_134 (by decide) rfl ?_
                      refine j_iload dX11_replaceAll_136 rfl ?_
                      refine j_ldc dX11_replaceAll_138 kcX11_67 ?_
                      refine j_icmp_eq (tgt := 152) dX11_replaceAll_140 (by decide) (fun c_140_406 => ?_) (fun c_140_406 => ?_)
                      · refine j_aload_n dX11_replaceAll_152 rfl rfl ?_
                        refine j_callV (q := (RX11, TX11, 8)) dX11_replaceAll_153 kX11_nine lX11_105 inX11_nine seX11_nine h18.m rfl (cm_nine hl w18 _ h18) (Nat.le_of_ble_eq_true rfl) ⟨(by show _ ≤ 12; omega), (by show _ ≤ 12; omega)⟩ rfl (Nat.le_of_ble_eq_true rfl) rfl rfl (fun _ _ h => h.elim) ?_
                        rintro _ w19 ⟨rfl, fm19, h19⟩
                        have ke19 := z_ke h19 ke18 rfl
                        refine j_iret dX11_replaceAll_156 rfl rfl ?_ (by show _ ≤ 12; omega) (by show _ ≤ 12; omega)
                        exact ⟨_, _, rfl, (((hfm.tr (fw17.fm (q := 59) (by omega))).tr (fw18.fm (q := 59) (by omega))).tr (fm19.le (q' := 59) (by decide))), h19, ke19⟩
                      · refine j_aload_n dX11_replaceAll_143 rfl rfl ?_
                        refine j_getf dX11_replaceAll_144 fX11_25 h18.m rfl ?_
                        refine j_iload_n dX11_replaceAll_147 rfl ?_
                        refine j_zald dX11_replaceAll_148 h18.fx (vp_in_nI (by omega) (by omega)) rfl ?_
                        refine j_if_eq (tgt := 157) dX11_replaceAll_149 (by decide) (fun c_149_417 => ?_) (fun c_149_417 => ?_)
                        · refine j_aload_n dX11_replaceAll_157 rfl rfl ?_
                          refine j_getf dX11_replaceAll_158 fX11_21 h18.m rfl ?_
                          refine j_iload_n dX11_replaceAll_161 rfl ?_
                          obtain ⟨lv306, -, lg306⟩ := z_li.cell h18.rows
                          refine j_callV (q := (RJx4a65c, TJx4a65c, 3)) dX11_replaceAll_162 kJx4a65c_get_915e3 lX11_82 inJx4a65c_get_915e3 seJx4a65c_get_915e3 lg306 rfl (cl_get hl w18 41 1001 _ _ (i221) _ h18.rows (z_two2 (i := i221) (by omega))) (Nat.le_of_ble_eq_true rfl) ⟨(by show _ ≤ 12; omega), (by show _ ≤ 12; omega)⟩ rfl (Nat.le_of_ble_eq_true rfl) rfl rfl (fun _ _ h => h.elim) ?_
                          rintro _ _ ⟨rfl, hw307⟩
                          refine j_w w18 hw307 ?_
                          refine j_castS dX11_replaceAll_165 (z_w 1341 ((lwg_6 96).trans (by decide +kernel)) (by decide +kernel)) (z_li.is (h18.rw (i := i221) (by omega)).1) ?_
                          refine j_iload dX11_replaceAll_168 rfl ?_
                          refine j_iload dX11_replaceAll_170 rfl ?_
                          refine j_callS dX11_replaceAll_172 kJ6_valueOf_2dffe lX11_90 stJ6_valueOf_2dffe (cl_val hl w18 _) (Nat.le_of_ble_eq_true rfl) ⟨(by show _ ≤ 12; omega), (by show _ ≤ 12; omega)⟩ rfl (Nat.le_of_ble_eq_true rfl) rfl rfl (fun _ _ h => h.elim) ?_
                          rintro _ _ ⟨rfl, hw309⟩
                          refine j_w w18 hw309 ?_
                          obtain ⟨lv310, -, lg310⟩ := z_li.cell (h18.rw (i := i221) (by omega)).1
                          refine j_callV (q := (RJx4a65c, TJx4a65c, 3)) dX11_replaceAll_175 kJx4a65c_set_bcc79 lX11_119 inJx4a65c_set_bcc79 seJx4a65c_set_bcc79 lg310 rfl (cl_set hl w18 _ _ _ _ (j) _ _ (h18.rw (i := i221) (by omega)).1 (z_bx_get (B := (z_qw s1 i221).2) (by omega)) z_elF) (Nat.le_of_ble_eq_true rfl) ⟨(by show _ ≤ 12; omega), (by show _ ≤ 12; omega)⟩ rfl (Nat.le_of_ble_eq_true rfl) rfl rfl (fun _ _ h => h.elim) ?_
                          rintro _ w20 ⟨rfl, fw20, hr20⟩
                          rw [z_bx_set] at hr20
                          have fm20 := fw20.fm (q := 56) (by omega)
                          have h20 := h18.li11 (i0 := i221) (B := (z_qw s1 i221).2.set (j) _) (by omega) fw20 hr20 (by rw [List.length_set]; omega)
                          have ke20 := z_ke h20 ke18 rfl
                          refine j_pop dX11_replaceAll_178 rfl ?_
                          refine j_aload_n dX11_replaceAll_179 rfl rfl ?_
                          refine j_getf dX11_replaceAll_180 fX11_31 h20.m rfl ?_
                          refine j_iload_n dX11_replaceAll_183 rfl ?_
                          obtain ⟨fz311, gz311, hz311⟩ := h20.co
                          refine j_aald (v := .ref (1004 + i221)) dX11_replaceAll_184 gz311 rfl rfl (vp_in_nI (by omega) (by omega)) (by rw [z_cla (by omega)]; exact hz311 _ (by omega)) ?_
                          refine j_iconst (v := 3) dX11_replaceAll_185 (by decide) ?_
                          refine j_dup2 dX11_replaceAll_186 rfl rfl ?_
                          refine j_ld dX11_replaceAll_187 (h20.cn (i := i221) (by omega)) (vp_in_nI (n := 3) (by decide) (by decide)) ?_
                          refine j_iconst (v := 1) dX11_replaceAll_188 (by decide) ?_
                          refine j_iadd dX11_replaceAll_189 ?_
                          refine j_sto (w' := _) dX11_replaceAll_190 (h20.cn (i := i221) (by omega)) (vp_in_nI (n := 3) (by decide) (by decide)) rfl ?_
                          refine j_seal (by omega) ?_
                          intro w21 u21
                          have fw21 := u21.fw (ρ := 44 + i221) (by omega) (by omega)
                          have h21 := h20.up44 (i0 := i221) (by omega) fw21 u21.1
                          have ke21 := z_ke h21 ke20 rfl
                          refine j_iinc (lo' := [(4, _), (5, _), (0, _), (1, _), (2, _), (3, _)]) dX11_replaceAll_191 rfl (z_inc _) (by decide) rfl ?_
                          refine j_goto (tgt := 63) dX11_replaceAll_194 (by decide) ?_
                          refine j_widen (kc' := (j + 1)) (ks' := (j + 1)) (by omega) (by omega) ?_
                          exact j_lo2 (ih w21 _ (j + 1) (by omega) (by show _ ≤ (z_fu (z_qw s1) i221 _ i221).2.length; rw [z_fu_self]; show _ ≤ ((z_qw s1 i221).2.set _ _).length; rw [List.length_set]; omega) (by show (z_fu (z_qw s1) i221 _ i221).2.length < _; rw [z_fu_self]; show ((z_qw s1 i221).2.set _ _).length < _; rw [List.length_set]; omega) h21 ((((hfm.tr (fw17.fm (q := 59) (by omega))).tr (fw18.fm (q := 59) (by omega))).tr (fm20.le (q' := 59) (by decide))).tr (fw21.fm (q := 59) (by omega))) ke21) (z_q1 rfl (z_q1 rfl (z_q1 rfl (z_q1 rfl (z_q1 rfl z_q0)))))
                        · refine j_aload_n dX11_replaceAll_152 rfl rfl ?_
                          refine j_callV (q := (RX11, TX11, 8)) dX11_replaceAll_153 kX11_nine lX11_105 inX11_nine seX11_nine h18.m rfl (cm_nine hl w18 _ h18) (Nat.le_of_ble_eq_true rfl) ⟨(by show _ ≤ 12; omega), (by show _ ≤ 12; omega)⟩ rfl (Nat.le_of_ble_eq_true rfl) rfl rfl (fun _ _ h => h.elim) ?_
                          rintro _ w22 ⟨rfl, fm22, h22⟩
                          have ke22 := z_ke h22 ke18 rfl
                          refine j_iret dX11_replaceAll_156 rfl rfl ?_ (by show _ ≤ 12; omega) (by show _ ≤ 12; omega)
                          exact ⟨_, _, rfl, (((hfm.tr (fw17.fm (q := 59) (by omega))).tr (fw18.fm (q := 59) (by omega))).tr (fm22.le (q' := 59) (by decide))), h22, ke22⟩
                refine j_widen (kc' := 0) (ks' := 0) (by omega) (by omega) ?_
                exact j_lo2 (loop63 ((z_qw s i221).2.length + 1) w14 _ 0 (by omega) (by omega) (by show (z_qw s i221).2.length < _; omega) h14 ((fm2.le (q' := 59) (by decide)).tr (fw14.fm (q := 59) (by omega))) ke14) (z_q1 rfl (z_q1 rfl (z_q1 rfl (z_q1 rfl (z_q1 rfl z_q0)))))
              · exact absurd c_43_273 (by decide)
            · exact absurd c_31_267 (by decide)
        · refine j_iload_n dX11_replaceAll_22 rfl ?_
          refine j_iconst (v := 4) dX11_replaceAll_23 (by decide) ?_
          refine j_icmp_ne (tgt := 34) dX11_replaceAll_24 (by decide) (fun c_24_471 => ?_) (fun c_24_471 => ?_)
          · refine j_iconst (v := 1) dX11_replaceAll_34 (by decide) ?_
            refine j_goto (tgt := 39) dX11_replaceAll_35 (by decide) ?_
            refine j_iconst (v := 2) dX11_replaceAll_39 (by decide) ?_
            refine j_callV (q := (RX11, TX11, 8)) dX11_replaceAll_40 kX11_refuse lX11_52 inX11_refuse seX11_refuse h2.m rfl (cm_refuse1 hl w2 _ _ h2 rfl (by decide)) (Nat.le_of_ble_eq_true rfl) ⟨(by show _ ≤ 12; omega), (by show _ ≤ 12; omega)⟩ rfl (Nat.le_of_ble_eq_true rfl) rfl rfl (fun _ _ h => h.elim) ?_
            rintro _ w23 ⟨rfl, fm23, h23⟩
            have ke23 := z_ke h23 ke2 rfl
            refine j_if_eq (tgt := 48) dX11_replaceAll_43 (by decide) (fun c_43_478 => ?_) (fun c_43_478 => ?_)
            · exact absurd c_43_478 (by decide)
            · refine j_iconst (v := 0) dX11_replaceAll_46 (by decide) ?_
              refine j_iret dX11_replaceAll_47 rfl rfl ?_ (by show _ ≤ 12; omega) (by show _ ≤ 12; omega)
              exact ⟨_, _, rfl, ((fm2.le (q' := 59) (by decide)).tr (fm23.le (q' := 59) (by decide))), h23, ke23⟩
          · refine j_iload_n dX11_replaceAll_27 rfl ?_
            refine j_callS dX11_replaceAll_28 kX11_isNoValue lX11_79 stX11_isNoValue (cm_isNoValue hl w2 _) (Nat.le_of_ble_eq_true rfl) ⟨(by show _ ≤ 12; omega), (by show _ ≤ 12; omega)⟩ rfl (Nat.le_of_ble_eq_true rfl) rfl rfl (fun _ _ h => h.elim) ?_
            rintro _ _ ⟨⟨rfl, hno314⟩ | ⟨rfl, hye314⟩, hw314⟩
            · refine j_w w2 hw314 ?_
              refine j_if_eq (tgt := 38) dX11_replaceAll_31 (by decide) (fun c_31_487 => ?_) (fun c_31_487 => ?_)
              · exact absurd c_31_487 (by decide)
              · refine j_iconst (v := 1) dX11_replaceAll_34 (by decide) ?_
                refine j_goto (tgt := 39) dX11_replaceAll_35 (by decide) ?_
                refine j_iconst (v := 2) dX11_replaceAll_39 (by decide) ?_
                refine j_callV (q := (RX11, TX11, 8)) dX11_replaceAll_40 kX11_refuse lX11_52 inX11_refuse seX11_refuse h2.m rfl (cm_refuse1 hl w2 _ _ h2 rfl (by decide)) (Nat.le_of_ble_eq_true rfl) ⟨(by show _ ≤ 12; omega), (by show _ ≤ 12; omega)⟩ rfl (Nat.le_of_ble_eq_true rfl) rfl rfl (fun _ _ h => h.elim) ?_
                rintro _ w24 ⟨rfl, fm24, h24⟩
                have ke24 := z_ke h24 ke2 rfl
                refine j_if_eq (tgt := 48) dX11_replaceAll_43 (by decide) (fun c_43_495 => ?_) (fun c_43_495 => ?_)
                · exact absurd c_43_495 (by decide)
                · refine j_iconst (v := 0) dX11_replaceAll_46 (by decide) ?_
                  refine j_iret dX11_replaceAll_47 rfl rfl ?_ (by show _ ≤ 12; omega) (by show _ ≤ 12; omega)
                  exact ⟨_, _, rfl, ((fm2.le (q' := 59) (by decide)).tr (fm24.le (q' := 59) (by decide))), h24, ke24⟩
            · refine j_w w2 hw314 ?_
              refine j_if_eq (tgt := 38) dX11_replaceAll_31 (by decide) (fun c_31_501 => ?_) (fun c_31_501 => ?_)
              · refine j_iconst (v := 0) dX11_replaceAll_38 (by decide) ?_
                refine j_iconst (v := 2) dX11_replaceAll_39 (by decide) ?_
                refine j_callV (q := (RX11, TX11, 8)) dX11_replaceAll_40 kX11_refuse lX11_52 inX11_refuse seX11_refuse h2.m rfl (cm_refuse0 hl w2 _ _ h2 rfl) (Nat.le_of_ble_eq_true rfl) ⟨(by show _ ≤ 12; omega), (by show _ ≤ 12; omega)⟩ rfl (Nat.le_of_ble_eq_true rfl) rfl rfl (fun _ _ h => h.elim) ?_
                rintro _ _ ⟨rfl, hw315⟩
                refine j_w w2 hw315 ?_
                refine j_if_eq (tgt := 48) dX11_replaceAll_43 (by decide) (fun c_43_507 => ?_) (fun c_43_507 => ?_)
                · refine j_aload_n dX11_replaceAll_48 rfl rfl ?_
                  refine j_getf dX11_replaceAll_49 fX11_31 h2.m rfl ?_
                  refine j_iload_n dX11_replaceAll_52 rfl ?_
                  obtain ⟨fz316, gz316, hz316⟩ := h2.co
                  refine j_aald (v := .ref (1004 + i221)) dX11_replaceAll_53 gz316 rfl rfl (vp_in_nI (by omega) (by omega)) (by rw [z_cla (by omega)]; exact hz316 _ (by omega)) ?_
                  refine j_iconst (v := 0) dX11_replaceAll_54 (by decide) ?_
                  refine j_dup2 dX11_replaceAll_55 rfl rfl ?_
                  refine j_ld dX11_replaceAll_56 (h2.cn (i := i221) (by omega)) (vp_in_nI (n := 0) (by decide) (by decide)) ?_
                  refine j_iconst (v := 1) dX11_replaceAll_57 (by decide) ?_
                  refine j_iadd dX11_replaceAll_58 ?_
                  refine j_sto (w' := _) dX11_replaceAll_59 (h2.cn (i := i221) (by omega)) (vp_in_nI (n := 0) (by decide) (by decide)) rfl ?_
                  refine j_seal (by omega) ?_
                  intro w25 u25
                  have fw25 := u25.fw (ρ := 44 + i221) (by omega) (by omega)
                  have h25 := h2.up44 (i0 := i221) (by omega) fw25 u25.1
                  have ke25 := z_ke h25 ke2 rfl
                  refine j_iconst (v := 0) dX11_replaceAll_60 (by decide) ?_
                  refine j_istore (lo' := [(4, _), (0, _), (1, _), (2, _), (3, _)]) dX11_replaceAll_61 (by decide) rfl ?_
                  have loop63 : ∀ (n9 : Nat) (w26 : z_W) (s1 : z_Z) (j : Nat), j ≤ 12 → j ≤ (z_qw s1 i221).2.length → (z_qw s1 i221).2.length < j + n9 → z_mst w26 s1 → z_fm 59 w w26 → z_key s1 = z_key s → z_J G l mX11_replaceAll (22, 12, 12, w, (fun v w9 => ∃ (r : Int32) (s9 : z_Z), v = some (.int r) ∧ z_fm 59 w w9 ∧ z_mst w9 s9 ∧ z_key s9 = z_key s), (fun _ _ => False)) 63 [(0, .ref 1000), (1, .int (nI i221)), (2, .int y), (3, .int z), (4, .int (nI j))] [] w26 j j := by
                    intro n9
                    induction n9 with
                    | zero => intro w26 s1 j hj12 hj hf9 hm hfm hke; exact absurd hf9 (by omega)
                    | succ n9 ih =>
                      intro w26 s1 j hj12 hj hf9 hm hfm hke
                      refine j_iload dX11_replaceAll_63 rfl ?_
                      refine j_aload_n dX11_replaceAll_65 rfl rfl ?_
                      refine j_getf dX11_replaceAll_66 fX11_21 hm.m rfl ?_
                      refine j_iload_n dX11_replaceAll_69 rfl ?_
                      obtain ⟨lv320, -, lg320⟩ := z_li.cell hm.rows
                      refine j_callV (q := (RJx4a65c, TJx4a65c, 3)) dX11_replaceAll_70 kJx4a65c_get_915e3 lX11_82 inJx4a65c_get_915e3 seJx4a65c_get_915e3 lg320 rfl (cl_get hl w26 41 1001 _ _ (i221) _ hm.rows (z_two2 (i := i221) (by omega))) (Nat.le_of_ble_eq_true rfl) ⟨(by show _ ≤ 12; omega), (by show _ ≤ 12; omega)⟩ rfl (Nat.le_of_ble_eq_true rfl) rfl rfl (fun _ _ h => h.elim) ?_
                      rintro _ _ ⟨rfl, hw321⟩
                      refine j_w w26 hw321 ?_
                      refine j_castS dX11_replaceAll_73 (z_w 1341 ((lwg_6 96).trans (by decide +kernel)) (by decide +kernel)) (z_li.is (hm.rw (i := i221) (by omega)).1) ?_
                      obtain ⟨lv323, -, lg323⟩ := z_li.cell (hm.rw (i := i221) (by omega)).1
                      refine j_callV (q := (RJx4a65c, TJx4a65c, 3)) dX11_replaceAll_76 kJx4a65c_size_8abf5 lX11_86 inJx4a65c_size_8abf5 seJx4a65c_size_8abf5 lg323 rfl (cl_sizeB hl w26 _ _ _ _ (hm.rw (i := i221) (by omega)).1) (Nat.le_of_ble_eq_true rfl) ⟨(by show _ ≤ 12; omega), (by show _ ≤ 12; omega)⟩ rfl (Nat.le_of_ble_eq_true rfl) rfl rfl (fun _ _ h => h.elim) ?_
                      rintro _ _ ⟨⟨n324, rfl, hn324⟩, hw324⟩
                      refine j_w w26 hw324 ?_
                      have hn324 : n324 = (z_qw s1 (i221)).2.length := hn324
                      have hz324 : (z_qw s1 (i221)).2.length ≤ 12 := (hm.rw (i := i221) (by omega)).2
                      refine j_icmp_ge (tgt := 197) dX11_replaceAll_79 (by decide) (fun c_79_547 => ?_) (fun c_79_547 => ?_)
                      · have hb79 : n324 ≤ j := (nI_leI (a := n324) (b := j) (by omega) (by omega)).mp c_79_547
                        refine j_aload_n dX11_replaceAll_197 rfl rfl ?_
                        refine j_getf dX11_replaceAll_198 fX11_31 hm.m rfl ?_
                        refine j_iload_n dX11_replaceAll_201 rfl ?_
                        obtain ⟨fz325, gz325, hz325⟩ := hm.co
                        refine j_aald (v := .ref (1004 + i221)) dX11_replaceAll_202 gz325 rfl rfl (vp_in_nI (by omega) (by omega)) (by rw [z_cla (by omega)]; exact hz325 _ (by omega)) ?_
                        refine j_iconst (v := 1) dX11_replaceAll_203 (by decide) ?_
                        refine j_dup2 dX11_replaceAll_204 rfl rfl ?_
                        refine j_ld dX11_replaceAll_205 (hm.cn (i := i221) (by omega)) (vp_in_nI (n := 1) (by decide) (by decide)) ?_
                        refine j_iconst (v := 1) dX11_replaceAll_206 (by decide) ?_
                        refine j_iadd dX11_replaceAll_207 ?_
                        refine j_sto (w' := _) dX11_replaceAll_208 (hm.cn (i := i221) (by omega)) (vp_in_nI (n := 1) (by decide) (by decide)) rfl ?_
                        refine j_seal (by omega) ?_
                        intro w27 u27
                        have fw27 := u27.fw (ρ := 44 + i221) (by omega) (by omega)
                        have h27 := hm.up44 (i0 := i221) (by omega) fw27 u27.1
                        have ke27 := z_ke h27 hke rfl
                        refine j_aload_n dX11_replaceAll_209 rfl rfl ?_
                        refine j_getf dX11_replaceAll_210 fX11_21 h27.m rfl ?_
                        refine j_iload_n dX11_replaceAll_213 rfl ?_
                        obtain ⟨lv329, -, lg329⟩ := z_li.cell h27.rows
                        refine j_callV (q := (RJx4a65c, TJx4a65c, 3)) dX11_replaceAll_214 kJx4a65c_get_915e3 lX11_82 inJx4a65c_get_915e3 seJx4a65c_get_915e3 lg329 rfl (cl_get hl w27 41 1001 _ _ (i221) _ h27.rows (z_two2 (i := i221) (by omega))) (Nat.le_of_ble_eq_true rfl) ⟨(by show _ ≤ 12; omega), (by show _ ≤ 12; omega)⟩ rfl (Nat.le_of_ble_eq_true rfl) rfl rfl (fun _ _ h => h.elim) ?_
                        rintro _ _ ⟨rfl, hw330⟩
                        refine j_w w27 hw330 ?_
                        refine j_castS dX11_replaceAll_217 (z_w 1341 ((lwg_6 96).trans (by decide +kernel)) (by decide +kernel)) (z_li.is (h27.rw (i := i221) (by omega)).1) ?_
                        obtain ⟨lv332, -, lg332⟩ := z_li.cell (h27.rw (i := i221) (by omega)).1
                        refine j_callV (q := (RJx4a65c, TJx4a65c, 3)) dX11_replaceAll_220 kJx4a65c_size_8abf5 lX11_86 inJx4a65c_size_8abf5 seJx4a65c_size_8abf5 lg332 rfl (cl_sizeB hl w27 _ _ _ _ (h27.rw (i := i221) (by omega)).1) (Nat.le_of_ble_eq_true rfl) ⟨(by show _ ≤ 12; omega), (by show _ ≤ 12; omega)⟩ rfl (Nat.le_of_ble_eq_true rfl) rfl rfl (fun _ _ h => h.elim) ?_
                        rintro _ _ ⟨⟨n333, rfl, hn333⟩, hw333⟩
                        refine j_w w27 hw333 ?_
                        have hn333 : n333 = (z_qw s1 (i221)).2.length := hn333
                        have hz333 : (z_qw s1 (i221)).2.length ≤ 12 := (h27.rw (i := i221) (by omega)).2
                        refine j_iret dX11_replaceAll_223 rfl rfl ?_ (by show _ ≤ 12; omega) (by show _ ≤ 12; omega)
                        exact ⟨_, _, rfl, (hfm.tr (fw27.fm (q := 59) (by omega))), h27, ke27⟩
                      · have hb79 : j < n324 := Nat.not_le.mp (fun z => c_79_547 ((nI_leI (a := n324) (b := j) (by omega) (by omega)).mpr z))
                        refine j_aload_n dX11_replaceAll_82 rfl rfl ?_
                        refine j_getf dX11_replaceAll_83 fX11_31 hm.m rfl ?_
                        refine j_iload_n dX11_replaceAll_86 rfl ?_
                        obtain ⟨fz334, gz334, hz334⟩ := hm.co
                        refine j_aald (v := .ref (1004 + i221)) dX11_replaceAll_87 gz334 rfl rfl (vp_in_nI (by omega) (by omega)) (by rw [z_cla (by omega)]; exact hz334 _ (by omega)) ?_
                        refine j_iconst (v := 1) dX11_replaceAll_88 (by decide) ?_
                        refine j_dup2 dX11_replaceAll_89 rfl rfl ?_
                        refine j_ld dX11_replaceAll_90 (hm.cn (i := i221) (by omega)) (vp_in_nI (n := 1) (by decide) (by decide)) ?_
                        refine j_iconst (v := 1) dX11_replaceAll_91 (by decide) ?_
                        refine j_iadd dX11_replaceAll_92 ?_
                        refine j_sto (w' := _) dX11_replaceAll_93 (hm.cn (i := i221) (by omega)) (vp_in_nI (n := 1) (by decide) (by decide)) rfl ?_
                        refine j_seal (by omega) ?_
                        intro w28 u28
                        have fw28 := u28.fw (ρ := 44 + i221) (by omega) (by omega)
                        have h28 := hm.up44 (i0 := i221) (by omega) fw28 u28.1
                        have ke28 := z_ke h28 hke rfl
                        refine j_aload_n dX11_replaceAll_94 rfl rfl ?_
                        refine j_getf dX11_replaceAll_95 fX11_31 h28.m rfl ?_
                        refine j_iload_n dX11_replaceAll_98 rfl ?_
                        obtain ⟨fz337, gz337, hz337⟩ := h28.co
                        refine j_aald (v := .ref (1004 + i221)) dX11_replaceAll_99 gz337 rfl rfl (vp_in_nI (by omega) (by omega)) (by rw [z_cla (by omega)]; exact hz337 _ (by omega)) ?_
                        refine j_iconst (v := 2) dX11_replaceAll_100 (by decide) ?_
                        refine j_dup2 dX11_replaceAll_101 rfl rfl ?_
                        refine j_ld dX11_replaceAll_102 (h28.cn (i := i221) (by omega)) (vp_in_nI (n := 2) (by decide) (by decide)) ?_
                        refine j_iconst (v := 1) dX11_replaceAll_103 (by decide) ?_
                        refine j_iadd dX11_replaceAll_104 ?_
                        refine j_sto (w' := _) dX11_replaceAll_105 (h28.cn (i := i221) (by omega)) (vp_in_nI (n := 2) (by decide) (by decide)) rfl ?_
                        refine j_seal (by omega) ?_
                        intro w29 u29
                        have fw29 := u29.fw (ρ := 44 + i221) (by omega) (by omega)
                        have h29 := h28.up44 (i0 := i221) (by omega) fw29 u29.1
                        have ke29 := z_ke h29 ke28 rfl
                        refine j_iload_n dX11_replaceAll_106 rfl ?_
                        refine j_iconst (v := 0) dX11_replaceAll_107 (by decide) ?_
                        refine j_aload_n dX11_replaceAll_108 rfl rfl ?_
                        refine j_getf dX11_replaceAll_109 fX11_21 h29.m rfl ?_
                        refine j_iload_n dX11_replaceAll_112 rfl ?_
                        obtain ⟨lv341, -, lg341⟩ := z_li.cell h29.rows
                        refine j_callV (q := (RJx4a65c, TJx4a65c, 3)) dX11_replaceAll_113 kJx4a65c_get_915e3 lX11_82 inJx4a65c_get_915e3 seJx4a65c_get_915e3 lg341 rfl (cl_get hl w29 41 1001 _ _ (i221) _ h29.rows (z_two2 (i := i221) (by omega))) (Nat.le_of_ble_eq_true rfl) ⟨(by show _ ≤ 12; omega), (by show _ ≤ 12; omega)⟩ rfl (Nat.le_of_ble_eq_true rfl) rfl rfl (fun _ _ h => h.elim) ?_
                        rintro _ _ ⟨rfl, hw342⟩
                        refine j_w w29 hw342 ?_
                        refine j_castS dX11_replaceAll_116 (z_w 1341 ((lwg_6 96).trans (by decide +kernel)) (by decide +kernel)) (z_li.is (h29.rw (i := i221) (by omega)).1) ?_
                        refine j_iload dX11_replaceAll_119 rfl ?_
                        obtain ⟨lv345, -, lg345⟩ := z_li.cell (h29.rw (i := i221) (by omega)).1
                        refine j_callV (q := (RJx4a65c, TJx4a65c, 3)) dX11_replaceAll_121 kJx4a65c_get_915e3 lX11_82 inJx4a65c_get_915e3 seJx4a65c_get_915e3 lg345 rfl (cl_get hl w29 _ _ _ _ (j) _ (h29.rw (i := i221) (by omega)).1 (z_bx_get (B := (z_qw s1 (i221)).2) (by omega))) (Nat.le_of_ble_eq_true rfl) ⟨(by show _ ≤ 12; omega), (by show _ ≤ 12; omega)⟩ rfl (Nat.le_of_ble_eq_true rfl) rfl rfl (fun _ _ h => h.elim) ?_
                        rintro _ _ ⟨rfl, hw346⟩
                        refine j_w w29 hw346 ?_
                        refine j_castS dX11_replaceAll_124 (z_w 1567 ((lwg_7 82).trans (by decide +kernel)) (by decide +kernel)) rfl ?_
                        refine j_callVB (v0 := .float _) (C := "java/lang/Integer") dX11_replaceAll_127 kJ6_intValue_8abf5 lX11_99 inJ6_intValue_8abf5 seJ6_intValue_8abf5 rfl (c_J6_intValue_8abf5 hl w29 _) (Nat.le_of_ble_eq_true rfl) ⟨(by show _ ≤ 12; omega), (by show _ ≤ 12; omega)⟩ rfl (Nat.le_of_ble_eq_true rfl) rfl rfl (fun _ _ h => h.elim) ?_
                        rintro _ _ ⟨rfl, hw348⟩
                        refine j_w w29 hw348 ?_
                        refine j_iload_n dX11_replaceAll_130 rfl ?_
                        refine j_callS dX11_replaceAll_131 kX11_rule lX11_115 stX11_rule (cm_rule hl w29 _ _ _ _) (Nat.le_of_ble_eq_true rfl) ⟨(by show _ ≤ 12; omega), (by show _ ≤ 12; omega)⟩ rfl (Nat.le_of_ble_eq_true rfl) rfl rfl (fun _ _ h => h.elim) ?_
                        rintro _ _ ⟨⟨r349, rfl⟩, hw349⟩
                        refine j_w w29 hw349 ?_
                        refine j_istore (lo' := [(5, _), (0, _), (1, _), (2, _), (3, _), (4, _)]) dX11_replaceAll_134 (by decide) rfl ?_
                        refine j_iload dX11_replaceAll_136 rfl ?_
                        refine j_ldc dX11_replaceAll_138 kcX11_67 ?_
                        refine j_icmp_eq (tgt := 152) dX11_replaceAll_140 (by decide) (fun c_140_640 => ?_) (fun c_140_640 => ?_)
                        · refine j_aload_n dX11_replaceAll_152 rfl rfl ?_
                          refine j_callV (q := (RX11, TX11, 8)) dX11_replaceAll_153 kX11_nine lX11_105 inX11_nine seX11_nine h29.m rfl (cm_nine hl w29 _ h29) (Nat.le_of_ble_eq_true rfl) ⟨(by show _ ≤ 12; omega), (by show _ ≤ 12; omega)⟩ rfl (Nat.le_of_ble_eq_true rfl) rfl rfl (fun _ _ h => h.elim) ?_
                          rintro _ w30 ⟨rfl, fm30, h30⟩
                          have ke30 := z_ke h30 ke29 rfl
                          refine j_iret dX11_replaceAll_156 rfl rfl ?_ (by show _ ≤ 12; omega) (by show _ ≤ 12; omega)
                          exact ⟨_, _, rfl, (((hfm.tr (fw28.fm (q := 59) (by omega))).tr (fw29.fm (q := 59) (by omega))).tr (fm30.le (q' := 59) (by decide))), h30, ke30⟩
                        · refine j_aload_n dX11_replaceAll_143 rfl rfl ?_
                          refine j_getf dX11_replaceAll_144 fX11_25 h29.m rfl ?_
                          refine j_iload_n dX11_replaceAll_147 rfl ?_
                          refine j_zald dX11_replaceAll_148 h29.fx (vp_in_nI (by omega) (by omega)) rfl ?_
                          refine j_if_eq (tgt := 157) dX11_replaceAll_149 (by decide) (fun c_149_651 => ?_) (fun c_149_651 => ?_)
                          · refine j_aload_n dX11_replaceAll_157 rfl rfl ?_
                            refine j_getf dX11_replaceAll_158 fX11_21 h29.m rfl ?_
                            refine j_iload_n dX11_replaceAll_161 rfl ?_
                            obtain ⟨lv352, -, lg352⟩ := z_li.cell h29.rows
                            refine j_callV (q := (RJx4a65c, TJx4a65c, 3)) dX11_replaceAll_162 kJx4a65c_get_915e3 lX11_82 inJx4a65c_get_915e3 seJx4a65c_get_915e3 lg352 rfl (cl_get hl w29 41 1001 _ _ (i221) _ h29.rows (z_two2 (i := i221) (by omega))) (Nat.le_of_ble_eq_true rfl) ⟨(by show _ ≤ 12; omega), (by show _ ≤ 12; omega)⟩ rfl (Nat.le_of_ble_eq_true rfl) rfl rfl (fun _ _ h => h.elim) ?_
                            rintro _ _ ⟨rfl, hw353⟩
                            refine j_w w29 hw353 ?_
                            refine j_castS dX11_replaceAll_165 (z_w 1341 ((lwg_6 96).trans (by decide +kernel)) (by decide +kernel)) (z_li.is (h29.rw (i := i221) (by omega)).1) ?_
                            refine j_iload dX11_replaceAll_168 rfl ?_
                            refine j_iload dX11_replaceAll_170 rfl ?_
                            refine j_callS dX11_replaceAll_172 kJ6_valueOf_2dffe lX11_90 stJ6_valueOf_2dffe (cl_val hl w29 _) (Nat.le_of_ble_eq_true rfl) ⟨(by show _ ≤ 12; omega), (by show _ ≤ 12; omega)⟩ rfl (Nat.le_of_ble_eq_true rfl) rfl rfl (fun _ _ h => h.elim) ?_
                            rintro _ _ ⟨rfl, hw355⟩
                            refine j_w w29 hw355 ?_
                            obtain ⟨lv356, -, lg356⟩ := z_li.cell (h29.rw (i := i221) (by omega)).1
                            refine j_callV (q := (RJx4a65c, TJx4a65c, 3)) dX11_replaceAll_175 kJx4a65c_set_bcc79 lX11_119 inJx4a65c_set_bcc79 seJx4a65c_set_bcc79 lg356 rfl (cl_set hl w29 _ _ _ _ (j) _ _ (h29.rw (i := i221) (by omega)).1 (z_bx_get (B := (z_qw s1 i221).2) (by omega)) z_elF) (Nat.le_of_ble_eq_true rfl) ⟨(by show _ ≤ 12; omega), (by show _ ≤ 12; omega)⟩ rfl (Nat.le_of_ble_eq_true rfl) rfl rfl (fun _ _ h => h.elim) ?_
                            rintro _ w31 ⟨rfl, fw31, hr31⟩
                            rw [z_bx_set] at hr31
                            have fm31 := fw31.fm (q := 56) (by omega)
                            have h31 := h29.li11 (i0 := i221) (B := (z_qw s1 i221).2.set (j) _) (by omega) fw31 hr31 (by rw [List.length_set]; omega)
                            have ke31 := z_ke h31 ke29 rfl
                            refine j_pop dX11_replaceAll_178 rfl ?_
                            refine j_aload_n dX11_replaceAll_179 rfl rfl ?_
                            refine j_getf dX11_replaceAll_180 fX11_31 h31.m rfl ?_
                            refine j_iload_n dX11_replaceAll_183 rfl ?_
                            obtain ⟨fz357, gz357, hz357⟩ := h31.co
                            refine j_aald (v := .ref (1004 + i221)) dX11_replaceAll_184 gz357 rfl rfl (vp_in_nI (by omega) (by omega)) (by rw [z_cla (by omega)]; exact hz357 _ (by omega)) ?_
                            refine j_iconst (v := 3) dX11_replaceAll_185 (by decide) ?_
                            refine j_dup2 dX11_replaceAll_186 rfl rfl ?_
                            refine j_ld dX11_replaceAll_187 (h31.cn (i := i221) (by omega)) (vp_in_nI (n := 3) (by decide) (by decide)) ?_
                            refine j_iconst (v := 1) dX11_replaceAll_188 (by decide) ?_
                            refine j_iadd dX11_replaceAll_189 ?_
                            refine j_sto (w' := _) dX11_replaceAll_190 (h31.cn (i := i221) (by omega)) (vp_in_nI (n := 3) (by decide) (by decide)) rfl ?_
                            refine j_seal (by omega) ?_
                            intro w32 u32
                            have fw32 := u32.fw (ρ := 44 + i221) (by omega) (by omega)
                            have h32 := h31.up44 (i0 := i221) (by omega) fw32 u32.1
                            have ke32 := z_ke h32 ke31 rfl
                            refine j_iinc (lo' := [(4, _), (5, _), (0, _), (1, _), (2, _), (3, _)]) dX11_replaceAll_191 rfl (z_inc _) (by decide) rfl ?_
                            refine j_goto (tgt := 63) dX11_replaceAll_194 (by decide) ?_
                            refine j_widen (kc' := (j + 1)) (ks' := (j + 1)) (by omega) (by omega) ?_
                            exact j_lo2 (ih w32 _ (j + 1) (by omega) (by show _ ≤ (z_fu (z_qw s1) i221 _ i221).2.length; rw [z_fu_self]; show _ ≤ ((z_qw s1 i221).2.set _ _).length; rw [List.length_set]; omega) (by show (z_fu (z_qw s1) i221 _ i221).2.length < _; rw [z_fu_self]; show ((z_qw s1 i221).2.set _ _).length < _; rw [List.length_set]; omega) h32 ((((hfm.tr (fw28.fm (q := 59) (by omega))).tr (fw29.fm (q := 59) (by omega))).tr (fm31.le (q' := 59) (by decide))).tr (fw32.fm (q := 59) (by omega))) ke32) (z_q1 rfl (z_q1 rfl (z_q1 rfl (z_q1 rfl (z_q1 rfl z_q0)))))
                          · refine j_aload_n dX11_replaceAll_152 rfl rfl ?_
                            refine j_callV (q := (RX11, TX11, 8)) dX11_replaceAll_153 kX11_nine lX11_105 inX11_nine seX11_nine h29.m rfl (cm_nine hl w29 _ h29) (Nat.le_of_ble_eq_true rfl) ⟨(by show _ ≤ 12; omega), (by show _ ≤ 12; omega)⟩ rfl (Nat.le_of_ble_eq_true rfl) rfl rfl (fun _ _ h => h.elim) ?_
                            rintro _ w33 ⟨rfl, fm33, h33⟩
                            have ke33 := z_ke h33 ke29 rfl
                            refine j_iret dX11_replaceAll_156 rfl rfl ?_ (by show _ ≤ 12; omega) (by show _ ≤ 12; omega)
                            exact ⟨_, _, rfl, (((hfm.tr (fw28.fm (q := 59) (by omega))).tr (fw29.fm (q := 59) (by omega))).tr (fm33.le (q' := 59) (by decide))), h33, ke33⟩
                  refine j_widen (kc' := 0) (ks' := 0) (by omega) (by omega) ?_
                  exact j_lo2 (loop63 ((z_qw s i221).2.length + 1) w25 _ 0 (by omega) (by omega) (by show (z_qw s i221).2.length < _; omega) h25 ((fm2.le (q' := 59) (by decide)).tr (fw25.fm (q := 59) (by omega))) ke25) (z_q1 rfl (z_q1 rfl (z_q1 rfl (z_q1 rfl (z_q1 rfl z_q0)))))
                · exact absurd c_43_507 (by decide)
              · exact absurd c_31_501 (by decide)
end ZMr
