section ZMs8
variable {G : z_G} {l : Launch}
set_option maxRecDepth 100000 in
set_option maxHeartbeats 8000000 in
theorem cm_houseTold (hl : l.stackTraces = false) (w : z_W) (s : z_Z) (q : Nat) (h : z_mst w s) (hq : q < 5) : z_Con G l mX11_houseTold 20 2 9 w [.ref 1000, .int (nI q)] (fun v w9 => ∃ (r : Int32) (s9 : z_Z), v = some (.int r) ∧ z_fm 59 w w9 ∧ z_mst w9 s9 ∧ z_key s9 = z_key s) (fun _ _ => False) := by
  have ke0 : z_key s = z_key s := rfl
  refine z_body hl (by decide) rfl (Nat.le_of_ble_eq_true rfl) ?_
  show z_J G l mX11_houseTold _ 0 [(0, _), (1, _)] [] _ 0 0
  refine j_iconst (v := 0) dX11_houseTold_0 (by decide) ?_
  refine j_istore_n (lo' := [(2, _), (0, _), (1, _)]) dX11_houseTold_1 (by decide) rfl ?_
  refine j_aload_n dX11_houseTold_2 rfl rfl ?_
  refine j_getf dX11_houseTold_3 fX11_34 h.m rfl ?_
  obtain ⟨lv585, -, lg585⟩ := z_li.cell h.tabs
  refine j_callV (q := (RJx4a65c, TJx4a65c, 3)) dX11_houseTold_6 kJx4a65c_iterator_32c93 lX11_162 inJx4a65c_iterator_32c93 seJx4a65c_iterator_32c93 lg585 rfl (cl_iter hl w 58 (47) _ _ _ h.tabs (by decide) (by omega) h.fn) (Nat.le_of_ble_eq_true rfl) ⟨(Nat.le_of_ble_eq_true rfl), (Nat.le_of_ble_eq_true rfl)⟩ rfl (Nat.le_of_ble_eq_true rfl) rfl rfl (fun _ _ h => h.elim) ?_
  rintro _ w1 ⟨it584, rfl, fw1, hita584, hitb584, hitc584, la584, git584⟩
  have hita584 : 1000 ≤ it584 := hita584
  have hitb584 : it584 % 64 = 58 := hitb584
  have fm1 := fw1.fm (q := 59) (by omega)
  have h1 := h.gar fw1 (by omega)
  have ke1 := z_ke h1 ke0 rfl
  refine j_astore_n (lo' := [(3, _), (2, _), (0, _), (1, _)]) dX11_houseTold_9 rfl (by decide) rfl ?_
  have loop10 : ∀ (n9 : Nat) (w2 : z_W) (s1 : z_Z) (k : Nat) (m la : Int32), (k ≤ 3) → (3 < k + n9) → (z_mst w2 s1) → (z_fm 59 w w2) → (z_key s1 = z_key s) → (z_g w2 it584 = some (.inr (3, [.int (nI k), .int la, .int (z_qt s1), .ref 1007]))) → z_J G l mX11_houseTold (20, 2, 9, w, (fun v w9 => ∃ (r : Int32) (s9 : z_Z), v = some (.int r) ∧ z_fm 59 w w9 ∧ z_mst w9 s9 ∧ z_key s9 = z_key s), (fun _ _ => False)) 10 [(0, .ref 1000), (1, .int (nI q)), (2, .int m), (3, .ref it584)] [] w2 1 4 := by
    intro n9
    induction n9 with
    | zero => intro w2 s1 k m la hj hf9 hm hfm hke git; exact absurd hf9 (by omega)
    | succ n9 ih =>
      intro w2 s1 k m la hj hf9 hm hfm hke git
      refine j_aload_n dX11_houseTold_10 rfl rfl ?_
      refine j_callF (x := ⟨"java/util/Iterator", "hasNext", "()Z"⟩) (q := (RJx35411, TJx35411, 4)) dX11_houseTold_11 kJx35411_hasNext_aae02 ⟨(z_w 1765 ((lwg_8 40).trans (by decide +kernel)) (by decide +kernel)), (z_w 1769 ((lwg_8 44).trans (by decide +kernel)) (by decide +kernel)), inJx35411_hasNext_aae02, ⟨by decide, by decide⟩, rfl, fun U h => h.2.1⟩ git rfl (cl_hasN hl w2 _ (47) _ (k) _ _ hm.tabs ⟨_, git⟩ (by show _ ≤ 3; omega)) (Nat.le_of_ble_eq_true rfl) ⟨(Nat.le_of_ble_eq_true rfl), (Nat.le_of_ble_eq_true rfl)⟩ rfl (Nat.le_of_ble_eq_true rfl) rfl ?_
      rintro _ _ ⟨⟨x586, rfl, hz586, hp586⟩, hw586⟩
      refine j_w w2 hw586 ?_
      refine j_if_eq (tgt := 41) dX11_houseTold_16 (by decide) (fun c_16_25 => ?_) (fun c_16_25 => ?_)
      · have hk16 : k = 3 := (hz586 c_16_25)
        refine j_iconst (v := 5) dX11_houseTold_41 (by decide) ?_
        obtain ⟨x1, hx1a, hx1b, hx1c⟩ := z_fresh (57) (by decide) hm.fn
        have n_it584_x1 := z_neF hx1c git
        refine j_newa (kd := 0) (N := 5) (w' := _) (n := x1) dX11_houseTold_42 rfl rfl arc_int ⟨rfl, fun _ _ h => h⟩ (by decide) rfl (by decide) rfl (z_alW hx1c hx1a) (Nat.le_of_ble_eq_true rfl) (Nat.le_of_ble_eq_true rfl) ?_
        refine j_seal hx1a ?_
        intro w3 u3
        have fw3 := u3.fw hx1a hx1b
        have g3_it584 := (u3.2.1 it584 n_it584_x1).trans git
        have g3_x1 := u3.1
        have h3 := hm.gar fw3 (by omega)
        have ke3 := z_ke h3 hke rfl
        refine j_dup dX11_houseTold_44 rfl ?_
        refine j_iconst (v := 0) dX11_houseTold_45 (by decide) ?_
        refine j_aload_n dX11_houseTold_46 rfl rfl ?_
        refine j_getf dX11_houseTold_47 fX11_21 h3.m rfl ?_
        refine j_iconst (v := 0) dX11_houseTold_50 (by decide) ?_
        obtain ⟨lv589, -, lg589⟩ := z_li.cell h3.rows
        refine j_callV (q := (RJx4a65c, TJx4a65c, 3)) dX11_houseTold_51 kJx4a65c_get_915e3 lX11_82 inJx4a65c_get_915e3 seJx4a65c_get_915e3 lg589 rfl (cl_get hl w3 41 1001 _ _ (0) _ h3.rows (z_two2 (i := 0) (by decide))) (Nat.le_of_ble_eq_true rfl) ⟨(Nat.le_of_ble_eq_true rfl), (Nat.le_of_ble_eq_true rfl)⟩ rfl (Nat.le_of_ble_eq_true rfl) rfl rfl (fun _ _ h => h.elim) ?_
        rintro _ _ ⟨rfl, hw590⟩
        refine j_w w3 hw590 ?_
        refine j_castS dX11_houseTold_54 (z_w 1341 ((lwg_6 96).trans (by decide +kernel)) (by decide +kernel)) (z_li.is (h3.rw (i := 0) (by decide)).1) ?_
        obtain ⟨lv592, -, lg592⟩ := z_li.cell (h3.rw (i := 0) (by decide)).1
        refine j_callV (q := (RJx4a65c, TJx4a65c, 3)) dX11_houseTold_57 kJx4a65c_size_8abf5 lX11_86 inJx4a65c_size_8abf5 seJx4a65c_size_8abf5 lg592 rfl (cl_sizeB hl w3 _ _ _ _ (h3.rw (i := 0) (by decide)).1) (Nat.le_of_ble_eq_true rfl) ⟨(Nat.le_of_ble_eq_true rfl), (Nat.le_of_ble_eq_true rfl)⟩ rfl (Nat.le_of_ble_eq_true rfl) rfl rfl (fun _ _ h => h.elim) ?_
        rintro _ _ ⟨⟨n593, rfl, hn593⟩, hw593⟩
        refine j_w w3 hw593 ?_
        have hn593 : n593 = (z_qw s1 (0)).2.length := hn593
        have hz593 : (z_qw s1 (0)).2.length ≤ 12 := (h3.rw (i := 0) (by decide)).2
        refine j_aload_n dX11_houseTold_60 rfl rfl ?_
        refine j_getf dX11_houseTold_61 fX11_21 h3.m rfl ?_
        refine j_iconst (v := 1) dX11_houseTold_64 (by decide) ?_
        obtain ⟨lv595, -, lg595⟩ := z_li.cell h3.rows
        refine j_callV (q := (RJx4a65c, TJx4a65c, 3)) dX11_houseTold_65 kJx4a65c_get_915e3 lX11_82 inJx4a65c_get_915e3 seJx4a65c_get_915e3 lg595 rfl (cl_get hl w3 41 1001 _ _ (1) _ h3.rows (z_two2 (i := 1) (by decide))) (Nat.le_of_ble_eq_true rfl) ⟨(Nat.le_of_ble_eq_true rfl), (Nat.le_of_ble_eq_true rfl)⟩ rfl (Nat.le_of_ble_eq_true rfl) rfl rfl (fun _ _ h => h.elim) ?_
        rintro _ _ ⟨rfl, hw596⟩
        refine j_w w3 hw596 ?_
        refine j_castS dX11_houseTold_68 (z_w 1341 ((lwg_6 96).trans (by decide +kernel)) (by decide +kernel)) (z_li.is (h3.rw (i := 1) (by decide)).1) ?_
        obtain ⟨lv598, -, lg598⟩ := z_li.cell (h3.rw (i := 1) (by decide)).1
        refine j_callV (q := (RJx4a65c, TJx4a65c, 3)) dX11_houseTold_71 kJx4a65c_size_8abf5 lX11_86 inJx4a65c_size_8abf5 seJx4a65c_size_8abf5 lg598 rfl (cl_sizeB hl w3 _ _ _ _ (h3.rw (i := 1) (by decide)).1) (Nat.le_of_ble_eq_true rfl) ⟨(Nat.le_of_ble_eq_true rfl), (Nat.le_of_ble_eq_true rfl)⟩ rfl (Nat.le_of_ble_eq_true rfl) rfl rfl (fun _ _ h => h.elim) ?_
        rintro _ _ ⟨⟨n599, rfl, hn599⟩, hw599⟩
        refine j_w w3 hw599 ?_
        have hn599 : n599 = (z_qw s1 (1)).2.length := hn599
        have hz599 : (z_qw s1 (1)).2.length ≤ 12 := (h3.rw (i := 1) (by decide)).2
        refine j_iadd dX11_houseTold_74 ?_
        refine j_sto (w' := _) dX11_houseTold_75 g3_x1 (vp_in_nI (n := 0) (by decide) (by decide)) rfl ?_
        refine j_seal hx1a ?_
        intro w4 u4
        have fw4 := u4.fw hx1a hx1b
        have g4_it584 := (u4.2.1 it584 n_it584_x1).trans g3_it584
        have g4_x1 := u4.1
        have h4 := h3.gar fw4 (by omega)
        have ke4 := z_ke h4 ke3 rfl
        refine j_dup dX11_houseTold_76 rfl ?_
        refine j_iconst (v := 1) dX11_houseTold_77 (by decide) ?_
        refine j_iload_n dX11_houseTold_78 rfl ?_
        refine j_sto (w' := _) dX11_houseTold_79 g4_x1 (vp_in_nI (n := 1) (by decide) (by decide)) rfl ?_
        refine j_seal hx1a ?_
        intro w5 u5
        have fw5 := u5.fw hx1a hx1b
        have g5_it584 := (u5.2.1 it584 n_it584_x1).trans g4_it584
        have g5_x1 := u5.1
        have h5 := h4.gar fw5 (by omega)
        have ke5 := z_ke h5 ke4 rfl
        refine j_dup dX11_houseTold_80 rfl ?_
        refine j_iconst (v := 2) dX11_houseTold_81 (by decide) ?_
        refine j_aload_n dX11_houseTold_82 rfl rfl ?_
        refine j_getf dX11_houseTold_83 fX11_40 h5.m rfl ?_
        refine j_iconst (v := 0) dX11_houseTold_86 (by decide) ?_
        obtain ⟨fz602, gz602, hz602⟩ := h5.hs
        refine j_aald (v := .ref (1009 + 0)) dX11_houseTold_87 gz602 rfl rfl (vp_in_nI (n := 0) (by decide) (by decide)) (by rw [show (0 : Int32).toNatClampNeg = 0 by decide]; exact hz602 _ (by decide)) ?_
        refine j_getf dX11_houseTold_88 fX11_193 (h5.hd (i := 0) (by decide)) rfl ?_
        refine j_aload_n dX11_houseTold_91 rfl rfl ?_
        refine j_getf dX11_houseTold_92 fX11_40 h5.m rfl ?_
        refine j_iconst (v := 1) dX11_houseTold_95 (by decide) ?_
        obtain ⟨fz603, gz603, hz603⟩ := h5.hs
        refine j_aald (v := .ref (1009 + 1)) dX11_houseTold_96 gz603 rfl rfl (vp_in_nI (n := 1) (by decide) (by decide)) (by rw [show (1 : Int32).toNatClampNeg = 1 by decide]; exact hz603 _ (by decide)) ?_
        refine j_getf dX11_houseTold_97 fX11_193 (h5.hd (i := 1) (by decide)) rfl ?_
        refine j_iadd dX11_houseTold_100 ?_
        refine j_sto (w' := _) dX11_houseTold_101 g5_x1 (vp_in_nI (n := 2) (by decide) (by decide)) rfl ?_
        refine j_seal hx1a ?_
        intro w6 u6
        have fw6 := u6.fw hx1a hx1b
        have g6_it584 := (u6.2.1 it584 n_it584_x1).trans g5_it584
        have g6_x1 := u6.1
        have h6 := h5.gar fw6 (by omega)
        have ke6 := z_ke h6 ke5 rfl
        refine j_dup dX11_houseTold_102 rfl ?_
        refine j_iconst (v := 3) dX11_houseTold_103 (by decide) ?_
        refine j_aload_n dX11_houseTold_104 rfl rfl ?_
        refine j_getf dX11_houseTold_105 fX11_56 h6.m rfl ?_
        refine j_sto (w' := _) dX11_houseTold_108 g6_x1 (vp_in_nI (n := 3) (by decide) (by decide)) rfl ?_
        refine j_seal hx1a ?_
        intro w7 u7
        have fw7 := u7.fw hx1a hx1b
        have g7_it584 := (u7.2.1 it584 n_it584_x1).trans g6_it584
        have g7_x1 := u7.1
        have h7 := h6.gar fw7 (by omega)
        have ke7 := z_ke h7 ke6 rfl
        refine j_dup dX11_houseTold_109 rfl ?_
        refine j_iconst (v := 4) dX11_houseTold_110 (by decide) ?_
        refine j_aload_n dX11_houseTold_111 rfl rfl ?_
        refine j_getf dX11_houseTold_112 fX11_234 h7.m rfl ?_
        refine j_sto (w' := _) dX11_houseTold_115 g7_x1 (vp_in_nI (n := 4) (by decide) (by decide)) rfl ?_
        refine j_seal hx1a ?_
        intro w8 u8
        have fw8 := u8.fw hx1a hx1b
        have g8_it584 := (u8.2.1 it584 n_it584_x1).trans g7_it584
        have g8_x1 := u8.1
        have h8 := h7.gar fw8 (by omega)
        have ke8 := z_ke h8 ke7 rfl
        refine j_astore_n (lo' := [(3, _), (0, _), (1, _), (2, _)]) dX11_houseTold_116 rfl (by decide) rfl ?_
        refine j_aload_n dX11_houseTold_117 rfl rfl ?_
        refine j_iload_n dX11_houseTold_118 rfl ?_
        refine j_ld dX11_houseTold_119 g8_x1 (vp_in_nI (by omega) (by omega)) ?_
        refine j_iret dX11_houseTold_120 rfl rfl ?_ (Nat.le_of_ble_eq_true rfl) (Nat.le_of_ble_eq_true rfl)
        exact ⟨_, _, rfl, ((((((hfm.tr (fw3.fm (q := 59) (by omega))).tr (fw4.fm (q := 59) (by omega))).tr (fw5.fm (q := 59) (by omega))).tr (fw6.fm (q := 59) (by omega))).tr (fw7.fm (q := 59) (by omega))).tr (fw8.fm (q := 59) (by omega))), h8, ke8⟩
      · have hk16 : k < 3 := (hp586 c_16_25)
        refine j_aload_n dX11_houseTold_19 rfl rfl ?_
        refine j_callF (x := ⟨"java/util/Iterator", "next", "()Ljava/lang/Object;"⟩) (q := (RJx35411, TJx35411, 4)) dX11_houseTold_20 kJx35411_next_0502b ⟨(z_w 1775 ((lwg_8 50).trans (by decide +kernel)) (by decide +kernel)), (z_w 1778 ((lwg_8 53).trans (by decide +kernel)) (by decide +kernel)), inJx35411_next_0502b, ⟨by decide, by decide⟩, rfl, fun U h => h.2.2.1⟩ git rfl (cl_next hl w2 58 it584 (47) _ (k) _ _ _ hm.tabs ⟨_, git⟩ (z_thr3 (t := k) (by omega)) hita584 hitb584 (by omega)) (Nat.le_of_ble_eq_true rfl) ⟨(Nat.le_of_ble_eq_true rfl), (Nat.le_of_ble_eq_true rfl)⟩ rfl (Nat.le_of_ble_eq_true rfl) rfl ?_
        rintro _ w9 ⟨rfl, fw9, la9, git9⟩
        have fm9 := fw9.fm (q := 59) (by omega)
        have h9 := hm.gar fw9 (by omega)
        have ke9 := z_ke h9 hke rfl
        refine j_castS dX11_houseTold_25 (z_w 1341 ((lwg_6 96).trans (by decide +kernel)) (by decide +kernel)) (z_li.is (h9.tb (t := k) (by omega))) ?_
        refine j_astore (lo' := [(4, _), (0, _), (1, _), (2, _), (3, _)]) dX11_houseTold_28 rfl (by decide) rfl ?_
        refine j_iload_n dX11_houseTold_30 rfl ?_
        refine j_aload dX11_houseTold_31 rfl rfl ?_
        obtain ⟨lv610, -, lg610⟩ := z_li.cell (h9.tb (t := k) (by omega))
        refine j_callV (q := (RJx4a65c, TJx4a65c, 3)) dX11_houseTold_33 kJx4a65c_size_8abf5 lX11_86 inJx4a65c_size_8abf5 seJx4a65c_size_8abf5 lg610 rfl (cl_sizeR hl w9 _ _ _ _ (h9.tb (t := k) (by omega))) (Nat.le_of_ble_eq_true rfl) ⟨(Nat.le_of_ble_eq_true rfl), (Nat.le_of_ble_eq_true rfl)⟩ rfl (Nat.le_of_ble_eq_true rfl) rfl rfl (fun _ _ h => h.elim) ?_
        rintro _ _ ⟨⟨n611, rfl, hn611⟩, hw611⟩
        refine j_w w9 hw611 ?_
        have hn611 : n611 = (z_qp s1 (k)).2.length := hn611
        have hz611 : (z_qp s1 (k)).2.length ≤ 20 := (h9.pr (t := k) (by omega)).len
        refine j_iadd dX11_houseTold_36 ?_
        refine j_istore_n (lo' := [(2, _), (4, _), (0, _), (1, _), (3, _)]) dX11_houseTold_37 (by decide) rfl ?_
        refine j_goto (tgt := 10) dX11_houseTold_38 (by decide) ?_
        exact j_lo2 (ih w9 _ (k + 1) _ _ (by omega) (by omega) h9 (hfm.tr fm9) ke9 git9) (z_q1 rfl (z_q1 rfl (z_q1 rfl (z_q1 rfl z_q0))))
  exact j_lo2 (loop10 4 w1 _ 0 _ _ (by omega) (by omega) h1 fm1 ke1 git584) (z_q1 rfl (z_q1 rfl (z_q1 rfl (z_q1 rfl z_q0))))
set_option maxRecDepth 100000 in
set_option maxHeartbeats 8000000 in
theorem cm_house (hl : l.stackTraces = false) (w : z_W) (s : z_Z) (x : Int32) (h : z_mst w s)  : z_Con G l mX11_house 22 2 9 w [.ref 1000, .int x] (fun v w9 => ∃ (r : Int32) (s9 : z_Z), v = some (.int r) ∧ z_fm 59 w w9 ∧ z_mst w9 s9 ∧ z_key s9 = z_key s) (fun _ _ => False) := by
  have ke0 : z_key s = z_key s := rfl
  refine z_body hl (by decide) rfl (Nat.le_of_ble_eq_true rfl) ?_
  show z_J G l mX11_house _ 0 [(0, _), (1, _)] [] _ 0 0
  refine j_aload_n dX11_house_0 rfl rfl ?_
  refine j_iload_n dX11_house_1 rfl ?_
  refine j_iconst (v := 0) dX11_house_2 (by decide) ?_
  refine j_iconst (v := 4) dX11_house_3 (by decide) ?_
  refine j_callS dX11_house_4 kX11_isIn lX11_59 stX11_isIn (cm_isIn hl w _ _ _) (Nat.le_of_ble_eq_true rfl) ⟨(Nat.le_of_ble_eq_true rfl), (Nat.le_of_ble_eq_true rfl)⟩ rfl (Nat.le_of_ble_eq_true rfl) rfl rfl (fun _ _ h => h.elim) ?_
  rintro _ _ ⟨⟨rfl, hi612⟩ | ⟨rfl, hno612⟩, hw612⟩
  · refine j_w w hw612 ?_
    obtain ⟨i612, hi612', rfl⟩ := z_nat (m := 4) rfl rfl (by omega) hi612
    refine j_if_ne (tgt := 14) dX11_house_7 (by decide) (fun c_7_10 => ?_) (fun c_7_10 => ?_)
    · refine j_iconst (v := 0) dX11_house_14 (by decide) ?_
      refine j_iconst (v := 1) dX11_house_15 (by decide) ?_
      refine j_callV (q := (RX11, TX11, 8)) dX11_house_16 kX11_start lX11_76 inX11_start seX11_start h.m rfl (cm_start0 hl w _ _ h) (Nat.le_of_ble_eq_true rfl) ⟨(Nat.le_of_ble_eq_true rfl), (Nat.le_of_ble_eq_true rfl)⟩ rfl (Nat.le_of_ble_eq_true rfl) rfl rfl (fun _ _ h => h.elim) ?_
      rintro _ w1 ⟨rfl, fm1, h1⟩
      have ke1 := z_ke h1 ke0 rfl
      refine j_if_eq (tgt := 26) dX11_house_19 (by decide) (fun c_19_16 => ?_) (fun c_19_16 => ?_)
      · refine j_aload_n dX11_house_26 rfl rfl ?_
        refine j_iload_n dX11_house_27 rfl ?_
        refine j_callV (q := (RX11, TX11, 8)) dX11_house_28 kX11_houseTold lX11_237 inX11_houseTold seX11_houseTold h1.m rfl (cm_houseTold hl w1 _ (i612) h1 (by omega)) (Nat.le_of_ble_eq_true rfl) ⟨(Nat.le_of_ble_eq_true rfl), (Nat.le_of_ble_eq_true rfl)⟩ rfl (Nat.le_of_ble_eq_true rfl) rfl rfl (fun _ _ h => h.elim) ?_
        rintro _ w2 ⟨r2, s2, rfl, fm2, h2, hk2⟩
        have ke2 := z_ke h2 ke1 hk2
        refine j_iret dX11_house_31 rfl rfl ?_ (Nat.le_of_ble_eq_true rfl) (Nat.le_of_ble_eq_true rfl)
        exact ⟨_, _, rfl, ((fm1.le (q' := 59) (by decide)).tr (fm2.le (q' := 59) (by decide))), h2, ke2⟩
      · exact absurd c_19_16 (by decide)
    · exact absurd c_7_10 (by decide)
  · refine j_w w hw612 ?_
    refine j_if_ne (tgt := 14) dX11_house_7 (by decide) (fun c_7_27 => ?_) (fun c_7_27 => ?_)
    · exact absurd c_7_27 (by decide)
    · refine j_iconst (v := 1) dX11_house_10 (by decide) ?_
      refine j_goto (tgt := 15) dX11_house_11 (by decide) ?_
      refine j_iconst (v := 1) dX11_house_15 (by decide) ?_
      refine j_callV (q := (RX11, TX11, 8)) dX11_house_16 kX11_start lX11_76 inX11_start seX11_start h.m rfl (cm_start1 hl w _ _ h (by decide)) (Nat.le_of_ble_eq_true rfl) ⟨(Nat.le_of_ble_eq_true rfl), (Nat.le_of_ble_eq_true rfl)⟩ rfl (Nat.le_of_ble_eq_true rfl) rfl rfl (fun _ _ h => h.elim) ?_
      rintro _ w3 ⟨rfl, fm3, h3⟩
      have ke3 := z_ke h3 ke0 rfl
      refine j_if_eq (tgt := 26) dX11_house_19 (by decide) (fun c_19_35 => ?_) (fun c_19_35 => ?_)
      · exact absurd c_19_35 (by decide)
      · refine j_iconst (v := 0) dX11_house_22 (by decide) ?_
        refine j_goto (tgt := 31) dX11_house_23 (by decide) ?_
        refine j_iret dX11_house_31 rfl rfl ?_ (Nat.le_of_ble_eq_true rfl) (Nat.le_of_ble_eq_true rfl)
        exact ⟨_, _, rfl, (fm3.le (q' := 59) (by decide)), h3, ke3⟩
set_option maxRecDepth 100000 in
set_option maxHeartbeats 8000000 in
theorem cm_hearTable (hl : l.stackTraces = false) (w : z_W) (s : z_Z) (x y : Int32) (h : z_mst w s)  : z_Con G l mX11_hearTable 22 42 631 w [.ref 1000, .int x, .int y] (fun v w9 => ∃ (r : Int32) (s9 : z_Z), v = some (.int r) ∧ z_fm 59 w w9 ∧ z_mst w9 s9 ∧ z_key s9 = z_key s) (fun _ _ => False) := by
  have ke0 : z_key s = z_key s := rfl
  refine z_body hl (by decide) rfl (Nat.le_of_ble_eq_true rfl) ?_
  show z_J G l mX11_hearTable _ 0 [(0, _), (1, _), (2, _)] [] _ 0 0
  refine j_aload_n dX11_hearTable_0 rfl rfl ?_
  refine j_iload_n dX11_hearTable_1 rfl ?_
  refine j_callS dX11_hearTable_2 kX11_isNoTable lX11_136 stX11_isNoTable (cm_isNoTable hl w _) (Nat.le_of_ble_eq_true rfl) ⟨(by show _ ≤ 42; omega), (by show _ ≤ 631; omega)⟩ rfl (Nat.le_of_ble_eq_true rfl) rfl rfl (fun _ _ h => h.elim) ?_
  rintro _ _ ⟨⟨rfl, hno613⟩ | ⟨rfl, i613, hi613, rfl⟩, hw613⟩
  · refine j_w w hw613 ?_
    refine j_if_ne (tgt := 15) dX11_hearTable_5 (by decide) (fun c_5_7 => ?_) (fun c_5_7 => ?_)
    · refine j_iconst (v := 1) dX11_hearTable_15 (by decide) ?_
      refine j_goto (tgt := 20) dX11_hearTable_16 (by decide) ?_
      refine j_iconst (v := 1) dX11_hearTable_20 (by decide) ?_
      refine j_callV (q := (RX11, TX11, 8)) dX11_hearTable_21 kX11_start lX11_76 inX11_start seX11_start h.m rfl (cm_start1 hl w _ _ h (by decide)) (Nat.le_of_ble_eq_true rfl) ⟨(by show _ ≤ 42; omega), (by show _ ≤ 631; omega)⟩ rfl (Nat.le_of_ble_eq_true rfl) rfl rfl (fun _ _ h => h.elim) ?_
      rintro _ w1 ⟨rfl, fm1, h1⟩
      have ke1 := z_ke h1 ke0 rfl
      refine j_if_eq (tgt := 29) dX11_hearTable_24 (by decide) (fun c_24_14 => ?_) (fun c_24_14 => ?_)
      · exact absurd c_24_14 (by decide)
      · refine j_iconst (v := 0) dX11_hearTable_27 (by decide) ?_
        refine j_iret dX11_hearTable_28 rfl rfl ?_ (by show _ ≤ 42; omega) (by show _ ≤ 631; omega)
        exact ⟨_, _, rfl, (fm1.le (q' := 59) (by decide)), h1, ke1⟩
    · exact absurd c_5_7 (by decide)
  · refine j_w w hw613 ?_
    refine j_if_ne (tgt := 15) dX11_hearTable_5 (by decide) (fun c_5_21 => ?_) (fun c_5_21 => ?_)
    · exact absurd c_5_21 (by decide)
    · refine j_iload_n dX11_hearTable_8 rfl ?_
      refine j_callS dX11_hearTable_9 kX11_isNoTwo lX11_72 stX11_isNoTwo (cm_isNoTwo hl w _) (Nat.le_of_ble_eq_true rfl) ⟨(by show _ ≤ 42; omega), (by show _ ≤ 631; omega)⟩ rfl (Nat.le_of_ble_eq_true rfl) rfl rfl (fun _ _ h => h.elim) ?_
      rintro _ _ ⟨⟨rfl, hno614⟩ | ⟨rfl, i614, hi614, rfl⟩, hw614⟩
      · refine j_w w hw614 ?_
        refine j_if_eq (tgt := 19) dX11_hearTable_12 (by decide) (fun c_12_27 => ?_) (fun c_12_27 => ?_)
        · exact absurd c_12_27 (by decide)
        · refine j_iconst (v := 1) dX11_hearTable_15 (by decide) ?_
          refine j_goto (tgt := 20) dX11_hearTable_16 (by decide) ?_
          refine j_iconst (v := 1) dX11_hearTable_20 (by decide) ?_
          refine j_callV (q := (RX11, TX11, 8)) dX11_hearTable_21 kX11_start lX11_76 inX11_start seX11_start h.m rfl (cm_start1 hl w _ _ h (by decide)) (Nat.le_of_ble_eq_true rfl) ⟨(by show _ ≤ 42; omega), (by show _ ≤ 631; omega)⟩ rfl (Nat.le_of_ble_eq_true rfl) rfl rfl (fun _ _ h => h.elim) ?_
          rintro _ w2 ⟨rfl, fm2, h2⟩
          have ke2 := z_ke h2 ke0 rfl
          refine j_if_eq (tgt := 29) dX11_hearTable_24 (by decide) (fun c_24_35 => ?_) (fun c_24_35 => ?_)
          · exact absurd c_24_35 (by decide)
          · refine j_iconst (v := 0) dX11_hearTable_27 (by decide) ?_
            refine j_iret dX11_hearTable_28 rfl rfl ?_ (by show _ ≤ 42; omega) (by show _ ≤ 631; omega)
            exact ⟨_, _, rfl, (fm2.le (q' := 59) (by decide)), h2, ke2⟩
      · refine j_w w hw614 ?_
        refine j_if_eq (tgt := 19) dX11_hearTable_12 (by decide) (fun c_12_41 => ?_) (fun c_12_41 => ?_)
        · refine j_iconst (v := 0) dX11_hearTable_19 (by decide) ?_
          refine j_iconst (v := 1) dX11_hearTable_20 (by decide) ?_
          refine j_callV (q := (RX11, TX11, 8)) dX11_hearTable_21 kX11_start lX11_76 inX11_start seX11_start h.m rfl (cm_start0 hl w _ _ h) (Nat.le_of_ble_eq_true rfl) ⟨(by show _ ≤ 42; omega), (by show _ ≤ 631; omega)⟩ rfl (Nat.le_of_ble_eq_true rfl) rfl rfl (fun _ _ h => h.elim) ?_
          rintro _ w3 ⟨rfl, fm3, h3⟩
          have ke3 := z_ke h3 ke0 rfl
          refine j_if_eq (tgt := 29) dX11_hearTable_24 (by decide) (fun c_24_47 => ?_) (fun c_24_47 => ?_)
          · refine j_iload_n dX11_hearTable_29 rfl ?_
            refine j_if_ne (tgt := 42) dX11_hearTable_30 (by decide) (fun c_30_49 => ?_) (fun c_30_49 => ?_)
            · have hb30 : ¬ i613 = 0 := fun z => c_30_49 (show nI i613 = nI 0 by rw [z])
              refine j_bipush (v := 7) dX11_hearTable_42 (by decide) ?_
              obtain ⟨x1, hx1a, hx1b, hx1c⟩ := z_fresh (57) (by decide) h3.fn
              refine j_newa (kd := 0) (N := 7) (w' := _) (n := x1) dX11_hearTable_44 rfl rfl arc_int ⟨rfl, fun _ _ h => h⟩ (by decide) rfl (by decide) rfl (z_alW hx1c hx1a) (Nat.le_of_ble_eq_true rfl) (Nat.le_of_ble_eq_true rfl) ?_
              refine j_seal hx1a ?_
              intro w4 u4
              have fw4 := u4.fw hx1a hx1b
              have g4_x1 := u4.1
              have h4 := h3.gar fw4 (by omega)
              have ke4 := z_ke h4 ke3 rfl
              refine j_astore_n (lo' := [(3, _), (0, _), (1, _), (2, _)]) dX11_hearTable_46 rfl (by decide) rfl ?_
              refine j_aload_n dX11_hearTable_47 rfl rfl ?_
              refine j_iconst (v := 0) dX11_hearTable_48 (by decide) ?_
              refine j_dup2 dX11_hearTable_49 rfl rfl ?_
              refine j_ld dX11_hearTable_50 g4_x1 (vp_in_nI (n := 0) (by decide) (by decide)) ?_
              refine j_iconst (v := 1) dX11_hearTable_51 (by decide) ?_
              refine j_iadd dX11_hearTable_52 ?_
              refine j_sto (w' := _) dX11_hearTable_53 g4_x1 (vp_in_nI (n := 0) (by decide) (by decide)) rfl ?_
              refine j_seal hx1a ?_
              intro w5 u5
              have fw5 := u5.fw hx1a hx1b
              have g5_x1 := u5.1
              have h5 := h4.gar fw5 (by omega)
              have ke5 := z_ke h5 ke4 rfl
              refine j_iconst (v := 0) dX11_hearTable_54 (by decide) ?_
              refine j_istore (lo' := [(4, _), (3, _), (0, _), (1, _), (2, _)]) dX11_hearTable_55 (by decide) rfl ?_
              refine j_aload_n dX11_hearTable_57 rfl rfl ?_
              refine j_getf dX11_hearTable_58 fX11_34 h5.m rfl ?_
              refine j_iload_n dX11_hearTable_61 rfl ?_
              obtain ⟨lv619, -, lg619⟩ := z_li.cell h5.tabs
              refine j_callV (q := (RJx4a65c, TJx4a65c, 3)) dX11_hearTable_62 kJx4a65c_get_915e3 lX11_82 inJx4a65c_get_915e3 seJx4a65c_get_915e3 lg619 rfl (cl_get hl w5 47 1007 _ _ (i613) _ h5.tabs (z_thr3 (t := i613) (by omega))) (Nat.le_of_ble_eq_true rfl) ⟨(by show _ ≤ 42; omega), (by show _ ≤ 631; omega)⟩ rfl (Nat.le_of_ble_eq_true rfl) rfl rfl (fun _ _ h => h.elim) ?_
              rintro _ _ ⟨rfl, hw620⟩
              refine j_w w5 hw620 ?_
              refine j_castS dX11_hearTable_65 (z_w 1341 ((lwg_6 96).trans (by decide +kernel)) (by decide +kernel)) (z_li.is (h5.tb (t := i613) (by omega))) ?_
              obtain ⟨lv623, -, lg623⟩ := z_li.cell (h5.tb (t := i613) (by omega))
              refine j_callV (q := (RJx4a65c, TJx4a65c, 3)) dX11_hearTable_68 kJx4a65c_iterator_32c93 lX11_162 inJx4a65c_iterator_32c93 seJx4a65c_iterator_32c93 lg623 rfl (cl_iter hl w5 58 (51 + i613) _ _ _ (h5.tb (t := i613) (by omega)) (by decide) (by omega) h5.fn) (Nat.le_of_ble_eq_true rfl) ⟨(by show _ ≤ 42; omega), (by show _ ≤ 631; omega)⟩ rfl (Nat.le_of_ble_eq_true rfl) rfl rfl (fun _ _ h => h.elim) ?_
              rintro _ w6 ⟨it622, rfl, fw6, hita622, hitb622, hitc622, la622, git622⟩
              have hita622 : 1000 ≤ it622 := hita622
              have hitb622 : it622 % 64 = 58 := hitb622
              have n_x1_it622 := z_neF hitc622 g5_x1
              have g6_x1 := fw6.g (Or.inr (by omega)) g5_x1
              have fm6 := fw6.fm (q := 59) (by omega)
              have h6 := h5.gar fw6 (by omega)
              have ke6 := z_ke h6 ke5 rfl
              refine j_astore (lo' := [(5, _), (4, _), (3, _), (0, _), (1, _), (2, _)]) dX11_hearTable_71 rfl (by decide) rfl ?_
              have loop73 : ∀ (n9 : Nat) (w7 : z_W) (s1 : z_Z) (k : Nat) (m la : Int32) (F : Nat → Int32), (k ≤ 20) → (20 < k + n9) → (z_mst w7 s1) → (z_fm 59 w w7) → (z_key s1 = z_key s) → (k ≤ (z_qp s1 i613).2.length) → (z_g w7 it622 = some (.inr (3, [.int (nI k), .int la, .int (z_qp s1 i613).1, .ref (1011 + i613)]))) → (z_g w7 x1 = some (.inl (0, 7, fun j => .int (F j)))) → z_J G l mX11_hearTable (22, 42, 631, w, (fun v w9 => ∃ (r : Int32) (s9 : z_Z), v = some (.int r) ∧ z_fm 59 w w9 ∧ z_mst w9 s9 ∧ z_key s9 = z_key s), (fun _ _ => False)) 73 [(0, .ref 1000), (1, .int (nI i613)), (2, .int (nI i614)), (3, .ref x1), (4, .int m), (5, .ref it622)] [] w7 (2 + 2 * k) (11 + 31 * k) := by
                intro n9
                induction n9 with
                | zero => intro w7 s1 k m la F hj hf9 hm hfm hke hkl git gx; exact absurd hf9 (by omega)
                | succ n9 ih =>
                  intro w7 s1 k m la F hj hf9 hm hfm hke hkl git gx
                  refine j_aload dX11_hearTable_73 rfl rfl ?_
                  refine j_callF (x := ⟨"java/util/Iterator", "hasNext", "()Z"⟩) (q := (RJx35411, TJx35411, 4)) dX11_hearTable_75 kJx35411_hasNext_aae02 ⟨(z_w 1765 ((lwg_8 40).trans (by decide +kernel)) (by decide +kernel)), (z_w 1769 ((lwg_8 44).trans (by decide +kernel)) (by decide +kernel)), inJx35411_hasNext_aae02, ⟨by decide, by decide⟩, rfl, fun U h => h.2.1⟩ git rfl (cl_hasN hl w7 _ (51 + i613) _ (k) _ _ (hm.tb (t := i613) (by omega)) ⟨_, git⟩ (by rw [z_rs_len]; omega)) (Nat.le_of_ble_eq_true rfl) ⟨(by show _ ≤ 42; omega), (by show _ ≤ 631; omega)⟩ rfl (Nat.le_of_ble_eq_true rfl) rfl ?_
                  rintro _ _ ⟨⟨x624, rfl, hz624, hp624⟩, hw624⟩
                  refine j_w w7 hw624 ?_
                  refine j_if_eq (tgt := 145) dX11_hearTable_80 (by decide) (fun c_80_105 => ?_) (fun c_80_105 => ?_)
                  · have hk80 : k = (z_qp s1 (i613)).2.length := (z_rs_len ▸ hz624 c_80_105)
                    refine j_aload_n dX11_hearTable_145 rfl rfl ?_
                    refine j_iconst (v := 1) dX11_hearTable_146 (by decide) ?_
                    refine j_dup2 dX11_hearTable_147 rfl rfl ?_
                    refine j_ld dX11_hearTable_148 gx (vp_in_nI (n := 1) (by decide) (by decide)) ?_
                    refine j_iconst (v := 1) dX11_hearTable_149 (by decide) ?_
                    refine j_iadd dX11_hearTable_150 ?_
                    refine j_sto (w' := _) dX11_hearTable_151 gx (vp_in_nI (n := 1) (by decide) (by decide)) rfl ?_
                    refine j_seal hx1a ?_
                    intro w8 u8
                    have fw8 := u8.fw hx1a hx1b
                    have g8_it622 := (u8.2.1 it622 (Ne.symm n_x1_it622)).trans git
                    have g8_x1 := u8.1
                    have h8 := hm.gar fw8 (by omega)
                    have ke8 := z_ke h8 hke rfl
                    refine j_iload dX11_hearTable_152 rfl ?_
                    refine j_iret dX11_hearTable_154 rfl rfl ?_ (by show _ ≤ 42; omega) (by show _ ≤ 631; omega)
                    exact ⟨_, _, rfl, (hfm.tr (fw8.fm (q := 59) (by omega))), h8, ke8⟩
                  · have hk80 : k < (z_qp s1 (i613)).2.length := (z_rs_len ▸ hp624 c_80_105)
                    have hzk80 : (z_qp s1 (i613)).2.length ≤ 20 := (hm.pr (t := i613) (by omega)).len
                    refine j_aload dX11_hearTable_83 rfl rfl ?_
                    obtain ⟨p627, hp627, hq627, hk627⟩ := z_rs_ex (P := (z_qp s1 (i613)).2) (k := k) (by omega)
                    refine j_callF (x := ⟨"java/util/Iterator", "next", "()Ljava/lang/Object;"⟩) (q := (RJx35411, TJx35411, 4)) dX11_hearTable_85 kJx35411_next_0502b ⟨(z_w 1775 ((lwg_8 50).trans (by decide +kernel)) (by decide +kernel)), (z_w 1778 ((lwg_8 53).trans (by decide +kernel)) (by decide +kernel)), inJx35411_next_0502b, ⟨by decide, by decide⟩, rfl, fun U h => h.2.2.1⟩ git rfl (cl_next hl w7 58 it622 (51 + i613) _ (k) _ _ _ (hm.tb (t := i613) (by omega)) ⟨_, git⟩ hq627 hita622 hitb622 (by omega)) (Nat.le_of_ble_eq_true rfl) ⟨(by show _ ≤ 42; omega), (by show _ ≤ 631; omega)⟩ rfl (Nat.le_of_ble_eq_true rfl) rfl ?_
                    rintro _ w9 ⟨rfl, fw9, la9, git9⟩
                    have g9_x1 := fw9.g (Or.inr (by omega)) gx
                    have fm9 := fw9.fm (q := 59) (by omega)
                    have h9 := hm.gar fw9 (by omega)
                    have ke9 := z_ke h9 hke rfl
                    refine j_castS dX11_hearTable_90 (z_w 1663 ((lwg_7 178).trans (by decide +kernel)) (by decide +kernel)) (z_isA ((h9.pr (t := i613) (by omega)).1 p627 hp627).2) ?_
                    refine j_astore (lo' := [(6, _), (0, _), (1, _), (2, _), (3, _), (4, _), (5, _)]) dX11_hearTable_93 rfl (by decide) rfl ?_
                    refine j_aload_n dX11_hearTable_95 rfl rfl ?_
                    refine j_iconst (v := 1) dX11_hearTable_96 (by decide) ?_
                    refine j_dup2 dX11_hearTable_97 rfl rfl ?_
                    refine j_ld dX11_hearTable_98 g9_x1 (vp_in_nI (n := 1) (by decide) (by decide)) ?_
                    refine j_iconst (v := 1) dX11_hearTable_99 (by decide) ?_
                    refine j_iadd dX11_hearTable_100 ?_
                    refine j_sto (w' := _) dX11_hearTable_101 g9_x1 (vp_in_nI (n := 1) (by decide) (by decide)) rfl ?_
                    refine j_seal hx1a ?_
                    intro w10 u10
                    have fw10 := u10.fw hx1a hx1b
                    have g10_it622 := (u10.2.1 it622 (Ne.symm n_x1_it622)).trans git9
                    have g10_x1 := u10.1
                    have h10 := h9.gar fw10 (by omega)
                    have ke10 := z_ke h10 ke9 rfl
                    refine j_aload_n dX11_hearTable_102 rfl rfl ?_
                    refine j_iconst (v := 2) dX11_hearTable_103 (by decide) ?_
                    refine j_dup2 dX11_hearTable_104 rfl rfl ?_
                    refine j_ld dX11_hearTable_105 g10_x1 (vp_in_nI (n := 2) (by decide) (by decide)) ?_
                    refine j_iconst (v := 1) dX11_hearTable_106 (by decide) ?_
                    refine j_iadd dX11_hearTable_107 ?_
                    refine j_sto (w' := _) dX11_hearTable_108 g10_x1 (vp_in_nI (n := 2) (by decide) (by decide)) rfl ?_
                    refine j_seal hx1a ?_
                    intro w11 u11
                    have fw11 := u11.fw hx1a hx1b
                    have g11_it622 := (u11.2.1 it622 (Ne.symm n_x1_it622)).trans g10_it622
                    have g11_x1 := u11.1
                    have h11 := h10.gar fw11 (by omega)
                    have ke11 := z_ke h11 ke10 rfl
                    refine j_aload_n dX11_hearTable_109 rfl rfl ?_
                    refine j_getf dX11_hearTable_110 fX11_40 h11.m rfl ?_
                    refine j_iload_n dX11_hearTable_113 rfl ?_
                    obtain ⟨fz633, gz633, hz633⟩ := h11.hs
                    refine j_aald (v := .ref (1009 + i614)) dX11_hearTable_114 gz633 rfl rfl (vp_in_nI (by omega) (by omega)) (by rw [z_cla (by omega)]; exact hz633 _ (by omega)) ?_
                    refine j_sipush (v := 1000) dX11_hearTable_115 (by decide) ?_
                    refine j_aload dX11_hearTable_118 rfl rfl ?_
                    refine j_iconst (v := 0) dX11_hearTable_120 (by decide) ?_
                    refine j_ld dX11_hearTable_121 ((h11.pr (t := i613) (by omega)).1 p627 hp627).2 (vp_in_nI (n := 0) (by decide) (by decide)) ?_
                    refine j_imul dX11_hearTable_122 ?_
                    refine j_aload dX11_hearTable_123 rfl rfl ?_
                    refine j_iconst (v := 1) dX11_hearTable_125 (by decide) ?_
                    refine j_ld dX11_hearTable_126 ((h11.pr (t := i613) (by omega)).1 p627 hp627).2 (vp_in_nI (n := 1) (by decide) (by decide)) ?_
                    refine j_iadd dX11_hearTable_127 ?_
                    refine j_callVN (q := (RX10, TX10, 5)) dX11_hearTable_128 kX10_refuses lX11_102 inX10_refuses seX10_refuses (h11.hd (i := i614) (by omega)) rfl (cm_refuses hl w11 _ (i614) _ h11 (by omega)) (Nat.le_of_ble_eq_true rfl) ⟨(by show _ ≤ 42; omega), (by show _ ≤ 631; omega)⟩ rfl (Nat.le_of_ble_eq_true rfl) rfl rfl (fun _ _ h => h.elim) ?_
                    rintro _ w12 (⟨rfl, hst12, hw12⟩ | ⟨rfl, hst12, s12, fm12, h12, hk12, hx12, hh12, hr12, ho12⟩)
                    · refine j_w w11 hw12 ?_
                      refine j_if_eq (tgt := 139) dX11_hearTable_131 (by decide) (fun c_131_181 => ?_) (fun c_131_181 => ?_)
                      · exact absurd c_131_181 (by decide)
                      · refine j_aload_n dX11_hearTable_134 rfl rfl ?_
                        refine j_callV (q := (RX11, TX11, 8)) dX11_hearTable_135 kX11_nine lX11_105 inX11_nine seX11_nine h11.m rfl (cm_nine hl w11 _ h11) (Nat.le_of_ble_eq_true rfl) ⟨(by show _ ≤ 42; omega), (by show _ ≤ 631; omega)⟩ rfl (Nat.le_of_ble_eq_true rfl) rfl rfl (fun _ _ h => h.elim) ?_
                        rintro _ w13 ⟨rfl, fm13, h13⟩
                        have g13_it622 := fm13.g hita622 (by rw [hitb622]; decide) g11_it622
                        have g13_x1 := fm13.g hx1a (by rw [hx1b]; decide) g11_x1
                        have ke13 := z_ke h13 ke11 rfl
                        refine j_iret dX11_hearTable_138 rfl rfl ?_ (by show _ ≤ 42; omega) (by show _ ≤ 631; omega)
                        exact ⟨_, _, rfl, ((((hfm.tr fm9).tr (fw10.fm (q := 59) (by omega))).tr (fw11.fm (q := 59) (by omega))).tr (fm13.le (q' := 59) (by decide))), h13, ke13⟩
                    · have g12_it622 := fm12.g hita622 (by rw [hitb622]; decide) g11_it622
                      have g12_x1 := fm12.g hx1a (by rw [hx1b]; decide) g11_x1
                      have ke12 := z_ke h12 ke11 hk12
                      refine j_if_eq (tgt := 139) dX11_hearTable_131 (by decide) (fun c_131_194 => ?_) (fun c_131_194 => ?_)
                      · refine j_iinc (lo' := [(4, _), (6, _), (0, _), (1, _), (2, _), (3, _), (5, _)]) dX11_hearTable_139 rfl rfl (by decide) rfl ?_
                        refine j_goto (tgt := 73) dX11_hearTable_142 (by decide) ?_
                        refine j_widen (kc' := (2 + 2 * (k + 1))) (ks' := (11 + 31 * (k + 1))) (by omega) (by omega) ?_
                        exact j_lo2 (ih w12 _ (k + 1) _ _ _ (by omega) (by omega) h12 ((((hfm.tr fm9).tr (fw10.fm (q := 59) (by omega))).tr (fw11.fm (q := 59) (by omega))).tr (fm12.le (q' := 59) (by decide))) ke12 (by rw [show z_qp s12 = z_qp s1 from hx12.2.2.2.2.2.1]; omega) (by rw [show z_qp s12 = z_qp s1 from hx12.2.2.2.2.2.1]; exact g12_it622) g12_x1) (z_q1 rfl (z_q1 rfl (z_q1 rfl (z_q1 rfl (z_q1 rfl (z_q1 rfl z_q0))))))
                      · exact absurd c_131_194 (by decide)
              refine j_widen (kc' := (2 + 2 * 0)) (ks' := (11 + 31 * 0)) (by omega) (by omega) ?_
              exact j_lo2 (loop73 21 w6 _ 0 _ _ _ (by omega) (by omega) h6 ((((fm3.le (q' := 59) (by decide)).tr (fw4.fm (q := 59) (by omega))).tr (fw5.fm (q := 59) (by omega))).tr fm6) ke6 (Nat.zero_le _) git622 g6_x1) (z_q1 rfl (z_q1 rfl (z_q1 rfl (z_q1 rfl (z_q1 rfl (z_q1 rfl z_q0))))))
            · have hb30 : i613 = 0 := nI_inj (a := i613) (b := 0) c_30_49 (by omega) (by omega)
              refine j_aload_n dX11_hearTable_33 rfl rfl ?_
              refine j_getf dX11_hearTable_34 fX11_31 h3.m rfl ?_
              refine j_iconst (v := 2) dX11_hearTable_37 (by decide) ?_
              obtain ⟨fz636, gz636, hz636⟩ := h3.co
              refine j_aald (v := .ref (1004 + 2)) dX11_hearTable_38 gz636 rfl rfl (vp_in_nI (n := 2) (by decide) (by decide)) (by rw [show (2 : Int32).toNatClampNeg = 2 by decide]; exact hz636 _ (by decide)) ?_
              refine j_goto (tgt := 46) dX11_hearTable_39 (by decide) ?_
              refine j_astore_n (lo' := [(3, _), (0, _), (1, _), (2, _)]) dX11_hearTable_46 rfl (by decide) rfl ?_
              refine j_aload_n dX11_hearTable_47 rfl rfl ?_
              refine j_iconst (v := 0) dX11_hearTable_48 (by decide) ?_
              refine j_dup2 dX11_hearTable_49 rfl rfl ?_
              refine j_ld dX11_hearTable_50 (h3.cn (i := 2) (by decide)) (vp_in_nI (n := 0) (by decide) (by decide)) ?_
              refine j_iconst (v := 1) dX11_hearTable_51 (by decide) ?_
              refine j_iadd dX11_hearTable_52 ?_
              refine j_sto (w' := _) dX11_hearTable_53 (h3.cn (i := 2) (by decide)) (vp_in_nI (n := 0) (by decide) (by decide)) rfl ?_
              refine j_seal (by omega) ?_
              intro w14 u14
              have fw14 := u14.fw (ρ := 44 + 2) (by omega) (by omega)
              have h14 := h3.up44 (i0 := 2) (by decide) fw14 u14.1
              have ke14 := z_ke h14 ke3 rfl
              refine j_iconst (v := 0) dX11_hearTable_54 (by decide) ?_
              refine j_istore (lo' := [(4, _), (3, _), (0, _), (1, _), (2, _)]) dX11_hearTable_55 (by decide) rfl ?_
              refine j_aload_n dX11_hearTable_57 rfl rfl ?_
              refine j_getf dX11_hearTable_58 fX11_34 h14.m rfl ?_
              refine j_iload_n dX11_hearTable_61 rfl ?_
              obtain ⟨lv640, -, lg640⟩ := z_li.cell h14.tabs
              refine j_callV (q := (RJx4a65c, TJx4a65c, 3)) dX11_hearTable_62 kJx4a65c_get_915e3 lX11_82 inJx4a65c_get_915e3 seJx4a65c_get_915e3 lg640 rfl (cl_get hl w14 47 1007 _ _ (i613) _ h14.tabs (z_thr3 (t := i613) (by omega))) (Nat.le_of_ble_eq_true rfl) ⟨(by show _ ≤ 42; omega), (by show _ ≤ 631; omega)⟩ rfl (Nat.le_of_ble_eq_true rfl) rfl rfl (fun _ _ h => h.elim) ?_
              rintro _ _ ⟨rfl, hw641⟩
              refine j_w w14 hw641 ?_
              refine j_castS dX11_hearTable_65 (z_w 1341 ((lwg_6 96).trans (by decide +kernel)) (by decide +kernel)) (z_li.is (h14.tb (t := i613) (by omega))) ?_
              obtain ⟨lv644, -, lg644⟩ := z_li.cell (h14.tb (t := i613) (by omega))
              refine j_callV (q := (RJx4a65c, TJx4a65c, 3)) dX11_hearTable_68 kJx4a65c_iterator_32c93 lX11_162 inJx4a65c_iterator_32c93 seJx4a65c_iterator_32c93 lg644 rfl (cl_iter hl w14 58 (51 + i613) _ _ _ (h14.tb (t := i613) (by omega)) (by decide) (by omega) h14.fn) (Nat.le_of_ble_eq_true rfl) ⟨(by show _ ≤ 42; omega), (by show _ ≤ 631; omega)⟩ rfl (Nat.le_of_ble_eq_true rfl) rfl rfl (fun _ _ h => h.elim) ?_
              rintro _ w15 ⟨it643, rfl, fw15, hita643, hitb643, hitc643, la643, git643⟩
              have hita643 : 1000 ≤ it643 := hita643
              have hitb643 : it643 % 64 = 58 := hitb643
              have fm15 := fw15.fm (q := 59) (by omega)
              have h15 := h14.gar fw15 (by omega)
              have ke15 := z_ke h15 ke14 rfl
              refine j_astore (lo' := [(5, _), (4, _), (3, _), (0, _), (1, _), (2, _)]) dX11_hearTable_71 rfl (by decide) rfl ?_
              have loop73 : ∀ (n9 : Nat) (w16 : z_W) (s1 : z_Z) (k : Nat) (m la : Int32), (k ≤ 20) → (20 < k + n9) → (z_mst w16 s1) → (z_fm 59 w w16) → (z_key s1 = z_key s) → (k ≤ (z_qp s1 i613).2.length) → (z_g w16 it643 = some (.inr (3, [.int (nI k), .int la, .int (z_qp s1 i613).1, .ref (1011 + i613)]))) → z_J G l mX11_hearTable (22, 42, 631, w, (fun v w9 => ∃ (r : Int32) (s9 : z_Z), v = some (.int r) ∧ z_fm 59 w w9 ∧ z_mst w9 s9 ∧ z_key s9 = z_key s), (fun _ _ => False)) 73 [(0, .ref 1000), (1, .int (nI i613)), (2, .int (nI i614)), (3, .ref (1004 + 2)), (4, .int m), (5, .ref it643)] [] w16 (2 + 2 * k) (11 + 31 * k) := by
                intro n9
                induction n9 with
                | zero => intro w16 s1 k m la hj hf9 hm hfm hke hkl git; exact absurd hf9 (by omega)
                | succ n9 ih =>
                  intro w16 s1 k m la hj hf9 hm hfm hke hkl git
                  refine j_aload dX11_hearTable_73 rfl rfl ?_
                  refine j_callF (x := ⟨"java/util/Iterator", "hasNext", "()Z"⟩) (q := (RJx35411, TJx35411, 4)) dX11_hearTable_75 kJx35411_hasNext_aae02 ⟨(z_w 1765 ((lwg_8 40).trans (by decide +kernel)) (by decide +kernel)), (z_w 1769 ((lwg_8 44).trans (by decide +kernel)) (by decide +kernel)), inJx35411_hasNext_aae02, ⟨by decide, by decide⟩, rfl, fun U h => h.2.1⟩ git rfl (cl_hasN hl w16 _ (51 + i613) _ (k) _ _ (hm.tb (t := i613) (by omega)) ⟨_, git⟩ (by rw [z_rs_len]; omega)) (Nat.le_of_ble_eq_true rfl) ⟨(by show _ ≤ 42; omega), (by show _ ≤ 631; omega)⟩ rfl (Nat.le_of_ble_eq_true rfl) rfl ?_
                  rintro _ _ ⟨⟨x645, rfl, hz645, hp645⟩, hw645⟩
                  refine j_w w16 hw645 ?_
                  refine j_if_eq (tgt := 145) dX11_hearTable_80 (by decide) (fun c_80_251 => ?_) (fun c_80_251 => ?_)
                  · have hk80 : k = (z_qp s1 (i613)).2.length := (z_rs_len ▸ hz645 c_80_251)
                    refine j_aload_n dX11_hearTable_145 rfl rfl ?_
                    refine j_iconst (v := 1) dX11_hearTable_146 (by decide) ?_
                    refine j_dup2 dX11_hearTable_147 rfl rfl ?_
                    refine j_ld dX11_hearTable_148 (hm.cn (i := 2) (by decide)) (vp_in_nI (n := 1) (by decide) (by decide)) ?_
                    refine j_iconst (v := 1) dX11_hearTable_149 (by decide) ?_
                    refine j_iadd dX11_hearTable_150 ?_
                    refine j_sto (w' := _) dX11_hearTable_151 (hm.cn (i := 2) (by decide)) (vp_in_nI (n := 1) (by decide) (by decide)) rfl ?_
                    refine j_seal (by omega) ?_
                    intro w17 u17
                    have fw17 := u17.fw (ρ := 44 + 2) (by omega) (by omega)
                    have g17_it643 := (fun z => (u17.2.1 it643 (fun z9 => by have h9 := hitb643; rw [z9] at h9; omega)).trans z) git
                    have h17 := hm.up44 (i0 := 2) (by decide) fw17 u17.1
                    have ke17 := z_ke h17 hke rfl
                    refine j_iload dX11_hearTable_152 rfl ?_
                    refine j_iret dX11_hearTable_154 rfl rfl ?_ (by show _ ≤ 42; omega) (by show _ ≤ 631; omega)
                    exact ⟨_, _, rfl, (hfm.tr (fw17.fm (q := 59) (by omega))), h17, ke17⟩
                  · have hk80 : k < (z_qp s1 (i613)).2.length := (z_rs_len ▸ hp645 c_80_251)
                    have hzk80 : (z_qp s1 (i613)).2.length ≤ 20 := (hm.pr (t := i613) (by omega)).len
                    refine j_aload dX11_hearTable_83 rfl rfl ?_
                    obtain ⟨p648, hp648, hq648, hk648⟩ := z_rs_ex (P := (z_qp s1 (i613)).2) (k := k) (by omega)
                    refine j_callF (x := ⟨"java/util/Iterator", "next", "()Ljava/lang/Object;"⟩) (q := (RJx35411, TJx35411, 4)) dX11_hearTable_85 kJx35411_next_0502b ⟨(z_w 1775 ((lwg_8 50).trans (by decide +kernel)) (by decide +kernel)), (z_w 1778 ((lwg_8 53).trans (by decide +kernel)) (by decide +kernel)), inJx35411_next_0502b, ⟨by decide, by decide⟩, rfl, fun U h => h.2.2.1⟩ git rfl (cl_next hl w16 58 it643 (51 + i613) _ (k) _ _ _ (hm.tb (t := i613) (by omega)) ⟨_, git⟩ hq648 hita643 hitb643 (by omega)) (Nat.le_of_ble_eq_true rfl) ⟨(by show _ ≤ 42; omega), (by show _ ≤ 631; omega)⟩ rfl (Nat.le_of_ble_eq_true rfl) rfl ?_
                    rintro _ w18 ⟨rfl, fw18, la18, git18⟩
                    have fm18 := fw18.fm (q := 59) (by omega)
                    have h18 := hm.gar fw18 (by omega)
                    have ke18 := z_ke h18 hke rfl
                    refine j_castS dX11_hearTable_90 (z_w 1663 ((lwg_7 178).trans (by decide +kernel)) (by decide +kernel)) (z_isA ((h18.pr (t := i613) (by omega)).1 p648 hp648).2) ?_
                    refine j_astore (lo' := [(6, _), (0, _), (1, _), (2, _), (3, _), (4, _), (5, _)]) dX11_hearTable_93 rfl (by decide) rfl ?_
                    refine j_aload_n dX11_hearTable_95 rfl rfl ?_
                    refine j_iconst (v := 1) dX11_hearTable_96 (by decide) ?_
                    refine j_dup2 dX11_hearTable_97 rfl rfl ?_
                    refine j_ld dX11_hearTable_98 (h18.cn (i := 2) (by decide)) (vp_in_nI (n := 1) (by decide) (by decide)) ?_
                    refine j_iconst (v := 1) dX11_hearTable_99 (by decide) ?_
                    refine j_iadd dX11_hearTable_100 ?_
                    refine j_sto (w' := _) dX11_hearTable_101 (h18.cn (i := 2) (by decide)) (vp_in_nI (n := 1) (by decide) (by decide)) rfl ?_
                    refine j_seal (by omega) ?_
                    intro w19 u19
                    have fw19 := u19.fw (ρ := 44 + 2) (by omega) (by omega)
                    have g19_it643 := (fun z => (u19.2.1 it643 (fun z9 => by have h9 := hitb643; rw [z9] at h9; omega)).trans z) git18
                    have h19 := h18.up44 (i0 := 2) (by decide) fw19 u19.1
                    have ke19 := z_ke h19 ke18 rfl
                    refine j_aload_n dX11_hearTable_102 rfl rfl ?_
                    refine j_iconst (v := 2) dX11_hearTable_103 (by decide) ?_
                    refine j_dup2 dX11_hearTable_104 rfl rfl ?_
                    refine j_ld dX11_hearTable_105 (h19.cn (i := 2) (by decide)) (vp_in_nI (n := 2) (by decide) (by decide)) ?_
                    refine j_iconst (v := 1) dX11_hearTable_106 (by decide) ?_
                    refine j_iadd dX11_hearTable_107 ?_
                    refine j_sto (w' := _) dX11_hearTable_108 (h19.cn (i := 2) (by decide)) (vp_in_nI (n := 2) (by decide) (by decide)) rfl ?_
                    refine j_seal (by omega) ?_
                    intro w20 u20
                    have fw20 := u20.fw (ρ := 44 + 2) (by omega) (by omega)
                    have g20_it643 := (fun z => (u20.2.1 it643 (fun z9 => by have h9 := hitb643; rw [z9] at h9; omega)).trans z) g19_it643
                    have h20 := h19.up44 (i0 := 2) (by decide) fw20 u20.1
                    have ke20 := z_ke h20 ke19 rfl
                    refine j_aload_n dX11_hearTable_109 rfl rfl ?_
                    refine j_getf dX11_hearTable_110 fX11_40 h20.m rfl ?_
                    refine j_iload_n dX11_hearTable_113 rfl ?_
                    obtain ⟨fz654, gz654, hz654⟩ := h20.hs
                    refine j_aald (v := .ref (1009 + i614)) dX11_hearTable_114 gz654 rfl rfl (vp_in_nI (by omega) (by omega)) (by rw [z_cla (by omega)]; exact hz654 _ (by omega)) ?_
                    refine j_sipush (v := 1000) dX11_hearTable_115 (by decide) ?_
                    refine j_aload dX11_hearTable_118 rfl rfl ?_
                    refine j_iconst (v := 0) dX11_hearTable_120 (by decide) ?_
                    refine j_ld dX11_hearTable_121 ((h20.pr (t := i613) (by omega)).1 p648 hp648).2 (vp_in_nI (n := 0) (by decide) (by decide)) ?_
                    refine j_imul dX11_hearTable_122 ?_
                    refine j_aload dX11_hearTable_123 rfl rfl ?_
                    refine j_iconst (v := 1) dX11_hearTable_125 (by decide) ?_
                    refine j_ld dX11_hearTable_126 ((h20.pr (t := i613) (by omega)).1 p648 hp648).2 (vp_in_nI (n := 1) (by decide) (by decide)) ?_
                    refine j_iadd dX11_hearTable_127 ?_
                    refine j_callVN (q := (RX10, TX10, 5)) dX11_hearTable_128 kX10_refuses lX11_102 inX10_refuses seX10_refuses (h20.hd (i := i614) (by omega)) rfl (cm_refuses hl w20 _ (i614) _ h20 (by omega)) (Nat.le_of_ble_eq_true rfl) ⟨(by show _ ≤ 42; omega), (by show _ ≤ 631; omega)⟩ rfl (Nat.le_of_ble_eq_true rfl) rfl rfl (fun _ _ h => h.elim) ?_
                    rintro _ w21 (⟨rfl, hst21, hw21⟩ | ⟨rfl, hst21, s21, fm21, h21, hk21, hx21, hh21, hr21, ho21⟩)
                    · refine j_w w20 hw21 ?_
                      refine j_if_eq (tgt := 139) dX11_hearTable_131 (by decide) (fun c_131_323 => ?_) (fun c_131_323 => ?_)
                      · exact absurd c_131_323 (by decide)
                      · refine j_aload_n dX11_hearTable_134 rfl rfl ?_
                        refine j_callV (q := (RX11, TX11, 8)) dX11_hearTable_135 kX11_nine lX11_105 inX11_nine seX11_nine h20.m rfl (cm_nine hl w20 _ h20) (Nat.le_of_ble_eq_true rfl) ⟨(by show _ ≤ 42; omega), (by show _ ≤ 631; omega)⟩ rfl (Nat.le_of_ble_eq_true rfl) rfl rfl (fun _ _ h => h.elim) ?_
                        rintro _ w22 ⟨rfl, fm22, h22⟩
                        have g22_it643 := fm22.g hita643 (by rw [hitb643]; decide) g20_it643
                        have ke22 := z_ke h22 ke20 rfl
                        refine j_iret dX11_hearTable_138 rfl rfl ?_ (by show _ ≤ 42; omega) (by show _ ≤ 631; omega)
                        exact ⟨_, _, rfl, ((((hfm.tr fm18).tr (fw19.fm (q := 59) (by omega))).tr (fw20.fm (q := 59) (by omega))).tr (fm22.le (q' := 59) (by decide))), h22, ke22⟩
                    · have g21_it643 := fm21.g hita643 (by rw [hitb643]; decide) g20_it643
                      have ke21 := z_ke h21 ke20 hk21
                      refine j_if_eq (tgt := 139) dX11_hearTable_131 (by decide) (fun c_131_334 => ?_) (fun c_131_334 => ?_)
                      · refine j_iinc (lo' := [(4, _), (6, _), (0, _), (1, _), (2, _), (3, _), (5, _)]) dX11_hearTable_139 rfl rfl (by decide) rfl ?_
                        refine j_goto (tgt := 73) dX11_hearTable_142 (by decide) ?_
                        refine j_widen (kc' := (2 + 2 * (k + 1))) (ks' := (11 + 31 * (k + 1))) (by omega) (by omega) ?_
                        exact j_lo2 (ih w21 _ (k + 1) _ _ (by omega) (by omega) h21 ((((hfm.tr fm18).tr (fw19.fm (q := 59) (by omega))).tr (fw20.fm (q := 59) (by omega))).tr (fm21.le (q' := 59) (by decide))) ke21 (by rw [show z_qp s21 = z_qp s1 from hx21.2.2.2.2.2.1]; omega) (by rw [show z_qp s21 = z_qp s1 from hx21.2.2.2.2.2.1]; exact g21_it643)) (z_q1 rfl (z_q1 rfl (z_q1 rfl (z_q1 rfl (z_q1 rfl (z_q1 rfl z_q0))))))
                      · exact absurd c_131_334 (by decide)
              refine j_widen (kc' := (2 + 2 * 0)) (ks' := (11 + 31 * 0)) (by omega) (by omega) ?_
              exact j_lo2 (loop73 21 w15 _ 0 _ _ (by omega) (by omega) h15 (((fm3.le (q' := 59) (by decide)).tr (fw14.fm (q := 59) (by omega))).tr fm15) ke15 (Nat.zero_le _) git643) (z_q1 rfl (z_q1 rfl (z_q1 rfl (z_q1 rfl (z_q1 rfl (z_q1 rfl z_q0))))))
          · exact absurd c_24_47 (by decide)
        · exact absurd c_12_41 (by decide)
set_option maxRecDepth 100000 in
set_option maxHeartbeats 8000000 in
theorem cm_replaceTable (hl : l.stackTraces = false) (w : z_W) (s : z_Z) (x y z : Int32) (h : z_mst w s)  : z_Con G l mX11_replaceTable 22 2 11 w [.ref 1000, .int x, .int y, .int z] (fun v w9 => ∃ (r : Int32) (s9 : z_Z), v = some (.int r) ∧ z_fm 59 w w9 ∧ z_mst w9 s9 ∧ z_key s9 = z_key s) (fun _ _ => False) := by
  have ke0 : z_key s = z_key s := rfl
  refine z_body hl (by decide) rfl (Nat.le_of_ble_eq_true rfl) ?_
  show z_J G l mX11_replaceTable _ 0 [(0, _), (1, _), (2, _), (3, _)] [] _ 0 0
  refine j_aload_n dX11_replaceTable_0 rfl rfl ?_
  refine j_iload_n dX11_replaceTable_1 rfl ?_
  refine j_callS dX11_replaceTable_2 kX11_isNoTable lX11_136 stX11_isNoTable (cm_isNoTable hl w _) (Nat.le_of_ble_eq_true rfl) ⟨(by show _ ≤ 2; omega), (by show _ ≤ 11; omega)⟩ rfl (Nat.le_of_ble_eq_true rfl) rfl rfl (fun _ _ h => h.elim) ?_
  rintro _ _ ⟨⟨rfl, hno657⟩ | ⟨rfl, i657, hi657, rfl⟩, hw657⟩
  · refine j_w w hw657 ?_
    refine j_iconst (v := 1) dX11_replaceTable_5 (by decide) ?_
    refine j_callV (q := (RX11, TX11, 8)) dX11_replaceTable_6 kX11_start lX11_76 inX11_start seX11_start h.m rfl (cm_start1 hl w _ _ h (by decide)) (Nat.le_of_ble_eq_true rfl) ⟨(by show _ ≤ 2; omega), (by show _ ≤ 11; omega)⟩ rfl (Nat.le_of_ble_eq_true rfl) rfl rfl (fun _ _ h => h.elim) ?_
    rintro _ w1 ⟨rfl, fm1, h1⟩
    have ke1 := z_ke h1 ke0 rfl
    refine j_if_ne (tgt := 51) dX11_replaceTable_9 (by decide) (fun c_9_11 => ?_) (fun c_9_11 => ?_)
    · refine j_iconst (v := 0) dX11_replaceTable_51 (by decide) ?_
      refine j_iret dX11_replaceTable_52 rfl rfl ?_ (by show _ ≤ 2; omega) (by show _ ≤ 11; omega)
      exact ⟨_, _, rfl, (fm1.le (q' := 59) (by decide)), h1, ke1⟩
    · exact absurd c_9_11 (by decide)
  · refine j_w w hw657 ?_
    refine j_iconst (v := 1) dX11_replaceTable_5 (by decide) ?_
    refine j_callV (q := (RX11, TX11, 8)) dX11_replaceTable_6 kX11_start lX11_76 inX11_start seX11_start h.m rfl (cm_start0 hl w _ _ h) (Nat.le_of_ble_eq_true rfl) ⟨(by show _ ≤ 2; omega), (by show _ ≤ 11; omega)⟩ rfl (Nat.le_of_ble_eq_true rfl) rfl rfl (fun _ _ h => h.elim) ?_
    rintro _ w2 ⟨rfl, fm2, h2⟩
    have ke2 := z_ke h2 ke0 rfl
    refine j_if_ne (tgt := 51) dX11_replaceTable_9 (by decide) (fun c_9_21 => ?_) (fun c_9_21 => ?_)
    · exact absurd c_9_21 (by decide)
    · refine j_aload_n dX11_replaceTable_12 rfl rfl ?_
      refine j_iload_n dX11_replaceTable_13 rfl ?_
      refine j_if_eq (tgt := 32) dX11_replaceTable_14 (by decide) (fun c_14_25 => ?_) (fun c_14_25 => ?_)
      · refine j_iload_n dX11_replaceTable_32 rfl ?_
        refine j_callS dX11_replaceTable_33 kX11_isNoValue lX11_79 stX11_isNoValue (cm_isNoValue hl w2 _) (Nat.le_of_ble_eq_true rfl) ⟨(by show _ ≤ 2; omega), (by show _ ≤ 11; omega)⟩ rfl (Nat.le_of_ble_eq_true rfl) rfl rfl (fun _ _ h => h.elim) ?_
        rintro _ _ ⟨⟨rfl, hno658⟩ | ⟨rfl, hye658⟩, hw658⟩
        · refine j_w w2 hw658 ?_
          refine j_if_eq (tgt := 43) dX11_replaceTable_36 (by decide) (fun c_36_30 => ?_) (fun c_36_30 => ?_)
          · exact absurd c_36_30 (by decide)
          · refine j_iconst (v := 1) dX11_replaceTable_39 (by decide) ?_
            refine j_goto (tgt := 44) dX11_replaceTable_40 (by decide) ?_
            refine j_iconst (v := 2) dX11_replaceTable_44 (by decide) ?_
            refine j_callV (q := (RX11, TX11, 8)) dX11_replaceTable_45 kX11_refuse lX11_52 inX11_refuse seX11_refuse h2.m rfl (cm_refuse1 hl w2 _ _ h2 rfl (by decide)) (Nat.le_of_ble_eq_true rfl) ⟨(by show _ ≤ 2; omega), (by show _ ≤ 11; omega)⟩ rfl (Nat.le_of_ble_eq_true rfl) rfl rfl (fun _ _ h => h.elim) ?_
            rintro _ w3 ⟨rfl, fm3, h3⟩
            have ke3 := z_ke h3 ke2 rfl
            refine j_if_eq (tgt := 53) dX11_replaceTable_48 (by decide) (fun c_48_38 => ?_) (fun c_48_38 => ?_)
            · exact absurd c_48_38 (by decide)
            · refine j_iconst (v := 0) dX11_replaceTable_51 (by decide) ?_
              refine j_iret dX11_replaceTable_52 rfl rfl ?_ (by show _ ≤ 2; omega) (by show _ ≤ 11; omega)
              exact ⟨_, _, rfl, ((fm2.le (q' := 59) (by decide)).tr (fm3.le (q' := 59) (by decide))), h3, ke3⟩
        · refine j_w w2 hw658 ?_
          refine j_if_eq (tgt := 43) dX11_replaceTable_36 (by decide) (fun c_36_44 => ?_) (fun c_36_44 => ?_)
          · refine j_iconst (v := 0) dX11_replaceTable_43 (by decide) ?_
            refine j_iconst (v := 2) dX11_replaceTable_44 (by decide) ?_
            refine j_callV (q := (RX11, TX11, 8)) dX11_replaceTable_45 kX11_refuse lX11_52 inX11_refuse seX11_refuse h2.m rfl (cm_refuse0 hl w2 _ _ h2 rfl) (Nat.le_of_ble_eq_true rfl) ⟨(by show _ ≤ 2; omega), (by show _ ≤ 11; omega)⟩ rfl (Nat.le_of_ble_eq_true rfl) rfl rfl (fun _ _ h => h.elim) ?_
            rintro _ _ ⟨rfl, hw659⟩
            refine j_w w2 hw659 ?_
            refine j_if_eq (tgt := 53) dX11_replaceTable_48 (by decide) (fun c_48_50 => ?_) (fun c_48_50 => ?_)
            · refine j_iload_n dX11_replaceTable_53 rfl ?_
              refine j_if_ne (tgt := 66) dX11_replaceTable_54 (by decide) (fun c_54_52 => ?_) (fun c_54_52 => ?_)
              · have hb54 : ¬ i657 = 0 := fun z => c_54_52 (show nI i657 = nI 0 by rw [z])
                refine j_bipush (v := 7) dX11_replaceTable_66 (by decide) ?_
                obtain ⟨x1, hx1a, hx1b, hx1c⟩ := z_fresh (57) (by decide) h2.fn
                refine j_newa (kd := 0) (N := 7) (w' := _) (n := x1) dX11_replaceTable_68 rfl rfl arc_int ⟨rfl, fun _ _ h => h⟩ (by decide) rfl (by decide) rfl (z_alW hx1c hx1a) (Nat.le_of_ble_eq_true rfl) (Nat.le_of_ble_eq_true rfl) ?_
                refine j_seal hx1a ?_
                intro w4 u4
                have fw4 := u4.fw hx1a hx1b
                have g4_x1 := u4.1
                have h4 := h2.gar fw4 (by omega)
                have ke4 := z_ke h4 ke2 rfl
                refine j_astore (lo' := [(4, _), (0, _), (1, _), (2, _), (3, _)]) dX11_replaceTable_70 rfl (by decide) rfl ?_
                refine j_aload dX11_replaceTable_72 rfl rfl ?_
                refine j_iconst (v := 0) dX11_replaceTable_74 (by decide) ?_
                refine j_dup2 dX11_replaceTable_75 rfl rfl ?_
                refine j_ld dX11_replaceTable_76 g4_x1 (vp_in_nI (n := 0) (by decide) (by decide)) ?_
                refine j_iconst (v := 1) dX11_replaceTable_77 (by decide) ?_
                refine j_iadd dX11_replaceTable_78 ?_
                refine j_sto (w' := _) dX11_replaceTable_79 g4_x1 (vp_in_nI (n := 0) (by decide) (by decide)) rfl ?_
                refine j_seal hx1a ?_
                intro w5 u5
                have fw5 := u5.fw hx1a hx1b
                have g5_x1 := u5.1
                have h5 := h4.gar fw5 (by omega)
                have ke5 := z_ke h5 ke4 rfl
                refine j_aload_n dX11_replaceTable_80 rfl rfl ?_
                refine j_getf dX11_replaceTable_81 fX11_34 h5.m rfl ?_
                refine j_iload_n dX11_replaceTable_84 rfl ?_
                obtain ⟨lv664, -, lg664⟩ := z_li.cell h5.tabs
                refine j_callV (q := (RJx4a65c, TJx4a65c, 3)) dX11_replaceTable_85 kJx4a65c_get_915e3 lX11_82 inJx4a65c_get_915e3 seJx4a65c_get_915e3 lg664 rfl (cl_get hl w5 47 1007 _ _ (i657) _ h5.tabs (z_thr3 (t := i657) (by omega))) (Nat.le_of_ble_eq_true rfl) ⟨(by show _ ≤ 2; omega), (by show _ ≤ 11; omega)⟩ rfl (Nat.le_of_ble_eq_true rfl) rfl rfl (fun _ _ h => h.elim) ?_
                rintro _ _ ⟨rfl, hw665⟩
                refine j_w w5 hw665 ?_
                refine j_castS dX11_replaceTable_88 (z_w 1341 ((lwg_6 96).trans (by decide +kernel)) (by decide +kernel)) (z_li.is (h5.tb (t := i657) (by omega))) ?_
                obtain ⟨lv668, -, lg668⟩ := z_li.cell (h5.tb (t := i657) (by omega))
                refine j_callV (q := (RJx4a65c, TJx4a65c, 3)) dX11_replaceTable_91 kJx4a65c_iterator_32c93 lX11_162 inJx4a65c_iterator_32c93 seJx4a65c_iterator_32c93 lg668 rfl (cl_iter hl w5 58 (51 + i657) _ _ _ (h5.tb (t := i657) (by omega)) (by decide) (by omega) h5.fn) (Nat.le_of_ble_eq_true rfl) ⟨(by show _ ≤ 2; omega), (by show _ ≤ 11; omega)⟩ rfl (Nat.le_of_ble_eq_true rfl) rfl rfl (fun _ _ h => h.elim) ?_
                rintro _ w6 ⟨it667, rfl, fw6, hita667, hitb667, hitc667, la667, git667⟩
                have hita667 : 1000 ≤ it667 := hita667
                have hitb667 : it667 % 64 = 58 := hitb667
                have n_x1_it667 := z_neF hitc667 g5_x1
                have g6_x1 := fw6.g (Or.inr (by omega)) g5_x1
                have fm6 := fw6.fm (q := 59) (by omega)
                have h6 := h5.gar fw6 (by omega)
                have ke6 := z_ke h6 ke5 rfl
                refine j_astore (lo' := [(5, _), (4, _), (0, _), (1, _), (2, _), (3, _)]) dX11_replaceTable_94 rfl (by decide) rfl ?_
                have loop96 : ∀ (n9 : Nat) (w7 : z_W) (s1 : z_Z) (k : Nat) (la : Int32) (F : Nat → Int32), (k ≤ 20) → (20 < k + n9) → (z_mst w7 s1) → (z_fm 59 w w7) → (z_key s1 = z_key s) → (k ≤ (z_qp s1 i657).2.length) → (z_g w7 it667 = some (.inr (3, [.int (nI k), .int la, .int (z_qp s1 i657).1, .ref (1011 + i657)]))) → (z_g w7 x1 = some (.inl (0, 7, fun j => .int (F j)))) → z_J G l mX11_replaceTable (22, 2, 11, w, (fun v w9 => ∃ (r : Int32) (s9 : z_Z), v = some (.int r) ∧ z_fm 59 w w9 ∧ z_mst w9 s9 ∧ z_key s9 = z_key s), (fun _ _ => False)) 96 [(0, .ref 1000), (1, .int (nI i657)), (2, .int y), (3, .int z), (4, .ref x1), (5, .ref it667)] [] w7 2 11 := by
                  intro n9
                  induction n9 with
                  | zero => intro w7 s1 k la F hj hf9 hm hfm hke hkl git gx; exact absurd hf9 (by omega)
                  | succ n9 ih =>
                    intro w7 s1 k la F hj hf9 hm hfm hke hkl git gx
                    refine j_aload dX11_replaceTable_96 rfl rfl ?_
                    refine j_callF (x := ⟨"java/util/Iterator", "hasNext", "()Z"⟩) (q := (RJx35411, TJx35411, 4)) dX11_replaceTable_98 kJx35411_hasNext_aae02 ⟨(z_w 1765 ((lwg_8 40).trans (by decide +kernel)) (by decide +kernel)), (z_w 1769 ((lwg_8 44).trans (by decide +kernel)) (by decide +kernel)), inJx35411_hasNext_aae02, ⟨by decide, by decide⟩, rfl, fun U h => h.2.1⟩ git rfl (cl_hasN hl w7 _ (51 + i657) _ (k) _ _ (hm.tb (t := i657) (by omega)) ⟨_, git⟩ (by rw [z_rs_len]; omega)) (Nat.le_of_ble_eq_true rfl) ⟨(by show _ ≤ 2; omega), (by show _ ≤ 11; omega)⟩ rfl (Nat.le_of_ble_eq_true rfl) rfl ?_
                    rintro _ _ ⟨⟨x669, rfl, hz669, hp669⟩, hw669⟩
                    refine j_w w7 hw669 ?_
                    refine j_if_eq (tgt := 178) dX11_replaceTable_103 (by decide) (fun c_103_106 => ?_) (fun c_103_106 => ?_)
                    · have hk103 : k = (z_qp s1 (i657)).2.length := (z_rs_len ▸ hz669 c_103_106)
                      refine j_aload dX11_replaceTable_178 rfl rfl ?_
                      refine j_iconst (v := 1) dX11_replaceTable_180 (by decide) ?_
                      refine j_dup2 dX11_replaceTable_181 rfl rfl ?_
                      refine j_ld dX11_replaceTable_182 gx (vp_in_nI (n := 1) (by decide) (by decide)) ?_
                      refine j_iconst (v := 1) dX11_replaceTable_183 (by decide) ?_
                      refine j_iadd dX11_replaceTable_184 ?_
                      refine j_sto (w' := _) dX11_replaceTable_185 gx (vp_in_nI (n := 1) (by decide) (by decide)) rfl ?_
                      refine j_seal hx1a ?_
                      intro w8 u8
                      have fw8 := u8.fw hx1a hx1b
                      have g8_it667 := (u8.2.1 it667 (Ne.symm n_x1_it667)).trans git
                      have g8_x1 := u8.1
                      have h8 := hm.gar fw8 (by omega)
                      have ke8 := z_ke h8 hke rfl
                      refine j_aload_n dX11_replaceTable_186 rfl rfl ?_
                      refine j_getf dX11_replaceTable_187 fX11_34 h8.m rfl ?_
                      refine j_iload_n dX11_replaceTable_190 rfl ?_
                      obtain ⟨lv673, -, lg673⟩ := z_li.cell h8.tabs
                      refine j_callV (q := (RJx4a65c, TJx4a65c, 3)) dX11_replaceTable_191 kJx4a65c_get_915e3 lX11_82 inJx4a65c_get_915e3 seJx4a65c_get_915e3 lg673 rfl (cl_get hl w8 47 1007 _ _ (i657) _ h8.tabs (z_thr3 (t := i657) (by omega))) (Nat.le_of_ble_eq_true rfl) ⟨(by show _ ≤ 2; omega), (by show _ ≤ 11; omega)⟩ rfl (Nat.le_of_ble_eq_true rfl) rfl rfl (fun _ _ h => h.elim) ?_
                      rintro _ _ ⟨rfl, hw674⟩
                      refine j_w w8 hw674 ?_
                      refine j_castS dX11_replaceTable_194 (z_w 1341 ((lwg_6 96).trans (by decide +kernel)) (by decide +kernel)) (z_li.is (h8.tb (t := i657) (by omega))) ?_
                      obtain ⟨lv676, -, lg676⟩ := z_li.cell (h8.tb (t := i657) (by omega))
                      refine j_callV (q := (RJx4a65c, TJx4a65c, 3)) dX11_replaceTable_197 kJx4a65c_size_8abf5 lX11_86 inJx4a65c_size_8abf5 seJx4a65c_size_8abf5 lg676 rfl (cl_sizeR hl w8 _ _ _ _ (h8.tb (t := i657) (by omega))) (Nat.le_of_ble_eq_true rfl) ⟨(by show _ ≤ 2; omega), (by show _ ≤ 11; omega)⟩ rfl (Nat.le_of_ble_eq_true rfl) rfl rfl (fun _ _ h => h.elim) ?_
                      rintro _ _ ⟨⟨n677, rfl, hn677⟩, hw677⟩
                      refine j_w w8 hw677 ?_
                      have hn677 : n677 = (z_qp s1 (i657)).2.length := hn677
                      have hz677 : (z_qp s1 (i657)).2.length ≤ 20 := (h8.pr (t := i657) (by omega)).len
                      refine j_iret dX11_replaceTable_200 rfl rfl ?_ (by show _ ≤ 2; omega) (by show _ ≤ 11; omega)
                      exact ⟨_, _, rfl, (hfm.tr (fw8.fm (q := 59) (by omega))), h8, ke8⟩
                    · have hk103 : k < (z_qp s1 (i657)).2.length := (z_rs_len ▸ hp669 c_103_106)
                      have hzk103 : (z_qp s1 (i657)).2.length ≤ 20 := (hm.pr (t := i657) (by omega)).len
                      refine j_aload dX11_replaceTable_106 rfl rfl ?_
                      obtain ⟨p678, hp678, hq678, hk678⟩ := z_rs_ex (P := (z_qp s1 (i657)).2) (k := k) (by omega)
                      refine j_callF (x := ⟨"java/util/Iterator", "next", "()Ljava/lang/Object;"⟩) (q := (RJx35411, TJx35411, 4)) dX11_replaceTable_108 kJx35411_next_0502b ⟨(z_w 1775 ((lwg_8 50).trans (by decide +kernel)) (by decide +kernel)), (z_w 1778 ((lwg_8 53).trans (by decide +kernel)) (by decide +kernel)), inJx35411_next_0502b, ⟨by decide, by decide⟩, rfl, fun U h => h.2.2.1⟩ git rfl (cl_next hl w7 58 it667 (51 + i657) _ (k) _ _ _ (hm.tb (t := i657) (by omega)) ⟨_, git⟩ hq678 hita667 hitb667 (by omega)) (Nat.le_of_ble_eq_true rfl) ⟨(by show _ ≤ 2; omega), (by show _ ≤ 11; omega)⟩ rfl (Nat.le_of_ble_eq_true rfl) rfl ?_
                      rintro _ w9 ⟨rfl, fw9, la9, git9⟩
                      have g9_x1 := fw9.g (Or.inr (by omega)) gx
                      have fm9 := fw9.fm (q := 59) (by omega)
                      have h9 := hm.gar fw9 (by omega)
                      have ke9 := z_ke h9 hke rfl
                      refine j_castS dX11_replaceTable_113 (z_w 1663 ((lwg_7 178).trans (by decide +kernel)) (by decide +kernel)) (z_isA ((h9.pr (t := i657) (by omega)).1 p678 hp678).2) ?_
                      refine j_astore (lo' := [(6, _), (0, _), (1, _), (2, _), (3, _), (4, _), (5, _)]) dX11_replaceTable_116 rfl (by decide) rfl ?_
                      refine j_aload dX11_replaceTable_118 rfl rfl ?_
                      refine j_iconst (v := 1) dX11_replaceTable_120 (by decide) ?_
                      refine j_dup2 dX11_replaceTable_121 rfl rfl ?_
                      refine j_ld dX11_replaceTable_122 g9_x1 (vp_in_nI (n := 1) (by decide) (by decide)) ?_
                      refine j_iconst (v := 1) dX11_replaceTable_123 (by decide) ?_
                      refine j_iadd dX11_replaceTable_124 ?_
                      refine j_sto (w' := _) dX11_replaceTable_125 g9_x1 (vp_in_nI (n := 1) (by decide) (by decide)) rfl ?_
                      refine j_seal hx1a ?_
                      intro w10 u10
                      have fw10 := u10.fw hx1a hx1b
                      have g10_it667 := (u10.2.1 it667 (Ne.symm n_x1_it667)).trans git9
                      have g10_x1 := u10.1
                      have h10 := h9.gar fw10 (by omega)
                      have ke10 := z_ke h10 ke9 rfl
                      refine j_aload dX11_replaceTable_126 rfl rfl ?_
                      refine j_iconst (v := 2) dX11_replaceTable_128 (by decide) ?_
                      refine j_dup2 dX11_replaceTable_129 rfl rfl ?_
                      refine j_ld dX11_replaceTable_130 g10_x1 (vp_in_nI (n := 2) (by decide) (by decide)) ?_
                      refine j_iconst (v := 1) dX11_replaceTable_131 (by decide) ?_
                      refine j_iadd dX11_replaceTable_132 ?_
                      refine j_sto (w' := _) dX11_replaceTable_133 g10_x1 (vp_in_nI (n := 2) (by decide) (by decide)) rfl ?_
                      refine j_seal hx1a ?_
                      intro w11 u11
                      have fw11 := u11.fw hx1a hx1b
                      have g11_it667 := (u11.2.1 it667 (Ne.symm n_x1_it667)).trans g10_it667
                      have g11_x1 := u11.1
                      have h11 := h10.gar fw11 (by omega)
                      have ke11 := z_ke h11 ke10 rfl
                      refine j_iload_n dX11_replaceTable_134 rfl ?_
                      refine j_aload dX11_replaceTable_135 rfl rfl ?_
                      refine j_iconst (v := 0) dX11_replaceTable_137 (by decide) ?_
                      refine j_ld dX11_replaceTable_138 ((h11.pr (t := i657) (by omega)).1 p678 hp678).2 (vp_in_nI (n := 0) (by decide) (by decide)) ?_
                      refine j_aload dX11_replaceTable_139 rfl rfl ?_
                      refine j_iconst (v := 1) dX11_replaceTable_141 (by decide) ?_
                      refine j_ld dX11_replaceTable_142 ((h11.pr (t := i657) (by omega)).1 p678 hp678).2 (vp_in_nI (n := 1) (by decide) (by decide)) ?_
                      refine j_iload_n dX11_replaceTable_143 rfl ?_
                      refine j_callS dX11_replaceTable_144 kX11_rule lX11_115 stX11_rule (cm_rule hl w11 _ _ _ _) (Nat.le_of_ble_eq_true rfl) ⟨(by show _ ≤ 2; omega), (by show _ ≤ 11; omega)⟩ rfl (Nat.le_of_ble_eq_true rfl) rfl rfl (fun _ _ h => h.elim) ?_
                      rintro _ _ ⟨⟨r686, rfl⟩, hw686⟩
                      refine j_w w11 hw686 ?_
                      refine j_istore (lo' := [(7, _), (6, _), (0, _), (1, _), (2, _), (3, _), (4, _), (5, _)]) dX11_replaceTable_147 (by decide) rfl ?_
                      refine j_iload dX11_replaceTable_149 rfl ?_
                      refine j_ldc dX11_replaceTable_151 kcX11_67 ?_
                      refine j_icmp_ne (tgt := 161) dX11_replaceTable_153 (by decide) (fun c_153_192 => ?_) (fun c_153_192 => ?_)
                      · refine j_aload dX11_replaceTable_161 rfl rfl ?_
                        refine j_iconst (v := 1) dX11_replaceTable_163 (by decide) ?_
                        refine j_iload dX11_replaceTable_164 rfl ?_
                        refine j_sto (w' := _) dX11_replaceTable_166 ((h11.pr (t := i657) (by omega)).1 p678 hp678).2 (vp_in_nI (n := 1) (by decide) (by decide)) rfl ?_
                        refine j_seal (((h11.pr (t := i657) (by omega)).1 p678 hp678).1.1) ?_
                        intro w12 u12
                        have hpp12 := ((h11.pr (t := i657) (by omega)).1 p678 hp678).1
                        have hpq12 := hpp12.2.1
                        have g12_it667 := (u12.2.1 it667 (by omega)).trans g11_it667
                        have g12_x1 := (u12.2.1 x1 (by omega)).trans g11_x1
                        have fw12 := u12.fw (ρ := 14 + i657) hpp12.1 hpp12.2.1
                        have h12 := h11.up14 (t0 := i657) (by omega) hp678 u12 (z_ui_ne (by decide))
                        have ke12 := z_ke h12 ke11 rfl
                        refine j_aload dX11_replaceTable_167 rfl rfl ?_
                        refine j_iconst (v := 3) dX11_replaceTable_169 (by decide) ?_
                        refine j_dup2 dX11_replaceTable_170 rfl rfl ?_
                        refine j_ld dX11_replaceTable_171 g12_x1 (vp_in_nI (n := 3) (by decide) (by decide)) ?_
                        refine j_iconst (v := 1) dX11_replaceTable_172 (by decide) ?_
                        refine j_iadd dX11_replaceTable_173 ?_
                        refine j_sto (w' := _) dX11_replaceTable_174 g12_x1 (vp_in_nI (n := 3) (by decide) (by decide)) rfl ?_
                        refine j_seal hx1a ?_
                        intro w13 u13
                        have fw13 := u13.fw hx1a hx1b
                        have g13_it667 := (u13.2.1 it667 (Ne.symm n_x1_it667)).trans g12_it667
                        have g13_x1 := u13.1
                        have h13 := h12.gar fw13 (by omega)
                        have ke13 := z_ke h13 ke12 rfl
                        refine j_goto (tgt := 96) dX11_replaceTable_175 (by decide) ?_
                        refine j_widen (kc' := 2) (ks' := 11) (by omega) (by omega) ?_
                        exact j_lo2 (ih w13 _ (k + 1) _ _ (by omega) (by omega) h13 (((((hfm.tr fm9).tr (fw10.fm (q := 59) (by omega))).tr (fw11.fm (q := 59) (by omega))).tr (fw12.fm (q := 59) (by omega))).tr (fw13.fm (q := 59) (by omega))) ke13 (by show _ ≤ (z_qp s1 i657).2.length; omega) g13_it667 g13_x1) (z_q1 rfl (z_q1 rfl (z_q1 rfl (z_q1 rfl (z_q1 rfl (z_q1 rfl z_q0))))))
                      · refine j_aload_n dX11_replaceTable_156 rfl rfl ?_
                        refine j_callV (q := (RX11, TX11, 8)) dX11_replaceTable_157 kX11_nine lX11_105 inX11_nine seX11_nine h11.m rfl (cm_nine hl w11 _ h11) (Nat.le_of_ble_eq_true rfl) ⟨(by show _ ≤ 2; omega), (by show _ ≤ 11; omega)⟩ rfl (Nat.le_of_ble_eq_true rfl) rfl rfl (fun _ _ h => h.elim) ?_
                        rintro _ w14 ⟨rfl, fm14, h14⟩
                        have g14_it667 := fm14.g hita667 (by rw [hitb667]; decide) g11_it667
                        have g14_x1 := fm14.g hx1a (by rw [hx1b]; decide) g11_x1
                        have ke14 := z_ke h14 ke11 rfl
                        refine j_iret dX11_replaceTable_160 rfl rfl ?_ (by show _ ≤ 2; omega) (by show _ ≤ 11; omega)
                        exact ⟨_, _, rfl, ((((hfm.tr fm9).tr (fw10.fm (q := 59) (by omega))).tr (fw11.fm (q := 59) (by omega))).tr (fm14.le (q' := 59) (by decide))), h14, ke14⟩
                refine j_widen (kc' := 2) (ks' := 11) (by omega) (by omega) ?_
                exact j_lo2 (loop96 21 w6 _ 0 _ _ (by omega) (by omega) h6 ((((fm2.le (q' := 59) (by decide)).tr (fw4.fm (q := 59) (by omega))).tr (fw5.fm (q := 59) (by omega))).tr fm6) ke6 (Nat.zero_le _) git667 g6_x1) (z_q1 rfl (z_q1 rfl (z_q1 rfl (z_q1 rfl (z_q1 rfl (z_q1 rfl z_q0))))))
              · have hb54 : i657 = 0 := nI_inj (a := i657) (b := 0) c_54_52 (by omega) (by omega)
                refine j_aload_n dX11_replaceTable_57 rfl rfl ?_
                refine j_getf dX11_replaceTable_58 fX11_31 h2.m rfl ?_
                refine j_iconst (v := 2) dX11_replaceTable_61 (by decide) ?_
                obtain ⟨fz690, gz690, hz690⟩ := h2.co
                refine j_aald (v := .ref (1004 + 2)) dX11_replaceTable_62 gz690 rfl rfl (vp_in_nI (n := 2) (by decide) (by decide)) (by rw [show (2 : Int32).toNatClampNeg = 2 by decide]; exact hz690 _ (by decide)) ?_
                refine j_goto (tgt := 70) dX11_replaceTable_63 (by decide) ?_
                refine j_astore (lo' := [(4, _), (0, _), (1, _), (2, _), (3, _)]) dX11_replaceTable_70 rfl (by decide) rfl ?_
                refine j_aload dX11_replaceTable_72 rfl rfl ?_
                refine j_iconst (v := 0) dX11_replaceTable_74 (by decide) ?_
                refine j_dup2 dX11_replaceTable_75 rfl rfl ?_
                refine j_ld dX11_replaceTable_76 (h2.cn (i := 2) (by decide)) (vp_in_nI (n := 0) (by decide) (by decide)) ?_
                refine j_iconst (v := 1) dX11_replaceTable_77 (by decide) ?_
                refine j_iadd dX11_replaceTable_78 ?_
                refine j_sto (w' := _) dX11_replaceTable_79 (h2.cn (i := 2) (by decide)) (vp_in_nI (n := 0) (by decide) (by decide)) rfl ?_
                refine j_seal (by omega) ?_
                intro w15 u15
                have fw15 := u15.fw (ρ := 44 + 2) (by omega) (by omega)
                have h15 := h2.up44 (i0 := 2) (by decide) fw15 u15.1
                have ke15 := z_ke h15 ke2 rfl
                refine j_aload_n dX11_replaceTable_80 rfl rfl ?_
                refine j_getf dX11_replaceTable_81 fX11_34 h15.m rfl ?_
                refine j_iload_n dX11_replaceTable_84 rfl ?_
                obtain ⟨lv694, -, lg694⟩ := z_li.cell h15.tabs
                refine j_callV (q := (RJx4a65c, TJx4a65c, 3)) dX11_replaceTable_85 kJx4a65c_get_915e3 lX11_82 inJx4a65c_get_915e3 seJx4a65c_get_915e3 lg694 rfl (cl_get hl w15 47 1007 _ _ (i657) _ h15.tabs (z_thr3 (t := i657) (by omega))) (Nat.le_of_ble_eq_true rfl) ⟨(by show _ ≤ 2; omega), (by show _ ≤ 11; omega)⟩ rfl (Nat.le_of_ble_eq_true rfl) rfl rfl (fun _ _ h => h.elim) ?_
                rintro _ _ ⟨rfl, hw695⟩
                refine j_w w15 hw695 ?_
                refine j_castS dX11_replaceTable_88 (z_w 1341 ((lwg_6 96).trans (by decide +kernel)) (by decide +kernel)) (z_li.is (h15.tb (t := i657) (by omega))) ?_
                obtain ⟨lv698, -, lg698⟩ := z_li.cell (h15.tb (t := i657) (by omega))
                refine j_callV (q := (RJx4a65c, TJx4a65c, 3)) dX11_replaceTable_91 kJx4a65c_iterator_32c93 lX11_162 inJx4a65c_iterator_32c93 seJx4a65c_iterator_32c93 lg698 rfl (cl_iter hl w15 58 (51 + i657) _ _ _ (h15.tb (t := i657) (by omega)) (by decide) (by omega) h15.fn) (Nat.le_of_ble_eq_true rfl) ⟨(by show _ ≤ 2; omega), (by show _ ≤ 11; omega)⟩ rfl (Nat.le_of_ble_eq_true rfl) rfl rfl (fun _ _ h => h.elim) ?_
                rintro _ w16 ⟨it697, rfl, fw16, hita697, hitb697, hitc697, la697, git697⟩
                have hita697 : 1000 ≤ it697 := hita697
                have hitb697 : it697 % 64 = 58 := hitb697
                have fm16 := fw16.fm (q := 59) (by omega)
                have h16 := h15.gar fw16 (by omega)
                have ke16 := z_ke h16 ke15 rfl
                refine j_astore (lo' := [(5, _), (4, _), (0, _), (1, _), (2, _), (3, _)]) dX11_replaceTable_94 rfl (by decide) rfl ?_
                have loop96 : ∀ (n9 : Nat) (w17 : z_W) (s1 : z_Z) (k : Nat) (la : Int32), (k ≤ 20) → (20 < k + n9) → (z_mst w17 s1) → (z_fm 59 w w17) → (z_key s1 = z_key s) → (k ≤ (z_qp s1 i657).2.length) → (z_g w17 it697 = some (.inr (3, [.int (nI k), .int la, .int (z_qp s1 i657).1, .ref (1011 + i657)]))) → z_J G l mX11_replaceTable (22, 2, 11, w, (fun v w9 => ∃ (r : Int32) (s9 : z_Z), v = some (.int r) ∧ z_fm 59 w w9 ∧ z_mst w9 s9 ∧ z_key s9 = z_key s), (fun _ _ => False)) 96 [(0, .ref 1000), (1, .int (nI i657)), (2, .int y), (3, .int z), (4, .ref (1004 + 2)), (5, .ref it697)] [] w17 2 11 := by
                  intro n9
                  induction n9 with
                  | zero => intro w17 s1 k la hj hf9 hm hfm hke hkl git; exact absurd hf9 (by omega)
                  | succ n9 ih =>
                    intro w17 s1 k la hj hf9 hm hfm hke hkl git
                    refine j_aload dX11_replaceTable_96 rfl rfl ?_
                    refine j_callF (x := ⟨"java/util/Iterator", "hasNext", "()Z"⟩) (q := (RJx35411, TJx35411, 4)) dX11_replaceTable_98 kJx35411_hasNext_aae02 ⟨(z_w 1765 ((lwg_8 40).trans (by decide +kernel)) (by decide +kernel)), (z_w 1769 ((lwg_8 44).trans (by decide +kernel)) (by decide +kernel)), inJx35411_hasNext_aae02, ⟨by decide, by decide⟩, rfl, fun U h => h.2.1⟩ git rfl (cl_hasN hl w17 _ (51 + i657) _ (k) _ _ (hm.tb (t := i657) (by omega)) ⟨_, git⟩ (by rw [z_rs_len]; omega)) (Nat.le_of_ble_eq_true rfl) ⟨(by show _ ≤ 2; omega), (by show _ ≤ 11; omega)⟩ rfl (Nat.le_of_ble_eq_true rfl) rfl ?_
                    rintro _ _ ⟨⟨x699, rfl, hz699, hp699⟩, hw699⟩
                    refine j_w w17 hw699 ?_
                    refine j_if_eq (tgt := 178) dX11_replaceTable_103 (by decide) (fun c_103_280 => ?_) (fun c_103_280 => ?_)
                    · have hk103 : k = (z_qp s1 (i657)).2.length := (z_rs_len ▸ hz699 c_103_280)
                      refine j_aload dX11_replaceTable_178 rfl rfl ?_
                      refine j_iconst (v := 1) dX11_replaceTable_180 (by decide) ?_
                      refine j_dup2 dX11_replaceTable_181 rfl rfl ?_
                      refine j_ld dX11_replaceTable_182 (hm.cn (i := 2) (by decide)) (vp_in_nI (n := 1) (by decide) (by decide)) ?_
                      refine j_iconst (v := 1) dX11_replaceTable_183 (by decide) ?_
                      refine j_iadd dX11_replaceTable_184 ?_
                      refine j_sto (w' := _) dX11_replaceTable_185 (hm.cn (i := 2) (by decide)) (vp_in_nI (n := 1) (by decide) (by decide)) rfl ?_
                      refine j_seal (by omega) ?_
                      intro w18 u18
                      have fw18 := u18.fw (ρ := 44 + 2) (by omega) (by omega)
                      have g18_it697 := (fun z => (u18.2.1 it697 (fun z9 => by have h9 := hitb697; rw [z9] at h9; omega)).trans z) git
                      have h18 := hm.up44 (i0 := 2) (by decide) fw18 u18.1
                      have ke18 := z_ke h18 hke rfl
                      refine j_aload_n dX11_replaceTable_186 rfl rfl ?_
                      refine j_getf dX11_replaceTable_187 fX11_34 h18.m rfl ?_
                      refine j_iload_n dX11_replaceTable_190 rfl ?_
                      obtain ⟨lv703, -, lg703⟩ := z_li.cell h18.tabs
                      refine j_callV (q := (RJx4a65c, TJx4a65c, 3)) dX11_replaceTable_191 kJx4a65c_get_915e3 lX11_82 inJx4a65c_get_915e3 seJx4a65c_get_915e3 lg703 rfl (cl_get hl w18 47 1007 _ _ (i657) _ h18.tabs (z_thr3 (t := i657) (by omega))) (Nat.le_of_ble_eq_true rfl) ⟨(by show _ ≤ 2; omega), (by show _ ≤ 11; omega)⟩ rfl (Nat.le_of_ble_eq_true rfl) rfl rfl (fun _ _ h => h.elim) ?_
                      rintro _ _ ⟨rfl, hw704⟩
                      refine j_w w18 hw704 ?_
                      refine j_castS dX11_replaceTable_194 (z_w 1341 ((lwg_6 96).trans (by decide +kernel)) (by decide +kernel)) (z_li.is (h18.tb (t := i657) (by omega))) ?_
                      obtain ⟨lv706, -, lg706⟩ := z_li.cell (h18.tb (t := i657) (by omega))
                      refine j_callV (q := (RJx4a65c, TJx4a65c, 3)) dX11_replaceTable_197 kJx4a65c_size_8abf5 lX11_86 inJx4a65c_size_8abf5 seJx4a65c_size_8abf5 lg706 rfl (cl_sizeR hl w18 _ _ _ _ (h18.tb (t := i657) (by omega))) (Nat.le_of_ble_eq_true rfl) ⟨(by show _ ≤ 2; omega), (by show _ ≤ 11; omega)⟩ rfl (Nat.le_of_ble_eq_true rfl) rfl rfl (fun _ _ h => h.elim) ?_
                      rintro _ _ ⟨⟨n707, rfl, hn707⟩, hw707⟩
                      refine j_w w18 hw707 ?_
                      have hn707 : n707 = (z_qp s1 (i657)).2.length := hn707
                      have hz707 : (z_qp s1 (i657)).2.length ≤ 20 := (h18.pr (t := i657) (by omega)).len
                      refine j_iret dX11_replaceTable_200 rfl rfl ?_ (by show _ ≤ 2; omega) (by show _ ≤ 11; omega)
                      exact ⟨_, _, rfl, (hfm.tr (fw18.fm (q := 59) (by omega))), h18, ke18⟩
                    · have hk103 : k < (z_qp s1 (i657)).2.length := (z_rs_len ▸ hp699 c_103_280)
                      have hzk103 : (z_qp s1 (i657)).2.length ≤ 20 := (hm.pr (t := i657) (by omega)).len
                      refine j_aload dX11_replaceTable_106 rfl rfl ?_
                      obtain ⟨p708, hp708, hq708, hk708⟩ := z_rs_ex (P := (z_qp s1 (i657)).2) (k := k) (by omega)
                      refine j_callF (x := ⟨"java/util/Iterator", "next", "()Ljava/lang/Object;"⟩) (q := (RJx35411, TJx35411, 4)) dX11_replaceTable_108 kJx35411_next_0502b ⟨(z_w 1775 ((lwg_8 50).trans (by decide +kernel)) (by decide +kernel)), (z_w 1778 ((lwg_8 53).trans (by decide +kernel)) (by decide +kernel)), inJx35411_next_0502b, ⟨by decide, by decide⟩, rfl, fun U h => h.2.2.1⟩ git rfl (cl_next hl w17 58 it697 (51 + i657) _ (k) _ _ _ (hm.tb (t := i657) (by omega)) ⟨_, git⟩ hq708 hita697 hitb697 (by omega)) (Nat.le_of_ble_eq_true rfl) ⟨(by show _ ≤ 2; omega), (by show _ ≤ 11; omega)⟩ rfl (Nat.le_of_ble_eq_true rfl) rfl ?_
                      rintro _ w19 ⟨rfl, fw19, la19, git19⟩
                      have fm19 := fw19.fm (q := 59) (by omega)
                      have h19 := hm.gar fw19 (by omega)
                      have ke19 := z_ke h19 hke rfl
                      refine j_castS dX11_replaceTable_113 (z_w 1663 ((lwg_7 178).trans (by decide +kernel)) (by decide +kernel)) (z_isA ((h19.pr (t := i657) (by omega)).1 p708 hp708).2) ?_
                      refine j_astore (lo' := [(6, _), (0, _), (1, _), (2, _), (3, _), (4, _), (5, _)]) dX11_replaceTable_116 rfl (by decide) rfl ?_
                      refine j_aload dX11_replaceTable_118 rfl rfl ?_
                      refine j_iconst (v := 1) dX11_replaceTable_120 (by decide) ?_
                      refine j_dup2 dX11_replaceTable_121 rfl rfl ?_
                      refine j_ld dX11_replaceTable_122 (h19.cn (i := 2) (by decide)) (vp_in_nI (n := 1) (by decide) (by decide)) ?_
                      refine j_iconst (v := 1) dX11_replaceTable_123 (by decide) ?_
                      refine j_iadd dX11_replaceTable_124 ?_
                      refine j_sto (w' := _) dX11_replaceTable_125 (h19.cn (i := 2) (by decide)) (vp_in_nI (n := 1) (by decide) (by decide)) rfl ?_
                      refine j_seal (by omega) ?_
                      intro w20 u20
                      have fw20 := u20.fw (ρ := 44 + 2) (by omega) (by omega)
                      have g20_it697 := (fun z => (u20.2.1 it697 (fun z9 => by have h9 := hitb697; rw [z9] at h9; omega)).trans z) git19
                      have h20 := h19.up44 (i0 := 2) (by decide) fw20 u20.1
                      have ke20 := z_ke h20 ke19 rfl
                      refine j_aload dX11_replaceTable_126 rfl rfl ?_
                      refine j_iconst (v := 2) dX11_replaceTable_128 (by decide) ?_
                      refine j_dup2 dX11_replaceTable_129 rfl rfl ?_
                      refine j_ld dX11_replaceTable_130 (h20.cn (i := 2) (by decide)) (vp_in_nI (n := 2) (by decide) (by decide)) ?_
                      refine j_iconst (v := 1) dX11_replaceTable_131 (by decide) ?_
                      refine j_iadd dX11_replaceTable_132 ?_
                      refine j_sto (w' := _) dX11_replaceTable_133 (h20.cn (i := 2) (by decide)) (vp_in_nI (n := 2) (by decide) (by decide)) rfl ?_
                      refine j_seal (by omega) ?_
                      intro w21 u21
                      have fw21 := u21.fw (ρ := 44 + 2) (by omega) (by omega)
                      have g21_it697 := (fun z => (u21.2.1 it697 (fun z9 => by have h9 := hitb697; rw [z9] at h9; omega)).trans z) g20_it697
                      have h21 := h20.up44 (i0 := 2) (by decide) fw21 u21.1
                      have ke21 := z_ke h21 ke20 rfl
                      refine j_iload_n dX11_replaceTable_134 rfl ?_
                      refine j_aload dX11_replaceTable_135 rfl rfl ?_
                      refine j_iconst (v := 0) dX11_replaceTable_137 (by decide) ?_
                      refine j_ld dX11_replaceTable_138 ((h21.pr (t := i657) (by omega)).1 p708 hp708).2 (vp_in_nI (n := 0) (by decide) (by decide)) ?_
                      refine j_aload dX11_replaceTable_139 rfl rfl ?_
                      refine j_iconst (v := 1) dX11_replaceTable_141 (by decide) ?_
                      refine j_ld dX11_replaceTable_142 ((h21.pr (t := i657) (by omega)).1 p708 hp708).2 (vp_in_nI (n := 1) (by decide) (by decide)) ?_
                      refine j_iload_n dX11_replaceTable_143 rfl ?_
                      refine j_callS dX11_replaceTable_144 kX11_rule lX11_115 stX11_rule (cm_rule hl w21 _ _ _ _) (Nat.le_of_ble_eq_true rfl) ⟨(by show _ ≤ 2; omega), (by show _ ≤ 11; omega)⟩ rfl (Nat.le_of_ble_eq_true rfl) rfl rfl (fun _ _ h => h.elim) ?_
                      rintro _ _ ⟨⟨r716, rfl⟩, hw716⟩
                      refine j_w w21 hw716 ?_
                      refine j_istore (lo' := [(7, _), (6, _), (0, _), (1, _), (2, _), (3, _), (4, _), (5, _)]) dX11_replaceTable_147 (by decide) rfl ?_
                      refine j_iload dX11_replaceTable_149 rfl ?_
                      refine j_ldc dX11_replaceTable_151 kcX11_67 ?_
                      refine j_icmp_ne (tgt := 161) dX11_replaceTable_153 (by decide) (fun c_153_362 => ?_) (fun c_153_362 => ?_)
                      · refine j_aload dX11_replaceTable_161 rfl rfl ?_
                        refine j_iconst (v := 1) dX11_replaceTable_163 (by decide) ?_
                        refine j_iload dX11_replaceTable_164 rfl ?_
                        refine j_sto (w' := _) dX11_replaceTable_166 ((h21.pr (t := i657) (by omega)).1 p708 hp708).2 (vp_in_nI (n := 1) (by decide) (by decide)) rfl ?_
                        refine j_seal (((h21.pr (t := i657) (by omega)).1 p708 hp708).1.1) ?_
                        intro w22 u22
                        have hpp22 := ((h21.pr (t := i657) (by omega)).1 p708 hp708).1
                        have hpq22 := hpp22.2.1
                        have g22_it697 := (u22.2.1 it697 (by omega)).trans g21_it697
                        have fw22 := u22.fw (ρ := 14 + i657) hpp22.1 hpp22.2.1
                        have h22 := h21.up14 (t0 := i657) (by omega) hp708 u22 (z_ui_ne (by decide))
                        have ke22 := z_ke h22 ke21 rfl
                        refine j_aload dX11_replaceTable_167 rfl rfl ?_
                        refine j_iconst (v := 3) dX11_replaceTable_169 (by decide) ?_
                        refine j_dup2 dX11_replaceTable_170 rfl rfl ?_
                        refine j_ld dX11_replaceTable_171 (h22.cn (i := 2) (by decide)) (vp_in_nI (n := 3) (by decide) (by decide)) ?_
                        refine j_iconst (v := 1) dX11_replaceTable_172 (by decide) ?_
                        refine j_iadd dX11_replaceTable_173 ?_
                        refine j_sto (w' := _) dX11_replaceTable_174 (h22.cn (i := 2) (by decide)) (vp_in_nI (n := 3) (by decide) (by decide)) rfl ?_
                        refine j_seal (by omega) ?_
                        intro w23 u23
                        have fw23 := u23.fw (ρ := 44 + 2) (by omega) (by omega)
                        have g23_it697 := (fun z => (u23.2.1 it697 (fun z9 => by have h9 := hitb697; rw [z9] at h9; omega)).trans z) g22_it697
                        have h23 := h22.up44 (i0 := 2) (by decide) fw23 u23.1
                        have ke23 := z_ke h23 ke22 rfl
                        refine j_goto (tgt := 96) dX11_replaceTable_175 (by decide) ?_
                        refine j_widen (kc' := 2) (ks' := 11) (by omega) (by omega) ?_
                        exact j_lo2 (ih w23 _ (k + 1) _ (by omega) (by omega) h23 (((((hfm.tr fm19).tr (fw20.fm (q := 59) (by omega))).tr (fw21.fm (q := 59) (by omega))).tr (fw22.fm (q := 59) (by omega))).tr (fw23.fm (q := 59) (by omega))) ke23 (by show _ ≤ (z_qp s1 i657).2.length; omega) g23_it697) (z_q1 rfl (z_q1 rfl (z_q1 rfl (z_q1 rfl (z_q1 rfl (z_q1 rfl z_q0))))))
                      · refine j_aload_n dX11_replaceTable_156 rfl rfl ?_
                        refine j_callV (q := (RX11, TX11, 8)) dX11_replaceTable_157 kX11_nine lX11_105 inX11_nine seX11_nine h21.m rfl (cm_nine hl w21 _ h21) (Nat.le_of_ble_eq_true rfl) ⟨(by show _ ≤ 2; omega), (by show _ ≤ 11; omega)⟩ rfl (Nat.le_of_ble_eq_true rfl) rfl rfl (fun _ _ h => h.elim) ?_
                        rintro _ w24 ⟨rfl, fm24, h24⟩
                        have g24_it697 := fm24.g hita697 (by rw [hitb697]; decide) g21_it697
                        have ke24 := z_ke h24 ke21 rfl
                        refine j_iret dX11_replaceTable_160 rfl rfl ?_ (by show _ ≤ 2; omega) (by show _ ≤ 11; omega)
                        exact ⟨_, _, rfl, ((((hfm.tr fm19).tr (fw20.fm (q := 59) (by omega))).tr (fw21.fm (q := 59) (by omega))).tr (fm24.le (q' := 59) (by decide))), h24, ke24⟩
                refine j_widen (kc' := 2) (ks' := 11) (by omega) (by omega) ?_
                exact j_lo2 (loop96 21 w16 _ 0 _ (by omega) (by omega) h16 (((fm2.le (q' := 59) (by decide)).tr (fw15.fm (q := 59) (by omega))).tr fm16) ke16 (Nat.zero_le _) git697) (z_q1 rfl (z_q1 rfl (z_q1 rfl (z_q1 rfl (z_q1 rfl (z_q1 rfl z_q0))))))
            · exact absurd c_48_50 (by decide)
          · exact absurd c_36_44 (by decide)
      · refine j_iload_n dX11_replaceTable_17 rfl ?_
        refine j_iconst (v := 1) dX11_replaceTable_18 (by decide) ?_
        refine j_icmp_eq (tgt := 32) dX11_replaceTable_19 (by decide) (fun c_19_404 => ?_) (fun c_19_404 => ?_)
        · refine j_iload_n dX11_replaceTable_32 rfl ?_
          refine j_callS dX11_replaceTable_33 kX11_isNoValue lX11_79 stX11_isNoValue (cm_isNoValue hl w2 _) (Nat.le_of_ble_eq_true rfl) ⟨(by show _ ≤ 2; omega), (by show _ ≤ 11; omega)⟩ rfl (Nat.le_of_ble_eq_true rfl) rfl rfl (fun _ _ h => h.elim) ?_
          rintro _ _ ⟨⟨rfl, hno720⟩ | ⟨rfl, hye720⟩, hw720⟩
          · refine j_w w2 hw720 ?_
            refine j_if_eq (tgt := 43) dX11_replaceTable_36 (by decide) (fun c_36_409 => ?_) (fun c_36_409 => ?_)
            · exact absurd c_36_409 (by decide)
            · refine j_iconst (v := 1) dX11_replaceTable_39 (by decide) ?_
              refine j_goto (tgt := 44) dX11_replaceTable_40 (by decide) ?_
              refine j_iconst (v := 2) dX11_replaceTable_44 (by decide) ?_
              refine j_callV (q := (RX11, TX11, 8)) dX11_replaceTable_45 kX11_refuse lX11_52 inX11_refuse seX11_refuse h2.m rfl (cm_refuse1 hl w2 _ _ h2 rfl (by decide)) (Nat.le_of_ble_eq_true rfl) ⟨(by show _ ≤ 2; omega), (by show _ ≤ 11; omega)⟩ rfl (Nat.le_of_ble_eq_true rfl) rfl rfl (fun _ _ h => h.elim) ?_
              rintro _ w25 ⟨rfl, fm25, h25⟩
              have ke25 := z_ke h25 ke2 rfl
              refine j_if_eq (tgt := 53) dX11_replaceTable_48 (by decide) (fun c_48_417 => ?_) (fun c_48_417 => ?_)
              · exact absurd c_48_417 (by decide)
              · refine j_iconst (v := 0) dX11_replaceTable_51 (by decide) ?_
                refine j_iret dX11_replaceTable_52 rfl rfl ?_ (by show _ ≤ 2; omega) (by show _ ≤ 11; omega)
                exact ⟨_, _, rfl, ((fm2.le (q' := 59) (by decide)).tr (fm25.le (q' := 59) (by decide))), h25, ke25⟩
          · refine j_w w2 hw720 ?_
            refine j_if_eq (tgt := 43) dX11_replaceTable_36 (by decide) (fun c_36_423 => ?_) (fun c_36_423 => ?_)
            · refine j_iconst (v := 0) dX11_replaceTable_43 (by decide) ?_
              refine j_iconst (v := 2) dX11_replaceTable_44 (by decide) ?_
              refine j_callV (q := (RX11, TX11, 8)) dX11_replaceTable_45 kX11_refuse lX11_52 inX11_refuse seX11_refuse h2.m rfl (cm_refuse0 hl w2 _ _ h2 rfl) (Nat.le_of_ble_eq_true rfl) ⟨(by show _ ≤ 2; omega), (by show _ ≤ 11; omega)⟩ rfl (Nat.le_of_ble_eq_true rfl) rfl rfl (fun _ _ h => h.elim) ?_
              rintro _ _ ⟨rfl, hw721⟩
              refine j_w w2 hw721 ?_
              refine j_if_eq (tgt := 53) dX11_replaceTable_48 (by decide) (fun c_48_429 => ?_) (fun c_48_429 => ?_)
              · refine j_iload_n dX11_replaceTable_53 rfl ?_
                refine j_if_ne (tgt := 66) dX11_replaceTable_54 (by decide) (fun c_54_431 => ?_) (fun c_54_431 => ?_)
                · have hb54 : ¬ i657 = 0 := fun z => c_54_431 (show nI i657 = nI 0 by rw [z])
                  refine j_bipush (v := 7) dX11_replaceTable_66 (by decide) ?_
                  obtain ⟨x2, hx2a, hx2b, hx2c⟩ := z_fresh (57) (by decide) h2.fn
                  refine j_newa (kd := 0) (N := 7) (w' := _) (n := x2) dX11_replaceTable_68 rfl rfl arc_int ⟨rfl, fun _ _ h => h⟩ (by decide) rfl (by decide) rfl (z_alW hx2c hx2a) (Nat.le_of_ble_eq_true rfl) (Nat.le_of_ble_eq_true rfl) ?_
                  refine j_seal hx2a ?_
                  intro w26 u26
                  have fw26 := u26.fw hx2a hx2b
                  have g26_x2 := u26.1
                  have h26 := h2.gar fw26 (by omega)
                  have ke26 := z_ke h26 ke2 rfl
                  refine j_astore (lo' := [(4, _), (0, _), (1, _), (2, _), (3, _)]) dX11_replaceTable_70 rfl (by decide) rfl ?_
                  refine j_aload dX11_replaceTable_72 rfl rfl ?_
                  refine j_iconst (v := 0) dX11_replaceTable_74 (by decide) ?_
                  refine j_dup2 dX11_replaceTable_75 rfl rfl ?_
                  refine j_ld dX11_replaceTable_76 g26_x2 (vp_in_nI (n := 0) (by decide) (by decide)) ?_
                  refine j_iconst (v := 1) dX11_replaceTable_77 (by decide) ?_
                  refine j_iadd dX11_replaceTable_78 ?_
                  refine j_sto (w' := _) dX11_replaceTable_79 g26_x2 (vp_in_nI (n := 0) (by decide) (by decide)) rfl ?_
                  refine j_seal hx2a ?_
                  intro w27 u27
                  have fw27 := u27.fw hx2a hx2b
                  have g27_x2 := u27.1
                  have h27 := h26.gar fw27 (by omega)
                  have ke27 := z_ke h27 ke26 rfl
                  refine j_aload_n dX11_replaceTable_80 rfl rfl ?_
                  refine j_getf dX11_replaceTable_81 fX11_34 h27.m rfl ?_
                  refine j_iload_n dX11_replaceTable_84 rfl ?_
                  obtain ⟨lv726, -, lg726⟩ := z_li.cell h27.tabs
                  refine j_callV (q := (RJx4a65c, TJx4a65c, 3)) dX11_replaceTable_85 kJx4a65c_get_915e3 lX11_82 inJx4a65c_get_915e3 seJx4a65c_get_915e3 lg726 rfl (cl_get hl w27 47 1007 _ _ (i657) _ h27.tabs (z_thr3 (t := i657) (by omega))) (Nat.le_of_ble_eq_true rfl) ⟨(by show _ ≤ 2; omega), (by show _ ≤ 11; omega)⟩ rfl (Nat.le_of_ble_eq_true rfl) rfl rfl (fun _ _ h => h.elim) ?_
                  rintro _ _ ⟨rfl, hw727⟩
                  refine j_w w27 hw727 ?_
                  refine j_castS dX11_replaceTable_88 (z_w 1341 ((lwg_6 96).trans (by decide +kernel)) (by decide +kernel)) (z_li.is (h27.tb (t := i657) (by omega))) ?_
                  obtain ⟨lv730, -, lg730⟩ := z_li.cell (h27.tb (t := i657) (by omega))
                  refine j_callV (q := (RJx4a65c, TJx4a65c, 3)) dX11_replaceTable_91 kJx4a65c_iterator_32c93 lX11_162 inJx4a65c_iterator_32c93 seJx4a65c_iterator_32c93 lg730 rfl (cl_iter hl w27 58 (51 + i657) _ _ _ (h27.tb (t := i657) (by omega)) (by decide) (by omega) h27.fn) (Nat.le_of_ble_eq_true rfl) ⟨(by show _ ≤ 2; omega), (by show _ ≤ 11; omega)⟩ rfl (Nat.le_of_ble_eq_true rfl) rfl rfl (fun _ _ h => h.elim) ?_
                  rintro _ w28 ⟨it729, rfl, fw28, hita729, hitb729, hitc729, la729, git729⟩
                  have hita729 : 1000 ≤ it729 := hita729
                  have hitb729 : it729 % 64 = 58 := hitb729
                  have n_x2_it729 := z_neF hitc729 g27_x2
                  have g28_x2 := fw28.g (Or.inr (by omega)) g27_x2
                  have fm28 := fw28.fm (q := 59) (by omega)
                  have h28 := h27.gar fw28 (by omega)
                  have ke28 := z_ke h28 ke27 rfl
                  refine j_astore (lo' := [(5, _), (4, _), (0, _), (1, _), (2, _), (3, _)]) dX11_replaceTable_94 rfl (by decide) rfl ?_
                  have loop96 : ∀ (n9 : Nat) (w29 : z_W) (s1 : z_Z) (k : Nat) (la : Int32) (F : Nat → Int32), (k ≤ 20) → (20 < k + n9) → (z_mst w29 s1) → (z_fm 59 w w29) → (z_key s1 = z_key s) → (k ≤ (z_qp s1 i657).2.length) → (z_g w29 it729 = some (.inr (3, [.int (nI k), .int la, .int (z_qp s1 i657).1, .ref (1011 + i657)]))) → (z_g w29 x2 = some (.inl (0, 7, fun j => .int (F j)))) → z_J G l mX11_replaceTable (22, 2, 11, w, (fun v w9 => ∃ (r : Int32) (s9 : z_Z), v = some (.int r) ∧ z_fm 59 w w9 ∧ z_mst w9 s9 ∧ z_key s9 = z_key s), (fun _ _ => False)) 96 [(0, .ref 1000), (1, .int (nI i657)), (2, .int y), (3, .int z), (4, .ref x2), (5, .ref it729)] [] w29 2 11 := by
                    intro n9
                    induction n9 with
                    | zero => intro w29 s1 k la F hj hf9 hm hfm hke hkl git gx; exact absurd hf9 (by omega)
                    | succ n9 ih =>
                      intro w29 s1 k la F hj hf9 hm hfm hke hkl git gx
                      refine j_aload dX11_replaceTable_96 rfl rfl ?_
                      refine j_callF (x := ⟨"java/util/Iterator", "hasNext", "()Z"⟩) (q := (RJx35411, TJx35411, 4)) dX11_replaceTable_98 kJx35411_hasNext_aae02 ⟨(z_w 1765 ((lwg_8 40).trans (by decide +kernel)) (by decide +kernel)), (z_w 1769 ((lwg_8 44).trans (by decide +kernel)) (by decide +kernel)), inJx35411_hasNext_aae02, ⟨by decide, by decide⟩, rfl, fun U h => h.2.1⟩ git rfl (cl_hasN hl w29 _ (51 + i657) _ (k) _ _ (hm.tb (t := i657) (by omega)) ⟨_, git⟩ (by rw [z_rs_len]; omega)) (Nat.le_of_ble_eq_true rfl) ⟨(by show _ ≤ 2; omega), (by show _ ≤ 11; omega)⟩ rfl (Nat.le_of_ble_eq_true rfl) rfl ?_
                      rintro _ _ ⟨⟨x731, rfl, hz731, hp731⟩, hw731⟩
                      refine j_w w29 hw731 ?_
                      refine j_if_eq (tgt := 178) dX11_replaceTable_103 (by decide) (fun c_103_485 => ?_) (fun c_103_485 => ?_)
                      · have hk103 : k = (z_qp s1 (i657)).2.length := (z_rs_len ▸ hz731 c_103_485)
                        refine j_aload dX11_replaceTable_178 rfl rfl ?_
                        refine j_iconst (v := 1) dX11_replaceTable_180 (by decide) ?_
                        refine j_dup2 dX11_replaceTable_181 rfl rfl ?_
                        refine j_ld dX11_replaceTable_182 gx (vp_in_nI (n := 1) (by decide) (by decide)) ?_
                        refine j_iconst (v := 1) dX11_replaceTable_183 (by decide) ?_
                        refine j_iadd dX11_replaceTable_184 ?_
                        refine j_sto (w' := _) dX11_replaceTable_185 gx (vp_in_nI (n := 1) (by decide) (by decide)) rfl ?_
                        refine j_seal hx2a ?_
                        intro w30 u30
                        have fw30 := u30.fw hx2a hx2b
                        have g30_it729 := (u30.2.1 it729 (Ne.symm n_x2_it729)).trans git
                        have g30_x2 := u30.1
                        have h30 := hm.gar fw30 (by omega)
                        have ke30 := z_ke h30 hke rfl
                        refine j_aload_n dX11_replaceTable_186 rfl rfl ?_
                        refine j_getf dX11_replaceTable_187 fX11_34 h30.m rfl ?_
                        refine j_iload_n dX11_replaceTable_190 rfl ?_
                        obtain ⟨lv735, -, lg735⟩ := z_li.cell h30.tabs
                        refine j_callV (q := (RJx4a65c, TJx4a65c, 3)) dX11_replaceTable_191 kJx4a65c_get_915e3 lX11_82 inJx4a65c_get_915e3 seJx4a65c_get_915e3 lg735 rfl (cl_get hl w30 47 1007 _ _ (i657) _ h30.tabs (z_thr3 (t := i657) (by omega))) (Nat.le_of_ble_eq_true rfl) ⟨(by show _ ≤ 2; omega), (by show _ ≤ 11; omega)⟩ rfl (Nat.le_of_ble_eq_true rfl) rfl rfl (fun _ _ h => h.elim) ?_
                        rintro _ _ ⟨rfl, hw736⟩
                        refine j_w w30 hw736 ?_
                        refine j_castS dX11_replaceTable_194 (z_w 1341 ((lwg_6 96).trans (by decide +kernel)) (by decide +kernel)) (z_li.is (h30.tb (t := i657) (by omega))) ?_
                        obtain ⟨lv738, -, lg738⟩ := z_li.cell (h30.tb (t := i657) (by omega))
                        refine j_callV (q := (RJx4a65c, TJx4a65c, 3)) dX11_replaceTable_197 kJx4a65c_size_8abf5 lX11_86 inJx4a65c_size_8abf5 seJx4a65c_size_8abf5 lg738 rfl (cl_sizeR hl w30 _ _ _ _ (h30.tb (t := i657) (by omega))) (Nat.le_of_ble_eq_true rfl) ⟨(by show _ ≤ 2; omega), (by show _ ≤ 11; omega)⟩ rfl (Nat.le_of_ble_eq_true rfl) rfl rfl (fun _ _ h => h.elim) ?_
                        rintro _ _ ⟨⟨n739, rfl, hn739⟩, hw739⟩
                        refine j_w w30 hw739 ?_
                        have hn739 : n739 = (z_qp s1 (i657)).2.length := hn739
                        have hz739 : (z_qp s1 (i657)).2.length ≤ 20 := (h30.pr (t := i657) (by omega)).len
                        refine j_iret dX11_replaceTable_200 rfl rfl ?_ (by show _ ≤ 2; omega) (by show _ ≤ 11; omega)
                        exact ⟨_, _, rfl, (hfm.tr (fw30.fm (q := 59) (by omega))), h30, ke30⟩
                      · have hk103 : k < (z_qp s1 (i657)).2.length := (z_rs_len ▸ hp731 c_103_485)
                        have hzk103 : (z_qp s1 (i657)).2.length ≤ 20 := (hm.pr (t := i657) (by omega)).len
                        refine j_aload dX11_replaceTable_106 rfl rfl ?_
                        obtain ⟨p740, hp740, hq740, hk740⟩ := z_rs_ex (P := (z_qp s1 (i657)).2) (k := k) (by omega)
                        refine j_callF (x := ⟨"java/util/Iterator", "next", "()Ljava/lang/Object;"⟩) (q := (RJx35411, TJx35411, 4)) dX11_replaceTable_108 kJx35411_next_0502b ⟨(z_w 1775 ((lwg_8 50).trans (by decide +kernel)) (by decide +kernel)), (z_w 1778 ((lwg_8 53).trans (by decide +kernel)) (by decide +kernel)), inJx35411_next_0502b, ⟨by decide, by decide⟩, rfl, fun U h => h.2.2.1⟩ git rfl (cl_next hl w29 58 it729 (51 + i657) _ (k) _ _ _ (hm.tb (t := i657) (by omega)) ⟨_, git⟩ hq740 hita729 hitb729 (by omega)) (Nat.le_of_ble_eq_true rfl) ⟨(by show _ ≤ 2; omega), (by show _ ≤ 11; omega)⟩ rfl (Nat.le_of_ble_eq_true rfl) rfl ?_
                        rintro _ w31 ⟨rfl, fw31, la31, git31⟩
                        have g31_x2 := fw31.g (Or.inr (by omega)) gx
                        have fm31 := fw31.fm (q := 59) (by omega)
                        have h31 := hm.gar fw31 (by omega)
                        have ke31 := z_ke h31 hke rfl
                        refine j_castS dX11_replaceTable_113 (z_w 1663 ((lwg_7 178).trans (by decide +kernel)) (by decide +kernel)) (z_isA ((h31.pr (t := i657) (by omega)).1 p740 hp740).2) ?_
                        refine j_astore (lo' := [(6, _), (0, _), (1, _), (2, _), (3, _), (4, _), (5, _)]) dX11_replaceTable_116 rfl (by decide) rfl ?_
                        refine j_aload dX11_replaceTable_118 rfl rfl ?_
                        refine j_iconst (v := 1) dX11_replaceTable_120 (by decide) ?_
                        refine j_dup2 dX11_replaceTable_121 rfl rfl ?_
                        refine j_ld dX11_replaceTable_122 g31_x2 (vp_in_nI (n := 1) (by decide) (by decide)) ?_
                        refine j_iconst (v := 1) dX11_replaceTable_123 (by decide) ?_
                        refine j_iadd dX11_replaceTable_124 ?_
                        refine j_sto (w' := _) dX11_replaceTable_125 g31_x2 (vp_in_nI (n := 1) (by decide) (by decide)) rfl ?_
                        refine j_seal hx2a ?_
                        intro w32 u32
                        have fw32 := u32.fw hx2a hx2b
                        have g32_it729 := (u32.2.1 it729 (Ne.symm n_x2_it729)).trans git31
                        have g32_x2 := u32.1
                        have h32 := h31.gar fw32 (by omega)
                        have ke32 := z_ke h32 ke31 rfl
                        refine j_aload dX11_replaceTable_126 rfl rfl ?_
                        refine j_iconst (v := 2) dX11_replaceTable_128 (by decide) ?_
                        refine j_dup2 dX11_replaceTable_129 rfl rfl ?_
                        refine j_ld dX11_replaceTable_130 g32_x2 (vp_in_nI (n := 2) (by decide) (by decide)) ?_
                        refine j_iconst (v := 1) dX11_replaceTable_131 (by decide) ?_
                        refine j_iadd dX11_replaceTable_132 ?_
                        refine j_sto (w' := _) dX11_replaceTable_133 g32_x2 (vp_in_nI (n := 2) (by decide) (by decide)) rfl ?_
                        refine j_seal hx2a ?_
                        intro w33 u33
                        have fw33 := u33.fw hx2a hx2b
                        have g33_it729 := (u33.2.1 it729 (Ne.symm n_x2_it729)).trans g32_it729
                        have g33_x2 := u33.1
                        have h33 := h32.gar fw33 (by omega)
                        have ke33 := z_ke h33 ke32 rfl
                        refine j_iload_n dX11_replaceTable_134 rfl ?_
                        refine j_aload dX11_replaceTable_135 rfl rfl ?_
                        refine j_iconst (v := 0) dX11_replaceTable_137 (by decide) ?_
                        refine j_ld dX11_replaceTable_138 ((h33.pr (t := i657) (by omega)).1 p740 hp740).2 (vp_in_nI (n := 0) (by decide) (by decide)) ?_
                        refine j_aload dX11_replaceTable_139 rfl rfl ?_
                        refine j_iconst (v := 1) dX11_replaceTable_141 (by decide) ?_
                        refine j_ld dX11_replaceTable_142 ((h33.pr (t := i657) (by omega)).1 p740 hp740).2 (vp_in_nI (n := 1) (by decide) (by decide)) ?_
                        refine j_iload_n dX11_replaceTable_143 rfl ?_
                        refine j_callS dX11_replaceTable_144 kX11_rule lX11_115 stX11_rule (cm_rule hl w33 _ _ _ _) (Nat.le_of_ble_eq_true rfl) ⟨(by show _ ≤ 2; omega), (by show _ ≤ 11; omega)⟩ rfl (Nat.le_of_ble_eq_true rfl) rfl rfl (fun _ _ h => h.elim) ?_
                        rintro _ _ ⟨⟨r748, rfl⟩, hw748⟩
                        refine j_w w33 hw748 ?_
                        refine j_istore (lo' := [(7, _), (6, _), (0, _), (1, _), (2, _), (3, _), (4, _), (5, _)]) dX11_replaceTable_147 (by decide) rfl ?_
                        refine j_iload dX11_replaceTable_149 rfl ?_
                        refine j_ldc dX11_replaceTable_151 kcX11_67 ?_
                        refine j_icmp_ne (tgt := 161) dX11_replaceTable_153 (by decide) (fun c_153_571 => ?_) (fun c_153_571 => ?_)
                        · refine j_aload dX11_replaceTable_161 rfl rfl ?_
                          refine j_iconst (v := 1) dX11_replaceTable_163 (by decide) ?_
                          refine j_iload dX11_replaceTable_164 rfl ?_
                          refine j_sto (w' := _) dX11_replaceTable_166 ((h33.pr (t := i657) (by omega)).1 p740 hp740).2 (vp_in_nI (n := 1) (by decide) (by decide)) rfl ?_
                          refine j_seal (((h33.pr (t := i657) (by omega)).1 p740 hp740).1.1) ?_
                          intro w34 u34
                          have hpp34 := ((h33.pr (t := i657) (by omega)).1 p740 hp740).1
                          have hpq34 := hpp34.2.1
                          have g34_it729 := (u34.2.1 it729 (by omega)).trans g33_it729
                          have g34_x2 := (u34.2.1 x2 (by omega)).trans g33_x2
                          have fw34 := u34.fw (ρ := 14 + i657) hpp34.1 hpp34.2.1
                          have h34 := h33.up14 (t0 := i657) (by omega) hp740 u34 (z_ui_ne (by decide))
                          have ke34 := z_ke h34 ke33 rfl
                          refine j_aload dX11_replaceTable_167 rfl rfl ?_
                          refine j_iconst (v := 3) dX11_replaceTable_169 (by decide) ?_
                          refine j_dup2 dX11_replaceTable_170 rfl rfl ?_
                          refine j_ld dX11_replaceTable_171 g34_x2 (vp_in_nI (n := 3) (by decide) (by decide)) ?_
                          refine j_iconst (v := 1) dX11_replaceTable_172 (by decide) ?_
                          refine j_iadd dX11_replaceTable_173 ?_
                          refine j_sto (w' := _) dX11_replaceTable_174 g34_x2 (vp_in_nI (n := 3) (by decide) (by decide)) rfl ?_
                          refine j_seal hx2a ?_
                          intro w35 u35
                          have fw35 := u35.fw hx2a hx2b
                          have g35_it729 := (u35.2.1 it729 (Ne.symm n_x2_it729)).trans g34_it729
                          have g35_x2 := u35.1
                          have h35 := h34.gar fw35 (by omega)
                          have ke35 := z_ke h35 ke34 rfl
                          refine j_goto (tgt := 96) dX11_replaceTable_175 (by decide) ?_
                          refine j_widen (kc' := 2) (ks' := 11) (by omega) (by omega) ?_
                          exact j_lo2 (ih w35 _ (k + 1) _ _ (by omega) (by omega) h35 (((((hfm.tr fm31).tr (fw32.fm (q := 59) (by omega))).tr (fw33.fm (q := 59) (by omega))).tr (fw34.fm (q := 59) (by omega))).tr (fw35.fm (q := 59) (by omega))) ke35 (by show _ ≤ (z_qp s1 i657).2.length; omega) g35_it729 g35_x2) (z_q1 rfl (z_q1 rfl (z_q1 rfl (z_q1 rfl (z_q1 rfl (z_q1 rfl z_q0))))))
                        · refine j_aload_n dX11_replaceTable_156 rfl rfl ?_
                          refine j_callV (q := (RX11, TX11, 8)) dX11_replaceTable_157 kX11_nine lX11_105 inX11_nine seX11_nine h33.m rfl (cm_nine hl w33 _ h33) (Nat.le_of_ble_eq_true rfl) ⟨(by show _ ≤ 2; omega), (by show _ ≤ 11; omega)⟩ rfl (Nat.le_of_ble_eq_true rfl) rfl rfl (fun _ _ h => h.elim) ?_
                          rintro _ w36 ⟨rfl, fm36, h36⟩
                          have g36_it729 := fm36.g hita729 (by rw [hitb729]; decide) g33_it729
                          have g36_x2 := fm36.g hx2a (by rw [hx2b]; decide) g33_x2
                          have ke36 := z_ke h36 ke33 rfl
                          refine j_iret dX11_replaceTable_160 rfl rfl ?_ (by show _ ≤ 2; omega) (by show _ ≤ 11; omega)
                          exact ⟨_, _, rfl, ((((hfm.tr fm31).tr (fw32.fm (q := 59) (by omega))).tr (fw33.fm (q := 59) (by omega))).tr (fm36.le (q' := 59) (by decide))), h36, ke36⟩
                  refine j_widen (kc' := 2) (ks' := 11) (by omega) (by omega) ?_
                  exact j_lo2 (loop96 21 w28 _ 0 _ _ (by omega) (by omega) h28 ((((fm2.le (q' := 59) (by decide)).tr (fw26.fm (q := 59) (by omega))).tr (fw27.fm (q := 59) (by omega))).tr fm28) ke28 (Nat.zero_le _) git729 g28_x2) (z_q1 rfl (z_q1 rfl (z_q1 rfl (z_q1 rfl (z_q1 rfl (z_q1 rfl z_q0))))))
                · have hb54 : i657 = 0 := nI_inj (a := i657) (b := 0) c_54_431 (by omega) (by omega)
                  refine j_aload_n dX11_replaceTable_57 rfl rfl ?_
                  refine j_getf dX11_replaceTable_58 fX11_31 h2.m rfl ?_
                  refine j_iconst (v := 2) dX11_replaceTable_61 (by decide) ?_
                  obtain ⟨fz752, gz752, hz752⟩ := h2.co
                  refine j_aald (v := .ref (1004 + 2)) dX11_replaceTable_62 gz752 rfl rfl (vp_in_nI (n := 2) (by decide) (by decide)) (by rw [show (2 : Int32).toNatClampNeg = 2 by decide]; exact hz752 _ (by decide)) ?_
                  refine j_goto (tgt := 70) dX11_replaceTable_63 (by decide) ?_
                  refine j_astore (lo' := [(4, _), (0, _), (1, _), (2, _), (3, _)]) dX11_replaceTable_70 rfl (by decide) rfl ?_
                  refine j_aload dX11_replaceTable_72 rfl rfl ?_
                  refine j_iconst (v := 0) dX11_replaceTable_74 (by decide) ?_
                  refine j_dup2 dX11_replaceTable_75 rfl rfl ?_
                  refine j_ld dX11_replaceTable_76 (h2.cn (i := 2) (by decide)) (vp_in_nI (n := 0) (by decide) (by decide)) ?_
                  refine j_iconst (v := 1) dX11_replaceTable_77 (by decide) ?_
                  refine j_iadd dX11_replaceTable_78 ?_
                  refine j_sto (w' := _) dX11_replaceTable_79 (h2.cn (i := 2) (by decide)) (vp_in_nI (n := 0) (by decide) (by decide)) rfl ?_
                  refine j_seal (by omega) ?_
                  intro w37 u37
                  have fw37 := u37.fw (ρ := 44 + 2) (by omega) (by omega)
                  have h37 := h2.up44 (i0 := 2) (by decide) fw37 u37.1
                  have ke37 := z_ke h37 ke2 rfl
                  refine j_aload_n dX11_replaceTable_80 rfl rfl ?_
                  refine j_getf dX11_replaceTable_81 fX11_34 h37.m rfl ?_
                  refine j_iload_n dX11_replaceTable_84 rfl ?_
                  obtain ⟨lv756, -, lg756⟩ := z_li.cell h37.tabs
                  refine j_callV (q := (RJx4a65c, TJx4a65c, 3)) dX11_replaceTable_85 kJx4a65c_get_915e3 lX11_82 inJx4a65c_get_915e3 seJx4a65c_get_915e3 lg756 rfl (cl_get hl w37 47 1007 _ _ (i657) _ h37.tabs (z_thr3 (t := i657) (by omega))) (Nat.le_of_ble_eq_true rfl) ⟨(by show _ ≤ 2; omega), (by show _ ≤ 11; omega)⟩ rfl (Nat.le_of_ble_eq_true rfl) rfl rfl (fun _ _ h => h.elim) ?_
                  rintro _ _ ⟨rfl, hw757⟩
                  refine j_w w37 hw757 ?_
                  refine j_castS dX11_replaceTable_88 (z_w 1341 ((lwg_6 96).trans (by decide +kernel)) (by decide +kernel)) (z_li.is (h37.tb (t := i657) (by omega))) ?_
                  obtain ⟨lv760, -, lg760⟩ := z_li.cell (h37.tb (t := i657) (by omega))
                  refine j_callV (q := (RJx4a65c, TJx4a65c, 3)) dX11_replaceTable_91 kJx4a65c_iterator_32c93 lX11_162 inJx4a65c_iterator_32c93 seJx4a65c_iterator_32c93 lg760 rfl (cl_iter hl w37 58 (51 + i657) _ _ _ (h37.tb (t := i657) (by omega)) (by decide) (by omega) h37.fn) (Nat.le_of_ble_eq_true rfl) ⟨(by show _ ≤ 2; omega), (by show _ ≤ 11; omega)⟩ rfl (Nat.le_of_ble_eq_true rfl) rfl rfl (fun _ _ h => h.elim) ?_
                  rintro _ w38 ⟨it759, rfl, fw38, hita759, hitb759, hitc759, la759, git759⟩
                  have hita759 : 1000 ≤ it759 := hita759
                  have hitb759 : it759 % 64 = 58 := hitb759
                  have fm38 := fw38.fm (q := 59) (by omega)
                  have h38 := h37.gar fw38 (by omega)
                  have ke38 := z_ke h38 ke37 rfl
                  refine j_astore (lo' := [(5, _), (4, _), (0, _), (1, _), (2, _), (3, _)]) dX11_replaceTable_94 rfl (by decide) rfl ?_
                  have loop96 : ∀ (n9 : Nat) (w39 : z_W) (s1 : z_Z) (k : Nat) (la : Int32), (k ≤ 20) → (20 < k + n9) → (z_mst w39 s1) → (z_fm 59 w w39) → (z_key s1 = z_key s) → (k ≤ (z_qp s1 i657).2.length) → (z_g w39 it759 = some (.inr (3, [.int (nI k), .int la, .int (z_qp s1 i657).1, .ref (1011 + i657)]))) → z_J G l mX11_replaceTable (22, 2, 11, w, (fun v w9 => ∃ (r : Int32) (s9 : z_Z), v = some (.int r) ∧ z_fm 59 w w9 ∧ z_mst w9 s9 ∧ z_key s9 = z_key s), (fun _ _ => False)) 96 [(0, .ref 1000), (1, .int (nI i657)), (2, .int y), (3, .int z), (4, .ref (1004 + 2)), (5, .ref it759)] [] w39 2 11 := by
                    intro n9
                    induction n9 with
                    | zero => intro w39 s1 k la hj hf9 hm hfm hke hkl git; exact absurd hf9 (by omega)
                    | succ n9 ih =>
                      intro w39 s1 k la hj hf9 hm hfm hke hkl git
                      refine j_aload dX11_replaceTable_96 rfl rfl ?_
                      refine j_callF (x := ⟨"java/util/Iterator", "hasNext", "()Z"⟩) (q := (RJx35411, TJx35411, 4)) dX11_replaceTable_98 kJx35411_hasNext_aae02 ⟨(z_w 1765 ((lwg_8 40).trans (by decide +kernel)) (by decide +kernel)), (z_w 1769 ((lwg_8 44).trans (by decide +kernel)) (by decide +kernel)), inJx35411_hasNext_aae02, ⟨by decide, by decide⟩, rfl, fun U h => h.2.1⟩ git rfl (cl_hasN hl w39 _ (51 + i657) _ (k) _ _ (hm.tb (t := i657) (by omega)) ⟨_, git⟩ (by rw [z_rs_len]; omega)) (Nat.le_of_ble_eq_true rfl) ⟨(by show _ ≤ 2; omega), (by show _ ≤ 11; omega)⟩ rfl (Nat.le_of_ble_eq_true rfl) rfl ?_
                      rintro _ _ ⟨⟨x761, rfl, hz761, hp761⟩, hw761⟩
                      refine j_w w39 hw761 ?_
                      refine j_if_eq (tgt := 178) dX11_replaceTable_103 (by decide) (fun c_103_659 => ?_) (fun c_103_659 => ?_)
                      · have hk103 : k = (z_qp s1 (i657)).2.length := (z_rs_len ▸ hz761 c_103_659)
                        refine j_aload dX11_replaceTable_178 rfl rfl ?_
                        refine j_iconst (v := 1) dX11_replaceTable_180 (by decide) ?_
                        refine j_dup2 dX11_replaceTable_181 rfl rfl ?_
                        refine j_ld dX11_replaceTable_182 (hm.cn (i := 2) (by decide)) (vp_in_nI (n := 1) (by decide) (by decide)) ?_
                        refine j_iconst (v := 1) dX11_replaceTable_183 (by decide) ?_
                        refine j_iadd dX11_replaceTable_184 ?_
                        refine j_sto (w' := _) dX11_replaceTable_185 (hm.cn (i := 2) (by decide)) (vp_in_nI (n := 1) (by decide) (by decide)) rfl ?_
                        refine j_seal (by omega) ?_
                        intro w40 u40
                        have fw40 := u40.fw (ρ := 44 + 2) (by omega) (by omega)
                        have g40_it759 := (fun z => (u40.2.1 it759 (fun z9 => by have h9 := hitb759; rw [z9] at h9; omega)).trans z) git
                        have h40 := hm.up44 (i0 := 2) (by decide) fw40 u40.1
                        have ke40 := z_ke h40 hke rfl
                        refine j_aload_n dX11_replaceTable_186 rfl rfl ?_
                        refine j_getf dX11_replaceTable_187 fX11_34 h40.m rfl ?_
                        refine j_iload_n dX11_replaceTable_190 rfl ?_
                        obtain ⟨lv765, -, lg765⟩ := z_li.cell h40.tabs
                        refine j_callV (q := (RJx4a65c, TJx4a65c, 3)) dX11_replaceTable_191 kJx4a65c_get_915e3 lX11_82 inJx4a65c_get_915e3 seJx4a65c_get_915e3 lg765 rfl (cl_get hl w40 47 1007 _ _ (i657) _ h40.tabs (z_thr3 (t := i657) (by omega))) (Nat.le_of_ble_eq_true rfl) ⟨(by show _ ≤ 2; omega), (by show _ ≤ 11; omega)⟩ rfl (Nat.le_of_ble_eq_true rfl) rfl rfl (fun _ _ h => h.elim) ?_
                        rintro _ _ ⟨rfl, hw766⟩
                        refine j_w w40 hw766 ?_
                        refine j_castS dX11_replaceTable_194 (z_w 1341 ((lwg_6 96).trans (by decide +kernel)) (by decide +kernel)) (z_li.is (h40.tb (t := i657) (by omega))) ?_
                        obtain ⟨lv768, -, lg768⟩ := z_li.cell (h40.tb (t := i657) (by omega))
                        refine j_callV (q := (RJx4a65c, TJx4a65c, 3)) dX11_replaceTable_197 kJx4a65c_size_8abf5 lX11_86 inJx4a65c_size_8abf5 seJx4a65c_size_8abf5 lg768 rfl (cl_sizeR hl w40 _ _ _ _ (h40.tb (t := i657) (by omega))) (Nat.le_of_ble_eq_true rfl) ⟨(by show _ ≤ 2; omega), (by show _ ≤ 11; omega)⟩ rfl (Nat.le_of_ble_eq_true rfl) rfl rfl (fun _ _ h => h.elim) ?_
                        rintro _ _ ⟨⟨n769, rfl, hn769⟩, hw769⟩
                        refine j_w w40 hw769 ?_
                        have hn769 : n769 = (z_qp s1 (i657)).2.length := hn769
                        have hz769 : (z_qp s1 (i657)).2.length ≤ 20 := (h40.pr (t := i657) (by omega)).len
                        refine j_iret dX11_replaceTable_200 rfl rfl ?_ (by show _ ≤ 2; omega) (by show _ ≤ 11; omega)
                        exact ⟨_, _, rfl, (hfm.tr (fw40.fm (q := 59) (by omega))), h40, ke40⟩
                      · have hk103 : k < (z_qp s1 (i657)).2.length := (z_rs_len ▸ hp761 c_103_659)
                        have hzk103 : (z_qp s1 (i657)).2.length ≤ 20 := (hm.pr (t := i657) (by omega)).len
                        refine j_aload dX11_replaceTable_106 rfl rfl ?_
                        obtain ⟨p770, hp770, hq770, hk770⟩ := z_rs_ex (P := (z_qp s1 (i657)).2) (k := k) (by omega)
                        refine j_callF (x := ⟨"java/util/Iterator", "next", "()Ljava/lang/Object;"⟩) (q := (RJx35411, TJx35411, 4)) dX11_replaceTable_108 kJx35411_next_0502b ⟨(z_w 1775 ((lwg_8 50).trans (by decide +kernel)) (by decide +kernel)), (z_w 1778 ((lwg_8 53).trans (by decide +kernel)) (by decide +kernel)), inJx35411_next_0502b, ⟨by decide, by decide⟩, rfl, fun U h => h.2.2.1⟩ git rfl (cl_next hl w39 58 it759 (51 + i657) _ (k) _ _ _ (hm.tb (t := i657) (by omega)) ⟨_, git⟩ hq770 hita759 hitb759 (by omega)) (Nat.le_of_ble_eq_true rfl) ⟨(by show _ ≤ 2; omega), (by show _ ≤ 11; omega)⟩ rfl (Nat.le_of_ble_eq_true rfl) rfl ?_
                        rintro _ w41 ⟨rfl, fw41, la41, git41⟩
                        have fm41 := fw41.fm (q := 59) (by omega)
                        have h41 := hm.gar fw41 (by omega)
                        have ke41 := z_ke h41 hke rfl
                        refine j_castS dX11_replaceTable_113 (z_w 1663 ((lwg_7 178).trans (by decide +kernel)) (by decide +kernel)) (z_isA ((h41.pr (t := i657) (by omega)).1 p770 hp770).2) ?_
                        refine j_astore (lo' := [(6, _), (0, _), (1, _), (2, _), (3, _), (4, _), (5, _)]) dX11_replaceTable_116 rfl (by decide) rfl ?_
                        refine j_aload dX11_replaceTable_118 rfl rfl ?_
                        refine j_iconst (v := 1) dX11_replaceTable_120 (by decide) ?_
                        refine j_dup2 dX11_replaceTable_121 rfl rfl ?_
                        refine j_ld dX11_replaceTable_122 (h41.cn (i := 2) (by decide)) (vp_in_nI (n := 1) (by decide) (by decide)) ?_
                        refine j_iconst (v := 1) dX11_replaceTable_123 (by decide) ?_
                        refine j_iadd dX11_replaceTable_124 ?_
                        refine j_sto (w' := _) dX11_replaceTable_125 (h41.cn (i := 2) (by decide)) (vp_in_nI (n := 1) (by decide) (by decide)) rfl ?_
                        refine j_seal (by omega) ?_
                        intro w42 u42
                        have fw42 := u42.fw (ρ := 44 + 2) (by omega) (by omega)
                        have g42_it759 := (fun z => (u42.2.1 it759 (fun z9 => by have h9 := hitb759; rw [z9] at h9; omega)).trans z) git41
                        have h42 := h41.up44 (i0 := 2) (by decide) fw42 u42.1
                        have ke42 := z_ke h42 ke41 rfl
                        refine j_aload dX11_replaceTable_126 rfl rfl ?_
                        refine j_iconst (v := 2) dX11_replaceTable_128 (by decide) ?_
                        refine j_dup2 dX11_replaceTable_129 rfl rfl ?_
                        refine j_ld dX11_replaceTable_130 (h42.cn (i := 2) (by decide)) (vp_in_nI (n := 2) (by decide) (by decide)) ?_
                        refine j_iconst (v := 1) dX11_replaceTable_131 (by decide) ?_
                        refine j_iadd dX11_replaceTable_132 ?_
                        refine j_sto (w' := _) dX11_replaceTable_133 (h42.cn (i := 2) (by decide)) (vp_in_nI (n := 2) (by decide) (by decide)) rfl ?_
                        refine j_seal (by omega) ?_
                        intro w43 u43
                        have fw43 := u43.fw (ρ := 44 + 2) (by omega) (by omega)
                        have g43_it759 := (fun z => (u43.2.1 it759 (fun z9 => by have h9 := hitb759; rw [z9] at h9; omega)).trans z) g42_it759
                        have h43 := h42.up44 (i0 := 2) (by decide) fw43 u43.1
                        have ke43 := z_ke h43 ke42 rfl
                        refine j_iload_n dX11_replaceTable_134 rfl ?_
                        refine j_aload dX11_replaceTable_135 rfl rfl ?_
                        refine j_iconst (v := 0) dX11_replaceTable_137 (by decide) ?_
                        refine j_ld dX11_replaceTable_138 ((h43.pr (t := i657) (by omega)).1 p770 hp770).2 (vp_in_nI (n := 0) (by decide) (by decide)) ?_
                        refine j_aload dX11_replaceTable_139 rfl rfl ?_
                        refine j_iconst (v := 1) dX11_replaceTable_141 (by decide) ?_
                        refine j_ld dX11_replaceTable_142 ((h43.pr (t := i657) (by omega)).1 p770 hp770).2 (vp_in_nI (n := 1) (by decide) (by decide)) ?_
                        refine j_iload_n dX11_replaceTable_143 rfl ?_
                        refine j_callS dX11_replaceTable_144 kX11_rule lX11_115 stX11_rule (cm_rule hl w43 _ _ _ _) (Nat.le_of_ble_eq_true rfl) ⟨(by show _ ≤ 2; omega), (by show _ ≤ 11; omega)⟩ rfl (Nat.le_of_ble_eq_true rfl) rfl rfl (fun _ _ h => h.elim) ?_
                        rintro _ _ ⟨⟨r778, rfl⟩, hw778⟩
                        refine j_w w43 hw778 ?_
                        refine j_istore (lo' := [(7, _), (6, _), (0, _), (1, _), (2, _), (3, _), (4, _), (5, _)]) dX11_replaceTable_147 (by decide) rfl ?_
                        refine j_iload dX11_replaceTable_149 rfl ?_
                        refine j_ldc dX11_replaceTable_151 kcX11_67 ?_
                        refine j_icmp_ne (tgt := 161) dX11_replaceTable_153 (by decide) (fun c_153_741 => ?_) (fun c_153_741 => ?_)
                        · refine j_aload dX11_replaceTable_161 rfl rfl ?_
                          refine j_iconst (v := 1) dX11_replaceTable_163 (by decide) ?_
                          refine j_iload dX11_replaceTable_164 rfl ?_
                          refine j_sto (w' := _) dX11_replaceTable_166 ((h43.pr (t := i657) (by omega)).1 p770 hp770).2 (vp_in_nI (n := 1) (by decide) (by decide)) rfl ?_
                          refine j_seal (((h43.pr (t := i657) (by omega)).1 p770 hp770).1.1) ?_
                          intro w44 u44
                          have hpp44 := ((h43.pr (t := i657) (by omega)).1 p770 hp770).1
                          have hpq44 := hpp44.2.1
                          have g44_it759 := (u44.2.1 it759 (by omega)).trans g43_it759
                          have fw44 := u44.fw (ρ := 14 + i657) hpp44.1 hpp44.2.1
                          have h44 := h43.up14 (t0 := i657) (by omega) hp770 u44 (z_ui_ne (by decide))
                          have ke44 := z_ke h44 ke43 rfl
                          refine j_aload dX11_replaceTable_167 rfl rfl ?_
                          refine j_iconst (v := 3) dX11_replaceTable_169 (by decide) ?_
                          refine j_dup2 dX11_replaceTable_170 rfl rfl ?_
                          refine j_ld dX11_replaceTable_171 (h44.cn (i := 2) (by decide)) (vp_in_nI (n := 3) (by decide) (by decide)) ?_
                          refine j_iconst (v := 1) dX11_replaceTable_172 (by decide) ?_
                          refine j_iadd dX11_replaceTable_173 ?_
                          refine j_sto (w' := _) dX11_replaceTable_174 (h44.cn (i := 2) (by decide)) (vp_in_nI (n := 3) (by decide) (by decide)) rfl ?_
                          refine j_seal (by omega) ?_
                          intro w45 u45
                          have fw45 := u45.fw (ρ := 44 + 2) (by omega) (by omega)
                          have g45_it759 := (fun z => (u45.2.1 it759 (fun z9 => by have h9 := hitb759; rw [z9] at h9; omega)).trans z) g44_it759
                          have h45 := h44.up44 (i0 := 2) (by decide) fw45 u45.1
                          have ke45 := z_ke h45 ke44 rfl
                          refine j_goto (tgt := 96) dX11_replaceTable_175 (by decide) ?_
                          refine j_widen (kc' := 2) (ks' := 11) (by omega) (by omega) ?_
                          exact j_lo2 (ih w45 _ (k + 1) _ (by omega) (by omega) h45 (((((hfm.tr fm41).tr (fw42.fm (q := 59) (by omega))).tr (fw43.fm (q := 59) (by omega))).tr (fw44.fm (q := 59) (by omega))).tr (fw45.fm (q := 59) (by omega))) ke45 (by show _ ≤ (z_qp s1 i657).2.length; omega) g45_it759) (z_q1 rfl (z_q1 rfl (z_q1 rfl (z_q1 rfl (z_q1 rfl (z_q1 rfl z_q0))))))
                        · refine j_aload_n dX11_replaceTable_156 rfl rfl ?_
                          refine j_callV (q := (RX11, TX11, 8)) dX11_replaceTable_157 kX11_nine lX11_105 inX11_nine seX11_nine h43.m rfl (cm_nine hl w43 _ h43) (Nat.le_of_ble_eq_true rfl) ⟨(by show _ ≤ 2; omega), (by show _ ≤ 11; omega)⟩ rfl (Nat.le_of_ble_eq_true rfl) rfl rfl (fun _ _ h => h.elim) ?_
                          rintro _ w46 ⟨rfl, fm46, h46⟩
                          have g46_it759 := fm46.g hita759 (by rw [hitb759]; decide) g43_it759
                          have ke46 := z_ke h46 ke43 rfl
                          refine j_iret dX11_replaceTable_160 rfl rfl ?_ (by show _ ≤ 2; omega) (by show _ ≤ 11; omega)
                          exact ⟨_, _, rfl, ((((hfm.tr fm41).tr (fw42.fm (q := 59) (by omega))).tr (fw43.fm (q := 59) (by omega))).tr (fm46.le (q' := 59) (by decide))), h46, ke46⟩
                  refine j_widen (kc' := 2) (ks' := 11) (by omega) (by omega) ?_
                  exact j_lo2 (loop96 21 w38 _ 0 _ (by omega) (by omega) h38 (((fm2.le (q' := 59) (by decide)).tr (fw37.fm (q := 59) (by omega))).tr fm38) ke38 (Nat.zero_le _) git759) (z_q1 rfl (z_q1 rfl (z_q1 rfl (z_q1 rfl (z_q1 rfl (z_q1 rfl z_q0))))))
              · exact absurd c_48_429 (by decide)
            · exact absurd c_36_423 (by decide)
        · refine j_iload_n dX11_replaceTable_22 rfl ?_
          refine j_iconst (v := 4) dX11_replaceTable_23 (by decide) ?_
          refine j_icmp_eq (tgt := 32) dX11_replaceTable_24 (by decide) (fun c_24_783 => ?_) (fun c_24_783 => ?_)
          · refine j_iload_n dX11_replaceTable_32 rfl ?_
            refine j_callS dX11_replaceTable_33 kX11_isNoValue lX11_79 stX11_isNoValue (cm_isNoValue hl w2 _) (Nat.le_of_ble_eq_true rfl) ⟨(by show _ ≤ 2; omega), (by show _ ≤ 11; omega)⟩ rfl (Nat.le_of_ble_eq_true rfl) rfl rfl (fun _ _ h => h.elim) ?_
            rintro _ _ ⟨⟨rfl, hno782⟩ | ⟨rfl, hye782⟩, hw782⟩
            · refine j_w w2 hw782 ?_
              refine j_if_eq (tgt := 43) dX11_replaceTable_36 (by decide) (fun c_36_788 => ?_) (fun c_36_788 => ?_)
              · exact absurd c_36_788 (by decide)
              · refine j_iconst (v := 1) dX11_replaceTable_39 (by decide) ?_
                refine j_goto (tgt := 44) dX11_replaceTable_40 (by decide) ?_
                refine j_iconst (v := 2) dX11_replaceTable_44 (by decide) ?_
                refine j_callV (q := (RX11, TX11, 8)) dX11_replaceTable_45 kX11_refuse lX11_52 inX11_refuse seX11_refuse h2.m rfl (cm_refuse1 hl w2 _ _ h2 rfl (by decide)) (Nat.le_of_ble_eq_true rfl) ⟨(by show _ ≤ 2; omega), (by show _ ≤ 11; omega)⟩ rfl (Nat.le_of_ble_eq_true rfl) rfl rfl (fun _ _ h => h.elim) ?_
                rintro _ w47 ⟨rfl, fm47, h47⟩
                have ke47 := z_ke h47 ke2 rfl
                refine j_if_eq (tgt := 53) dX11_replaceTable_48 (by decide) (fun c_48_796 => ?_) (fun c_48_796 => ?_)
                · exact absurd c_48_796 (by decide)
                · refine j_iconst (v := 0) dX11_replaceTable_51 (by decide) ?_
                  refine j_iret dX11_replaceTable_52 rfl rfl ?_ (by show _ ≤ 2; omega) (by show _ ≤ 11; omega)
                  exact ⟨_, _, rfl, ((fm2.le (q' := 59) (by decide)).tr (fm47.le (q' := 59) (by decide))), h47, ke47⟩
            · refine j_w w2 hw782 ?_
              refine j_if_eq (tgt := 43) dX11_replaceTable_36 (by decide) (fun c_36_802 => ?_) (fun c_36_802 => ?_)
              · refine j_iconst (v := 0) dX11_replaceTable_43 (by decide) ?_
                refine j_iconst (v := 2) dX11_replaceTable_44 (by decide) ?_
                refine j_callV (q := (RX11, TX11, 8)) dX11_replaceTable_45 kX11_refuse lX11_52 inX11_refuse seX11_refuse h2.m rfl (cm_refuse0 hl w2 _ _ h2 rfl) (Nat.le_of_ble_eq_true rfl) ⟨(by show _ ≤ 2; omega), (by show _ ≤ 11; omega)⟩ rfl (Nat.le_of_ble_eq_true rfl) rfl rfl (fun _ _ h => h.elim) ?_
                rintro _ _ ⟨rfl, hw783⟩
                refine j_w w2 hw783 ?_
                refine j_if_eq (tgt := 53) dX11_replaceTable_48 (by decide) (fun c_48_808 => ?_) (fun c_48_808 => ?_)
                · refine j_iload_n dX11_replaceTable_53 rfl ?_
                  refine j_if_ne (tgt := 66) dX11_replaceTable_54 (by decide) (fun c_54_810 => ?_) (fun c_54_810 => ?_)
                  · have hb54 : ¬ i657 = 0 := fun z => c_54_810 (show nI i657 = nI 0 by rw [z])
                    refine j_bipush (v := 7) dX11_replaceTable_66 (by decide) ?_
                    obtain ⟨x3, hx3a, hx3b, hx3c⟩ := z_fresh (57) (by decide) h2.fn
                    refine j_newa (kd := 0) (N := 7) (w' := _) (n := x3) dX11_replaceTable_68 rfl rfl arc_int ⟨rfl, fun _ _ h => h⟩ (by decide) rfl (by decide) rfl (z_alW hx3c hx3a) (Nat.le_of_ble_eq_true rfl) (Nat.le_of_ble_eq_true rfl) ?_
                    refine j_seal hx3a ?_
                    intro w48 u48
                    have fw48 := u48.fw hx3a hx3b
                    have g48_x3 := u48.1
                    have h48 := h2.gar fw48 (by omega)
                    have ke48 := z_ke h48 ke2 rfl
                    refine j_astore (lo' := [(4, _), (0, _), (1, _), (2, _), (3, _)]) dX11_replaceTable_70 rfl (by decide) rfl ?_
                    refine j_aload dX11_replaceTable_72 rfl rfl ?_
                    refine j_iconst (v := 0) dX11_replaceTable_74 (by decide) ?_
                    refine j_dup2 dX11_replaceTable_75 rfl rfl ?_
                    refine j_ld dX11_replaceTable_76 g48_x3 (vp_in_nI (n := 0) (by decide) (by decide)) ?_
                    refine j_iconst (v := 1) dX11_replaceTable_77 (by decide) ?_
                    refine j_iadd dX11_replaceTable_78 ?_
                    refine j_sto (w' := _) dX11_replaceTable_79 g48_x3 (vp_in_nI (n := 0) (by decide) (by decide)) rfl ?_
                    refine j_seal hx3a ?_
                    intro w49 u49
                    have fw49 := u49.fw hx3a hx3b
                    have g49_x3 := u49.1
                    have h49 := h48.gar fw49 (by omega)
                    have ke49 := z_ke h49 ke48 rfl
                    refine j_aload_n dX11_replaceTable_80 rfl rfl ?_
                    refine j_getf dX11_replaceTable_81 fX11_34 h49.m rfl ?_
                    refine j_iload_n dX11_replaceTable_84 rfl ?_
                    obtain ⟨lv788, -, lg788⟩ := z_li.cell h49.tabs
                    refine j_callV (q := (RJx4a65c, TJx4a65c, 3)) dX11_replaceTable_85 kJx4a65c_get_915e3 lX11_82 inJx4a65c_get_915e3 seJx4a65c_get_915e3 lg788 rfl (cl_get hl w49 47 1007 _ _ (i657) _ h49.tabs (z_thr3 (t := i657) (by omega))) (Nat.le_of_ble_eq_true rfl) ⟨(by show _ ≤ 2; omega), (by show _ ≤ 11; omega)⟩ rfl (Nat.le_of_ble_eq_true rfl) rfl rfl (fun _ _ h => h.elim) ?_
                    rintro _ _ ⟨rfl, hw789⟩
                    refine j_w w49 hw789 ?_
                    refine j_castS dX11_replaceTable_88 (z_w 1341 ((lwg_6 96).trans (by decide +kernel)) (by decide +kernel)) (z_li.is (h49.tb (t := i657) (by omega))) ?_
                    obtain ⟨lv792, -, lg792⟩ := z_li.cell (h49.tb (t := i657) (by omega))
                    refine j_callV (q := (RJx4a65c, TJx4a65c, 3)) dX11_replaceTable_91 kJx4a65c_iterator_32c93 lX11_162 inJx4a65c_iterator_32c93 seJx4a65c_iterator_32c93 lg792 rfl (cl_iter hl w49 58 (51 + i657) _ _ _ (h49.tb (t := i657) (by omega)) (by decide) (by omega) h49.fn) (Nat.le_of_ble_eq_true rfl) ⟨(by show _ ≤ 2; omega), (by show _ ≤ 11; omega)⟩ rfl (Nat.le_of_ble_eq_true rfl) rfl rfl (fun _ _ h => h.elim) ?_
                    rintro _ w50 ⟨it791, rfl, fw50, hita791, hitb791, hitc791, la791, git791⟩
                    have hita791 : 1000 ≤ it791 := hita791
                    have hitb791 : it791 % 64 = 58 := hitb791
                    have n_x3_it791 := z_neF hitc791 g49_x3
                    have g50_x3 := fw50.g (Or.inr (by omega)) g49_x3
                    have fm50 := fw50.fm (q := 59) (by omega)
                    have h50 := h49.gar fw50 (by omega)
                    have ke50 := z_ke h50 ke49 rfl
                    refine j_astore (lo' := [(5, _), (4, _), (0, _), (1, _), (2, _), (3, _)]) dX11_replaceTable_94 rfl (by decide) rfl ?_
                    have loop96 : ∀ (n9 : Nat) (w51 : z_W) (s1 : z_Z) (k : Nat) (la : Int32) (F : Nat → Int32), (k ≤ 20) → (20 < k + n9) → (z_mst w51 s1) → (z_fm 59 w w51) → (z_key s1 = z_key s) → (k ≤ (z_qp s1 i657).2.length) → (z_g w51 it791 = some (.inr (3, [.int (nI k), .int la, .int (z_qp s1 i657).1, .ref (1011 + i657)]))) → (z_g w51 x3 = some (.inl (0, 7, fun j => .int (F j)))) → z_J G l mX11_replaceTable (22, 2, 11, w, (fun v w9 => ∃ (r : Int32) (s9 : z_Z), v = some (.int r) ∧ z_fm 59 w w9 ∧ z_mst w9 s9 ∧ z_key s9 = z_key s), (fun _ _ => False)) 96 [(0, .ref 1000), (1, .int (nI i657)), (2, .int y), (3, .int z), (4, .ref x3), (5, .ref it791)] [] w51 2 11 := by
                      intro n9
                      induction n9 with
                      | zero => intro w51 s1 k la F hj hf9 hm hfm hke hkl git gx; exact absurd hf9 (by omega)
                      | succ n9 ih =>
                        intro w51 s1 k la F hj hf9 hm hfm hke hkl git gx
                        refine j_aload dX11_replaceTable_96 rfl rfl ?_
                        refine j_callF (x := ⟨"java/util/Iterator", "hasNext", "()Z"⟩) (q := (RJx35411, TJx35411, 4)) dX11_replaceTable_98 kJx35411_hasNext_aae02 ⟨(z_w 1765 ((lwg_8 40).trans (by decide +kernel)) (by decide +kernel)), (z_w 1769 ((lwg_8 44).trans (by decide +kernel)) (by decide +kernel)), inJx35411_hasNext_aae02, ⟨by decide, by decide⟩, rfl, fun U h => h.2.1⟩ git rfl (cl_hasN hl w51 _ (51 + i657) _ (k) _ _ (hm.tb (t := i657) (by omega)) ⟨_, git⟩ (by rw [z_rs_len]; omega)) (Nat.le_of_ble_eq_true rfl) ⟨(by show _ ≤ 2; omega), (by show _ ≤ 11; omega)⟩ rfl (Nat.le_of_ble_eq_true rfl) rfl ?_
                        rintro _ _ ⟨⟨x793, rfl, hz793, hp793⟩, hw793⟩
                        refine j_w w51 hw793 ?_
                        refine j_if_eq (tgt := 178) dX11_replaceTable_103 (by decide) (fun c_103_864 => ?_) (fun c_103_864 => ?_)
                        · have hk103 : k = (z_qp s1 (i657)).2.length := (z_rs_len ▸ hz793 c_103_864)
                          refine j_aload dX11_replaceTable_178 rfl rfl ?_
                          refine j_iconst (v := 1) dX11_replaceTable_180 (by decide) ?_
                          refine j_dup2 dX11_replaceTable_181 rfl rfl ?_
                          refine j_ld dX11_replaceTable_182 gx (vp_in_nI (n := 1) (by decide) (by decide)) ?_
                          refine j_iconst (v := 1) dX11_replaceTable_183 (by decide) ?_
                          refine j_iadd dX11_replaceTable_184 ?_
                          refine j_sto (w' := _) dX11_replaceTable_185 gx (vp_in_nI (n := 1) (by decide) (by decide)) rfl ?_
                          refine j_seal hx3a ?_
                          intro w52 u52
                          have fw52 := u52.fw hx3a hx3b
                          have g52_it791 := (u52.2.1 it791 (Ne.symm n_x3_it791)).trans git
                          have g52_x3 := u52.1
                          have h52 := hm.gar fw52 (by omega)
                          have ke52 := z_ke h52 hke rfl
                          refine j_aload_n dX11_replaceTable_186 rfl rfl ?_
                          refine j_getf dX11_replaceTable_187 fX11_34 h52.m rfl ?_
                          refine j_iload_n dX11_replaceTable_190 rfl ?_
                          obtain ⟨lv797, -, lg797⟩ := z_li.cell h52.tabs
                          refine j_callV (q := (RJx4a65c, TJx4a65c, 3)) dX11_replaceTable_191 kJx4a65c_get_915e3 lX11_82 inJx4a65c_get_915e3 seJx4a65c_get_915e3 lg797 rfl (cl_get hl w52 47 1007 _ _ (i657) _ h52.tabs (z_thr3 (t := i657) (by omega))) (Nat.le_of_ble_eq_true rfl) ⟨(by show _ ≤ 2; omega), (by show _ ≤ 11; omega)⟩ rfl (Nat.le_of_ble_eq_true rfl) rfl rfl (fun _ _ h => h.elim) ?_
                          rintro _ _ ⟨rfl, hw798⟩
                          refine j_w w52 hw798 ?_
                          refine j_castS dX11_replaceTable_194 (z_w 1341 ((lwg_6 96).trans (by decide +kernel)) (by decide +kernel)) (z_li.is (h52.tb (t := i657) (by omega))) ?_
                          obtain ⟨lv800, -, lg800⟩ := z_li.cell (h52.tb (t := i657) (by omega))
                          refine j_callV (q := (RJx4a65c, TJx4a65c, 3)) dX11_replaceTable_197 kJx4a65c_size_8abf5 lX11_86 inJx4a65c_size_8abf5 seJx4a65c_size_8abf5 lg800 rfl (cl_sizeR hl w52 _ _ _ _ (h52.tb (t := i657) (by omega))) (Nat.le_of_ble_eq_true rfl) ⟨(by show _ ≤ 2; omega), (by show _ ≤ 11; omega)⟩ rfl (Nat.le_of_ble_eq_true rfl) rfl rfl (fun _ _ h => h.elim) ?_
                          rintro _ _ ⟨⟨n801, rfl, hn801⟩, hw801⟩
                          refine j_w w52 hw801 ?_
                          have hn801 : n801 = (z_qp s1 (i657)).2.length := hn801
                          have hz801 : (z_qp s1 (i657)).2.length ≤ 20 := (h52.pr (t := i657) (by omega)).len
                          refine j_iret dX11_replaceTable_200 rfl rfl ?_ (by show _ ≤ 2; omega) (by show _ ≤ 11; omega)
                          exact ⟨_, _, rfl, (hfm.tr (fw52.fm (q := 59) (by omega))), h52, ke52⟩
                        · have hk103 : k < (z_qp s1 (i657)).2.length := (z_rs_len ▸ hp793 c_103_864)
                          have hzk103 : (z_qp s1 (i657)).2.length ≤ 20 := (hm.pr (t := i657) (by omega)).len
                          refine j_aload dX11_replaceTable_106 rfl rfl ?_
                          obtain ⟨p802, hp802, hq802, hk802⟩ := z_rs_ex (P := (z_qp s1 (i657)).2) (k := k) (by omega)
                          refine j_callF (x := ⟨"java/util/Iterator", "next", "()Ljava/lang/Object;"⟩) (q := (RJx35411, TJx35411, 4)) dX11_replaceTable_108 kJx35411_next_0502b ⟨(z_w 1775 ((lwg_8 50).trans (by decide +kernel)) (by decide +kernel)), (z_w 1778 ((lwg_8 53).trans (by decide +kernel)) (by decide +kernel)), inJx35411_next_0502b, ⟨by decide, by decide⟩, rfl, fun U h => h.2.2.1⟩ git rfl (cl_next hl w51 58 it791 (51 + i657) _ (k) _ _ _ (hm.tb (t := i657) (by omega)) ⟨_, git⟩ hq802 hita791 hitb791 (by omega)) (Nat.le_of_ble_eq_true rfl) ⟨(by show _ ≤ 2; omega), (by show _ ≤ 11; omega)⟩ rfl (Nat.le_of_ble_eq_true rfl) rfl ?_
                          rintro _ w53 ⟨rfl, fw53, la53, git53⟩
                          have g53_x3 := fw53.g (Or.inr (by omega)) gx
                          have fm53 := fw53.fm (q := 59) (by omega)
                          have h53 := hm.gar fw53 (by omega)
                          have ke53 := z_ke h53 hke rfl
                          refine j_castS dX11_replaceTable_113 (z_w 1663 ((lwg_7 178).trans (by decide +kernel)) (by decide +kernel)) (z_isA ((h53.pr (t := i657) (by omega)).1 p802 hp802).2) ?_
                          refine j_astore (lo' := [(6, _), (0, _), (1, _), (2, _), (3, _), (4, _), (5, _)]) dX11_replaceTable_116 rfl (by decide) rfl ?_
                          refine j_aload dX11_replaceTable_118 rfl rfl ?_
                          refine j_iconst (v := 1) dX11_replaceTable_120 (by decide) ?_
                          refine j_dup2 dX11_replaceTable_121 rfl rfl ?_
                          refine j_ld dX11_replaceTable_122 g53_x3 (vp_in_nI (n := 1) (by decide) (by decide)) ?_
                          refine j_iconst (v := 1) dX11_replaceTable_123 (by decide) ?_
                          refine j_iadd dX11_replaceTable_124 ?_
                          refine j_sto (w' := _) dX11_replaceTable_125 g53_x3 (vp_in_nI (n := 1) (by decide) (by decide)) rfl ?_
                          refine j_seal hx3a ?_
                          intro w54 u54
                          have fw54 := u54.fw hx3a hx3b
                          have g54_it791 := (u54.2.1 it791 (Ne.symm n_x3_it791)).trans git53
                          have g54_x3 := u54.1
                          have h54 := h53.gar fw54 (by omega)
                          have ke54 := z_ke h54 ke53 rfl
                          refine j_aload dX11_replaceTable_126 rfl rfl ?_
                          refine j_iconst (v := 2) dX11_replaceTable_128 (by decide) ?_
                          refine j_dup2 dX11_replaceTable_129 rfl rfl ?_
                          refine j_ld dX11_replaceTable_130 g54_x3 (vp_in_nI (n := 2) (by decide) (by decide)) ?_
                          refine j_iconst (v := 1) dX11_replaceTable_131 (by decide) ?_
                          refine j_iadd dX11_replaceTable_132 ?_
                          refine j_sto (w' := _) dX11_replaceTable_133 g54_x3 (vp_in_nI (n := 2) (by decide) (by decide)) rfl ?_
                          refine j_seal hx3a ?_
                          intro w55 u55
                          have fw55 := u55.fw hx3a hx3b
                          have g55_it791 := (u55.2.1 it791 (Ne.symm n_x3_it791)).trans g54_it791
                          have g55_x3 := u55.1
                          have h55 := h54.gar fw55 (by omega)
                          have ke55 := z_ke h55 ke54 rfl
                          refine j_iload_n dX11_replaceTable_134 rfl ?_
                          refine j_aload dX11_replaceTable_135 rfl rfl ?_
                          refine j_iconst (v := 0) dX11_replaceTable_137 (by decide) ?_
                          refine j_ld dX11_replaceTable_138 ((h55.pr (t := i657) (by omega)).1 p802 hp802).2 (vp_in_nI (n := 0) (by decide) (by decide)) ?_
                          refine j_aload dX11_replaceTable_139 rfl rfl ?_
                          refine j_iconst (v := 1) dX11_replaceTable_141 (by decide) ?_
                          refine j_ld dX11_replaceTable_142 ((h55.pr (t := i657) (by omega)).1 p802 hp802).2 (vp_in_nI (n := 1) (by decide) (by decide)) ?_
                          refine j_iload_n dX11_replaceTable_143 rfl ?_
                          refine j_callS dX11_replaceTable_144 kX11_rule lX11_115 stX11_rule (cm_rule hl w55 _ _ _ _) (Nat.le_of_ble_eq_true rfl) ⟨(by show _ ≤ 2; omega), (by show _ ≤ 11; omega)⟩ rfl (Nat.le_of_ble_eq_true rfl) rfl rfl (fun _ _ h => h.elim) ?_
                          rintro _ _ ⟨⟨r810, rfl⟩, hw810⟩
                          refine j_w w55 hw810 ?_
                          refine j_istore (lo' := [(7, _), (6, _), (0, _), (1, _), (2, _), (3, _), (4, _), (5, _)]) dX11_replaceTable_147 (by decide) rfl ?_
                          refine j_iload dX11_replaceTable_149 rfl ?_
                          refine j_ldc dX11_replaceTable_151 kcX11_67 ?_
                          refine j_icmp_ne (tgt := 161) dX11_replaceTable_153 (by decide) (fun c_153_950 => ?_) (fun c_153_950 => ?_)
                          · refine j_aload dX11_replaceTable_161 rfl rfl ?_
                            refine j_iconst (v := 1) dX11_replaceTable_163 (by decide) ?_
                            refine j_iload dX11_replaceTable_164 rfl ?_
                            refine j_sto (w' := _) dX11_replaceTable_166 ((h55.pr (t := i657) (by omega)).1 p802 hp802).2 (vp_in_nI (n := 1) (by decide) (by decide)) rfl ?_
                            refine j_seal (((h55.pr (t := i657) (by omega)).1 p802 hp802).1.1) ?_
                            intro w56 u56
                            have hpp56 := ((h55.pr (t := i657) (by omega)).1 p802 hp802).1
                            have hpq56 := hpp56.2.1
                            have g56_it791 := (u56.2.1 it791 (by omega)).trans g55_it791
                            have g56_x3 := (u56.2.1 x3 (by omega)).trans g55_x3
                            have fw56 := u56.fw (ρ := 14 + i657) hpp56.1 hpp56.2.1
                            have h56 := h55.up14 (t0 := i657) (by omega) hp802 u56 (z_ui_ne (by decide))
                            have ke56 := z_ke h56 ke55 rfl
                            refine j_aload dX11_replaceTable_167 rfl rfl ?_
                            refine j_iconst (v := 3) dX11_replaceTable_169 (by decide) ?_
                            refine j_dup2 dX11_replaceTable_170 rfl rfl ?_
                            refine j_ld dX11_replaceTable_171 g56_x3 (vp_in_nI (n := 3) (by decide) (by decide)) ?_
                            refine j_iconst (v := 1) dX11_replaceTable_172 (by decide) ?_
                            refine j_iadd dX11_replaceTable_173 ?_
                            refine j_sto (w' := _) dX11_replaceTable_174 g56_x3 (vp_in_nI (n := 3) (by decide) (by decide)) rfl ?_
                            refine j_seal hx3a ?_
                            intro w57 u57
                            have fw57 := u57.fw hx3a hx3b
                            have g57_it791 := (u57.2.1 it791 (Ne.symm n_x3_it791)).trans g56_it791
                            have g57_x3 := u57.1
                            have h57 := h56.gar fw57 (by omega)
                            have ke57 := z_ke h57 ke56 rfl
                            refine j_goto (tgt := 96) dX11_replaceTable_175 (by decide) ?_
                            refine j_widen (kc' := 2) (ks' := 11) (by omega) (by omega) ?_
                            exact j_lo2 (ih w57 _ (k + 1) _ _ (by omega) (by omega) h57 (((((hfm.tr fm53).tr (fw54.fm (q := 59) (by omega))).tr (fw55.fm (q := 59) (by omega))).tr (fw56.fm (q := 59) (by omega))).tr (fw57.fm (q := 59) (by omega))) ke57 (by show _ ≤ (z_qp s1 i657).2.length; omega) g57_it791 g57_x3) (z_q1 rfl (z_q1 rfl (z_q1 rfl (z_q1 rfl (z_q1 rfl (z_q1 rfl z_q0))))))
                          · refine j_aload_n dX11_replaceTable_156 rfl rfl ?_
                            refine j_callV (q := (RX11, TX11, 8)) dX11_replaceTable_157 kX11_nine lX11_105 inX11_nine seX11_nine h55.m rfl (cm_nine hl w55 _ h55) (Nat.le_of_ble_eq_true rfl) ⟨(by show _ ≤ 2; omega), (by show _ ≤ 11; omega)⟩ rfl (Nat.le_of_ble_eq_true rfl) rfl rfl (fun _ _ h => h.elim) ?_
                            rintro _ w58 ⟨rfl, fm58, h58⟩
                            have g58_it791 := fm58.g hita791 (by rw [hitb791]; decide) g55_it791
                            have g58_x3 := fm58.g hx3a (by rw [hx3b]; decide) g55_x3
                            have ke58 := z_ke h58 ke55 rfl
                            refine j_iret dX11_replaceTable_160 rfl rfl ?_ (by show _ ≤ 2; omega) (by show _ ≤ 11; omega)
                            exact ⟨_, _, rfl, ((((hfm.tr fm53).tr (fw54.fm (q := 59) (by omega))).tr (fw55.fm (q := 59) (by omega))).tr (fm58.le (q' := 59) (by decide))), h58, ke58⟩
                    refine j_widen (kc' := 2) (ks' := 11) (by omega) (by omega) ?_
                    exact j_lo2 (loop96 21 w50 _ 0 _ _ (by omega) (by omega) h50 ((((fm2.le (q' := 59) (by decide)).tr (fw48.fm (q := 59) (by omega))).tr (fw49.fm (q := 59) (by omega))).tr fm50) ke50 (Nat.zero_le _) git791 g50_x3) (z_q1 rfl (z_q1 rfl (z_q1 rfl (z_q1 rfl (z_q1 rfl (z_q1 rfl z_q0))))))
                  · have hb54 : i657 = 0 := nI_inj (a := i657) (b := 0) c_54_810 (by omega) (by omega)
                    refine j_aload_n dX11_replaceTable_57 rfl rfl ?_
                    refine j_getf dX11_replaceTable_58 fX11_31 h2.m rfl ?_
                    refine j_iconst (v := 2) dX11_replaceTable_61 (by decide) ?_
                    obtain ⟨fz814, gz814, hz814⟩ := h2.co
                    refine j_aald (v := .ref (1004 + 2)) dX11_replaceTable_62 gz814 rfl rfl (vp_in_nI (n := 2) (by decide) (by decide)) (by rw [show (2 : Int32).toNatClampNeg = 2 by decide]; exact hz814 _ (by decide)) ?_
                    refine j_goto (tgt := 70) dX11_replaceTable_63 (by decide) ?_
                    refine j_astore (lo' := [(4, _), (0, _), (1, _), (2, _), (3, _)]) dX11_replaceTable_70 rfl (by decide) rfl ?_
                    refine j_aload dX11_replaceTable_72 rfl rfl ?_
                    refine j_iconst (v := 0) dX11_replaceTable_74 (by decide) ?_
                    refine j_dup2 dX11_replaceTable_75 rfl rfl ?_
                    refine j_ld dX11_replaceTable_76 (h2.cn (i := 2) (by decide)) (vp_in_nI (n := 0) (by decide) (by decide)) ?_
                    refine j_iconst (v := 1) dX11_replaceTable_77 (by decide) ?_
                    refine j_iadd dX11_replaceTable_78 ?_
                    refine j_sto (w' := _) dX11_replaceTable_79 (h2.cn (i := 2) (by decide)) (vp_in_nI (n := 0) (by decide) (by decide)) rfl ?_
                    refine j_seal (by omega) ?_
                    intro w59 u59
                    have fw59 := u59.fw (ρ := 44 + 2) (by omega) (by omega)
                    have h59 := h2.up44 (i0 := 2) (by decide) fw59 u59.1
                    have ke59 := z_ke h59 ke2 rfl
                    refine j_aload_n dX11_replaceTable_80 rfl rfl ?_
                    refine j_getf dX11_replaceTable_81 fX11_34 h59.m rfl ?_
                    refine j_iload_n dX11_replaceTable_84 rfl ?_
                    obtain ⟨lv818, -, lg818⟩ := z_li.cell h59.tabs
                    refine j_callV (q := (RJx4a65c, TJx4a65c, 3)) dX11_replaceTable_85 kJx4a65c_get_915e3 lX11_82 inJx4a65c_get_915e3 seJx4a65c_get_915e3 lg818 rfl (cl_get hl w59 47 1007 _ _ (i657) _ h59.tabs (z_thr3 (t := i657) (by omega))) (Nat.le_of_ble_eq_true rfl) ⟨(by show _ ≤ 2; omega), (by show _ ≤ 11; omega)⟩ rfl (Nat.le_of_ble_eq_true rfl) rfl rfl (fun _ _ h => h.elim) ?_
                    rintro _ _ ⟨rfl, hw819⟩
                    refine j_w w59 hw819 ?_
                    refine j_castS dX11_replaceTable_88 (z_w 1341 ((lwg_6 96).trans (by decide +kernel)) (by decide +kernel)) (z_li.is (h59.tb (t := i657) (by omega))) ?_
                    obtain ⟨lv822, -, lg822⟩ := z_li.cell (h59.tb (t := i657) (by omega))
                    refine j_callV (q := (RJx4a65c, TJx4a65c, 3)) dX11_replaceTable_91 kJx4a65c_iterator_32c93 lX11_162 inJx4a65c_iterator_32c93 seJx4a65c_iterator_32c93 lg822 rfl (cl_iter hl w59 58 (51 + i657) _ _ _ (h59.tb (t := i657) (by omega)) (by decide) (by omega) h59.fn) (Nat.le_of_ble_eq_true rfl) ⟨(by show _ ≤ 2; omega), (by show _ ≤ 11; omega)⟩ rfl (Nat.le_of_ble_eq_true rfl) rfl rfl (fun _ _ h => h.elim) ?_
                    rintro _ w60 ⟨it821, rfl, fw60, hita821, hitb821, hitc821, la821, git821⟩
                    have hita821 : 1000 ≤ it821 := hita821
                    have hitb821 : it821 % 64 = 58 := hitb821
                    have fm60 := fw60.fm (q := 59) (by omega)
                    have h60 := h59.gar fw60 (by omega)
                    have ke60 := z_ke h60 ke59 rfl
                    refine j_astore (lo' := [(5, _), (4, _), (0, _), (1, _), (2, _), (3, _)]) dX11_replaceTable_94 rfl (by decide) rfl ?_
                    have loop96 : ∀ (n9 : Nat) (w61 : z_W) (s1 : z_Z) (k : Nat) (la : Int32), (k ≤ 20) → (20 < k + n9) → (z_mst w61 s1) → (z_fm 59 w w61) → (z_key s1 = z_key s) → (k ≤ (z_qp s1 i657).2.length) → (z_g w61 it821 = some (.inr (3, [.int (nI k), .int la, .int (z_qp s1 i657).1, .ref (1011 + i657)]))) → z_J G l mX11_replaceTable (22, 2, 11, w, (fun v w9 => ∃ (r : Int32) (s9 : z_Z), v = some (.int r) ∧ z_fm 59 w w9 ∧ z_mst w9 s9 ∧ z_key s9 = z_key s), (fun _ _ => False)) 96 [(0, .ref 1000), (1, .int (nI i657)), (2, .int y), (3, .int z), (4, .ref (1004 + 2)), (5, .ref it821)] [] w61 2 11 := by
                      intro n9
                      induction n9 with
                      | zero => intro w61 s1 k la hj hf9 hm hfm hke hkl git; exact absurd hf9 (by omega)
                      | succ n9 ih =>
                        intro w61 s1 k la hj hf9 hm hfm hke hkl git
                        refine j_aload dX11_replaceTable_96 rfl rfl ?_
                        refine j_callF (x := ⟨"java/util/Iterator", "hasNext", "()Z"⟩) (q := (RJx35411, TJx35411, 4)) dX11_replaceTable_98 kJx35411_hasNext_aae02 ⟨(z_w 1765 ((lwg_8 40).trans (by decide +kernel)) (by decide +kernel)), (z_w 1769 ((lwg_8 44).trans (by decide +kernel)) (by decide +kernel)), inJx35411_hasNext_aae02, ⟨by decide, by decide⟩, rfl, fun U h => h.2.1⟩ git rfl (cl_hasN hl w61 _ (51 + i657) _ (k) _ _ (hm.tb (t := i657) (by omega)) ⟨_, git⟩ (by rw [z_rs_len]; omega)) (Nat.le_of_ble_eq_true rfl) ⟨(by show _ ≤ 2; omega), (by show _ ≤ 11; omega)⟩ rfl (Nat.le_of_ble_eq_true rfl) rfl ?_
                        rintro _ _ ⟨⟨x823, rfl, hz823, hp823⟩, hw823⟩
                        refine j_w w61 hw823 ?_
                        refine j_if_eq (tgt := 178) dX11_replaceTable_103 (by decide) (fun c_103_1038 => ?_) (fun c_103_1038 => ?_)
                        · have hk103 : k = (z_qp s1 (i657)).2.length := (z_rs_len ▸ hz823 c_103_1038)
                          refine j_aload dX11_replaceTable_178 rfl rfl ?_
                          refine j_iconst (v := 1) dX11_replaceTable_180 (by decide) ?_
                          refine j_dup2 dX11_replaceTable_181 rfl rfl ?_
                          refine j_ld dX11_replaceTable_182 (hm.cn (i := 2) (by decide)) (vp_in_nI (n := 1) (by decide) (by decide)) ?_
                          refine j_iconst (v := 1) dX11_replaceTable_183 (by decide) ?_
                          refine j_iadd dX11_replaceTable_184 ?_
                          refine j_sto (w' := _) dX11_replaceTable_185 (hm.cn (i := 2) (by decide)) (vp_in_nI (n := 1) (by decide) (by decide)) rfl ?_
                          refine j_seal (by omega) ?_
                          intro w62 u62
                          have fw62 := u62.fw (ρ := 44 + 2) (by omega) (by omega)
                          have g62_it821 := (fun z => (u62.2.1 it821 (fun z9 => by have h9 := hitb821; rw [z9] at h9; omega)).trans z) git
                          have h62 := hm.up44 (i0 := 2) (by decide) fw62 u62.1
                          have ke62 := z_ke h62 hke rfl
                          refine j_aload_n dX11_replaceTable_186 rfl rfl ?_
                          refine j_getf dX11_replaceTable_187 fX11_34 h62.m rfl ?_
                          refine j_iload_n dX11_replaceTable_190 rfl ?_
                          obtain ⟨lv827, -, lg827⟩ := z_li.cell h62.tabs
                          refine j_callV (q := (RJx4a65c, TJx4a65c, 3)) dX11_replaceTable_191 kJx4a65c_get_915e3 lX11_82 inJx4a65c_get_915e3 seJx4a65c_get_915e3 lg827 rfl (cl_get hl w62 47 1007 _ _ (i657) _ h62.tabs (z_thr3 (t := i657) (by omega))) (Nat.le_of_ble_eq_true rfl) ⟨(by show _ ≤ 2; omega), (by show _ ≤ 11; omega)⟩ rfl (Nat.le_of_ble_eq_true rfl) rfl rfl (fun _ _ h => h.elim) ?_
                          rintro _ _ ⟨rfl, hw828⟩
                          refine j_w w62 hw828 ?_
                          refine j_castS dX11_replaceTable_194 (z_w 1341 ((lwg_6 96).trans (by decide +kernel)) (by decide +kernel)) (z_li.is (h62.tb (t := i657) (by omega))) ?_
                          obtain ⟨lv830, -, lg830⟩ := z_li.cell (h62.tb (t := i657) (by omega))
                          refine j_callV (q := (RJx4a65c, TJx4a65c, 3)) dX11_replaceTable_197 kJx4a65c_size_8abf5 lX11_86 inJx4a65c_size_8abf5 seJx4a65c_size_8abf5 lg830 rfl (cl_sizeR hl w62 _ _ _ _ (h62.tb (t := i657) (by omega))) (Nat.le_of_ble_eq_true rfl) ⟨(by show _ ≤ 2; omega), (by show _ ≤ 11; omega)⟩ rfl (Nat.le_of_ble_eq_true rfl) rfl rfl (fun _ _ h => h.elim) ?_
                          rintro _ _ ⟨⟨n831, rfl, hn831⟩, hw831⟩
                          refine j_w w62 hw831 ?_
                          have hn831 : n831 = (z_qp s1 (i657)).2.length := hn831
                          have hz831 : (z_qp s1 (i657)).2.length ≤ 20 := (h62.pr (t := i657) (by omega)).len
                          refine j_iret dX11_replaceTable_200 rfl rfl ?_ (by show _ ≤ 2; omega) (by show _ ≤ 11; omega)
                          exact ⟨_, _, rfl, (hfm.tr (fw62.fm (q := 59) (by omega))), h62, ke62⟩
                        · have hk103 : k < (z_qp s1 (i657)).2.length := (z_rs_len ▸ hp823 c_103_1038)
                          have hzk103 : (z_qp s1 (i657)).2.length ≤ 20 := (hm.pr (t := i657) (by omega)).len
                          refine j_aload dX11_replaceTable_106 rfl rfl ?_
                          obtain ⟨p832, hp832, hq832, hk832⟩ := z_rs_ex (P := (z_qp s1 (i657)).2) (k := k) (by omega)
                          refine j_callF (x := ⟨"java/util/Iterator", "next", "()Ljava/lang/Object;"⟩) (q := (RJx35411, TJx35411, 4)) dX11_replaceTable_108 kJx35411_next_0502b ⟨(z_w 1775 ((lwg_8 50).trans (by decide +kernel)) (by decide +kernel)), (z_w 1778 ((lwg_8 53).trans (by decide +kernel)) (by decide +kernel)), inJx35411_next_0502b, ⟨by decide, by decide⟩, rfl, fun U h => h.2.2.1⟩ git rfl (cl_next hl w61 58 it821 (51 + i657) _ (k) _ _ _ (hm.tb (t := i657) (by omega)) ⟨_, git⟩ hq832 hita821 hitb821 (by omega)) (Nat.le_of_ble_eq_true rfl) ⟨(by show _ ≤ 2; omega), (by show _ ≤ 11; omega)⟩ rfl (Nat.le_of_ble_eq_true rfl) rfl ?_
                          rintro _ w63 ⟨rfl, fw63, la63, git63⟩
                          have fm63 := fw63.fm (q := 59) (by omega)
                          have h63 := hm.gar fw63 (by omega)
                          have ke63 := z_ke h63 hke rfl
                          refine j_castS dX11_replaceTable_113 (z_w 1663 ((lwg_7 178).trans (by decide +kernel)) (by decide +kernel)) (z_isA ((h63.pr (t := i657) (by omega)).1 p832 hp832).2) ?_
                          refine j_astore (lo' := [(6, _), (0, _), (1, _), (2, _), (3, _), (4, _), (5, _)]) dX11_replaceTable_116 rfl (by decide) rfl ?_
                          refine j_aload dX11_replaceTable_118 rfl rfl ?_
                          refine j_iconst (v := 1) dX11_replaceTable_120 (by decide) ?_
                          refine j_dup2 dX11_replaceTable_121 rfl rfl ?_
                          refine j_ld dX11_replaceTable_122 (h63.cn (i := 2) (by decide)) (vp_in_nI (n := 1) (by decide) (by decide)) ?_
                          refine j_iconst (v := 1) dX11_replaceTable_123 (by decide) ?_
                          refine j_iadd dX11_replaceTable_124 ?_
                          refine j_sto (w' := _) dX11_replaceTable_125 (h63.cn (i := 2) (by decide)) (vp_in_nI (n := 1) (by decide) (by decide)) rfl ?_
                          refine j_seal (by omega) ?_
                          intro w64 u64
                          have fw64 := u64.fw (ρ := 44 + 2) (by omega) (by omega)
                          have g64_it821 := (fun z => (u64.2.1 it821 (fun z9 => by have h9 := hitb821; rw [z9] at h9; omega)).trans z) git63
                          have h64 := h63.up44 (i0 := 2) (by decide) fw64 u64.1
                          have ke64 := z_ke h64 ke63 rfl
                          refine j_aload dX11_replaceTable_126 rfl rfl ?_
                          refine j_iconst (v := 2) dX11_replaceTable_128 (by decide) ?_
                          refine j_dup2 dX11_replaceTable_129 rfl rfl ?_
                          refine j_ld dX11_replaceTable_130 (h64.cn (i := 2) (by decide)) (vp_in_nI (n := 2) (by decide) (by decide)) ?_
                          refine j_iconst (v := 1) dX11_replaceTable_131 (by decide) ?_
                          refine j_iadd dX11_replaceTable_132 ?_
                          refine j_sto (w' := _) dX11_replaceTable_133 (h64.cn (i := 2) (by decide)) (vp_in_nI (n := 2) (by decide) (by decide)) rfl ?_
                          refine j_seal (by omega) ?_
                          intro w65 u65
                          have fw65 := u65.fw (ρ := 44 + 2) (by omega) (by omega)
                          have g65_it821 := (fun z => (u65.2.1 it821 (fun z9 => by have h9 := hitb821; rw [z9] at h9; omega)).trans z) g64_it821
                          have h65 := h64.up44 (i0 := 2) (by decide) fw65 u65.1
                          have ke65 := z_ke h65 ke64 rfl
                          refine j_iload_n dX11_replaceTable_134 rfl ?_
                          refine j_aload dX11_replaceTable_135 rfl rfl ?_
                          refine j_iconst (v := 0) dX11_replaceTable_137 (by decide) ?_
                          refine j_ld dX11_replaceTable_138 ((h65.pr (t := i657) (by omega)).1 p832 hp832).2 (vp_in_nI (n := 0) (by decide) (by decide)) ?_
                          refine j_aload dX11_replaceTable_139 rfl rfl ?_
                          refine j_iconst (v := 1) dX11_replaceTable_141 (by decide) ?_
                          refine j_ld dX11_replaceTable_142 ((h65.pr (t := i657) (by omega)).1 p832 hp832).2 (vp_in_nI (n := 1) (by decide) (by decide)) ?_
                          refine j_iload_n dX11_replaceTable_143 rfl ?_
                          refine j_callS dX11_replaceTable_144 kX11_rule lX11_115 stX11_rule (cm_rule hl w65 _ _ _ _) (Nat.le_of_ble_eq_true rfl) ⟨(by show _ ≤ 2; omega), (by show _ ≤ 11; omega)⟩ rfl (Nat.le_of_ble_eq_true rfl) rfl rfl (fun _ _ h => h.elim) ?_
                          rintro _ _ ⟨⟨r840, rfl⟩, hw840⟩
                          refine j_w w65 hw840 ?_
                          refine j_istore (lo' := [(7, _), (6, _), (0, _), (1, _), (2, _), (3, _), (4, _), (5, _)]) dX11_replaceTable_147 (by decide) rfl ?_
                          refine j_iload dX11_replaceTable_149 rfl ?_
                          refine j_ldc dX11_replaceTable_151 kcX11_67 ?_
                          refine j_icmp_ne (tgt := 161) dX11_replaceTable_153 (by decide) (fun c_153_1120 => ?_) (fun c_153_1120 => ?_)
                          · refine j_aload dX11_replaceTable_161 rfl rfl ?_
                            refine j_iconst (v := 1) dX11_replaceTable_163 (by decide) ?_
                            refine j_iload dX11_replaceTable_164 rfl ?_
                            refine j_sto (w' := _) dX11_replaceTable_166 ((h65.pr (t := i657) (by omega)).1 p832 hp832).2 (vp_in_nI (n := 1) (by decide) (by decide)) rfl ?_
                            refine j_seal (((h65.pr (t := i657) (by omega)).1 p832 hp832).1.1) ?_
                            intro w66 u66
                            have hpp66 := ((h65.pr (t := i657) (by omega)).1 p832 hp832).1
                            have hpq66 := hpp66.2.1
                            have g66_it821 := (u66.2.1 it821 (by omega)).trans g65_it821
                            have fw66 := u66.fw (ρ := 14 + i657) hpp66.1 hpp66.2.1
                            have h66 := h65.up14 (t0 := i657) (by omega) hp832 u66 (z_ui_ne (by decide))
                            have ke66 := z_ke h66 ke65 rfl
                            refine j_aload dX11_replaceTable_167 rfl rfl ?_
                            refine j_iconst (v := 3) dX11_replaceTable_169 (by decide) ?_
                            refine j_dup2 dX11_replaceTable_170 rfl rfl ?_
                            refine j_ld dX11_replaceTable_171 (h66.cn (i := 2) (by decide)) (vp_in_nI (n := 3) (by decide) (by decide)) ?_
                            refine j_iconst (v := 1) dX11_replaceTable_172 (by decide) ?_
                            refine j_iadd dX11_replaceTable_173 ?_
                            refine j_sto (w' := _) dX11_replaceTable_174 (h66.cn (i := 2) (by decide)) (vp_in_nI (n := 3) (by decide) (by decide)) rfl ?_
                            refine j_seal (by omega) ?_
                            intro w67 u67
                            have fw67 := u67.fw (ρ := 44 + 2) (by omega) (by omega)
                            have g67_it821 := (fun z => (u67.2.1 it821 (fun z9 => by have h9 := hitb821; rw [z9] at h9; omega)).trans z) g66_it821
                            have h67 := h66.up44 (i0 := 2) (by decide) fw67 u67.1
                            have ke67 := z_ke h67 ke66 rfl
                            refine j_goto (tgt := 96) dX11_replaceTable_175 (by decide) ?_
                            refine j_widen (kc' := 2) (ks' := 11) (by omega) (by omega) ?_
                            exact j_lo2 (ih w67 _ (k + 1) _ (by omega) (by omega) h67 (((((hfm.tr fm63).tr (fw64.fm (q := 59) (by omega))).tr (fw65.fm (q := 59) (by omega))).tr (fw66.fm (q := 59) (by omega))).tr (fw67.fm (q := 59) (by omega))) ke67 (by show _ ≤ (z_qp s1 i657).2.length; omega) g67_it821) (z_q1 rfl (z_q1 rfl (z_q1 rfl (z_q1 rfl (z_q1 rfl (z_q1 rfl z_q0))))))
                          · refine j_aload_n dX11_replaceTable_156 rfl rfl ?_
                            refine j_callV (q := (RX11, TX11, 8)) dX11_replaceTable_157 kX11_nine lX11_105 inX11_nine seX11_nine h65.m rfl (cm_nine hl w65 _ h65) (Nat.le_of_ble_eq_true rfl) ⟨(by show _ ≤ 2; omega), (by show _ ≤ 11; omega)⟩ rfl (Nat.le_of_ble_eq_true rfl) rfl rfl (fun _ _ h => h.elim) ?_
                            rintro _ w68 ⟨rfl, fm68, h68⟩
                            have g68_it821 := fm68.g hita821 (by rw [hitb821]; decide) g65_it821
                            have ke68 := z_ke h68 ke65 rfl
                            refine j_iret dX11_replaceTable_160 rfl rfl ?_ (by show _ ≤ 2; omega) (by show _ ≤ 11; omega)
                            exact ⟨_, _, rfl, ((((hfm.tr fm63).tr (fw64.fm (q := 59) (by omega))).tr (fw65.fm (q := 59) (by omega))).tr (fm68.le (q' := 59) (by decide))), h68, ke68⟩
                    refine j_widen (kc' := 2) (ks' := 11) (by omega) (by omega) ?_
                    exact j_lo2 (loop96 21 w60 _ 0 _ (by omega) (by omega) h60 (((fm2.le (q' := 59) (by decide)).tr (fw59.fm (q := 59) (by omega))).tr fm60) ke60 (Nat.zero_le _) git821) (z_q1 rfl (z_q1 rfl (z_q1 rfl (z_q1 rfl (z_q1 rfl (z_q1 rfl z_q0))))))
                · exact absurd c_48_808 (by decide)
              · exact absurd c_36_802 (by decide)
          · refine j_iload_n dX11_replaceTable_27 rfl ?_
            refine j_iconst (v := 5) dX11_replaceTable_28 (by decide) ?_
            refine j_icmp_ne (tgt := 39) dX11_replaceTable_29 (by decide) (fun c_29_1162 => ?_) (fun c_29_1162 => ?_)
            · refine j_iconst (v := 1) dX11_replaceTable_39 (by decide) ?_
              refine j_goto (tgt := 44) dX11_replaceTable_40 (by decide) ?_
              refine j_iconst (v := 2) dX11_replaceTable_44 (by decide) ?_
              refine j_callV (q := (RX11, TX11, 8)) dX11_replaceTable_45 kX11_refuse lX11_52 inX11_refuse seX11_refuse h2.m rfl (cm_refuse1 hl w2 _ _ h2 rfl (by decide)) (Nat.le_of_ble_eq_true rfl) ⟨(by show _ ≤ 2; omega), (by show _ ≤ 11; omega)⟩ rfl (Nat.le_of_ble_eq_true rfl) rfl rfl (fun _ _ h => h.elim) ?_
              rintro _ w69 ⟨rfl, fm69, h69⟩
              have ke69 := z_ke h69 ke2 rfl
              refine j_if_eq (tgt := 53) dX11_replaceTable_48 (by decide) (fun c_48_1169 => ?_) (fun c_48_1169 => ?_)
              · exact absurd c_48_1169 (by decide)
              · refine j_iconst (v := 0) dX11_replaceTable_51 (by decide) ?_
                refine j_iret dX11_replaceTable_52 rfl rfl ?_ (by show _ ≤ 2; omega) (by show _ ≤ 11; omega)
                exact ⟨_, _, rfl, ((fm2.le (q' := 59) (by decide)).tr (fm69.le (q' := 59) (by decide))), h69, ke69⟩
            · refine j_iload_n dX11_replaceTable_32 rfl ?_
              refine j_callS dX11_replaceTable_33 kX11_isNoValue lX11_79 stX11_isNoValue (cm_isNoValue hl w2 _) (Nat.le_of_ble_eq_true rfl) ⟨(by show _ ≤ 2; omega), (by show _ ≤ 11; omega)⟩ rfl (Nat.le_of_ble_eq_true rfl) rfl rfl (fun _ _ h => h.elim) ?_
              rintro _ _ ⟨⟨rfl, hno844⟩ | ⟨rfl, hye844⟩, hw844⟩
              · refine j_w w2 hw844 ?_
                refine j_if_eq (tgt := 43) dX11_replaceTable_36 (by decide) (fun c_36_1178 => ?_) (fun c_36_1178 => ?_)
                · exact absurd c_36_1178 (by decide)
                · refine j_iconst (v := 1) dX11_replaceTable_39 (by decide) ?_
                  refine j_goto (tgt := 44) dX11_replaceTable_40 (by decide) ?_
                  refine j_iconst (v := 2) dX11_replaceTable_44 (by decide) ?_
                  refine j_callV (q := (RX11, TX11, 8)) dX11_replaceTable_45 kX11_refuse lX11_52 inX11_refuse seX11_refuse h2.m rfl (cm_refuse1 hl w2 _ _ h2 rfl (by decide)) (Nat.le_of_ble_eq_true rfl) ⟨(by show _ ≤ 2; omega), (by show _ ≤ 11; omega)⟩ rfl (Nat.le_of_ble_eq_true rfl) rfl rfl (fun _ _ h => h.elim) ?_
                  rintro _ w70 ⟨rfl, fm70, h70⟩
                  have ke70 := z_ke h70 ke2 rfl
                  refine j_if_eq (tgt := 53) dX11_replaceTable_48 (by decide) (fun c_48_1186 => ?_) (fun c_48_1186 => ?_)
                  · exact absurd c_48_1186 (by decide)
                  · refine j_iconst (v := 0) dX11_replaceTable_51 (by decide) ?_
                    refine j_iret dX11_replaceTable_52 rfl rfl ?_ (by show _ ≤ 2; omega) (by show _ ≤ 11; omega)
                    exact ⟨_, _, rfl, ((fm2.le (q' := 59) (by decide)).tr (fm70.le (q' := 59) (by decide))), h70, ke70⟩
              · refine j_w w2 hw844 ?_
                refine j_if_eq (tgt := 43) dX11_replaceTable_36 (by decide) (fun c_36_1192 => ?_) (fun c_36_1192 => ?_)
                · refine j_iconst (v := 0) dX11_replaceTable_43 (by decide) ?_
                  refine j_iconst (v := 2) dX11_replaceTable_44 (by decide) ?_
                  refine j_callV (q := (RX11, TX11, 8)) dX11_replaceTable_45 kX11_refuse lX11_52 inX11_refuse seX11_refuse h2.m rfl (cm_refuse0 hl w2 _ _ h2 rfl) (Nat.le_of_ble_eq_true rfl) ⟨(by show _ ≤ 2; omega), (by show _ ≤ 11; omega)⟩ rfl (Nat.le_of_ble_eq_true rfl) rfl rfl (fun _ _ h => h.elim) ?_
                  rintro _ _ ⟨rfl, hw845⟩
                  refine j_w w2 hw845 ?_
                  refine j_if_eq (tgt := 53) dX11_replaceTable_48 (by decide) (fun c_48_1198 => ?_) (fun c_48_1198 => ?_)
                  · refine j_iload_n dX11_replaceTable_53 rfl ?_
                    refine j_if_ne (tgt := 66) dX11_replaceTable_54 (by decide) (fun c_54_1200 => ?_) (fun c_54_1200 => ?_)
                    · have hb54 : ¬ i657 = 0 := fun z => c_54_1200 (show nI i657 = nI 0 by rw [z])
                      refine j_bipush (v := 7) dX11_replaceTable_66 (by decide) ?_
                      obtain ⟨x4, hx4a, hx4b, hx4c⟩ := z_fresh (57) (by decide) h2.fn
                      refine j_newa (kd := 0) (N := 7) (w' := _) (n := x4) dX11_replaceTable_68 rfl rfl arc_int ⟨rfl, fun _ _ h => h⟩ (by decide) rfl (by decide) rfl (z_alW hx4c hx4a) (Nat.le_of_ble_eq_true rfl) (Nat.le_of_ble_eq_true rfl) ?_
                      refine j_seal hx4a ?_
                      intro w71 u71
                      have fw71 := u71.fw hx4a hx4b
                      have g71_x4 := u71.1
                      have h71 := h2.gar fw71 (by omega)
                      have ke71 := z_ke h71 ke2 rfl
                      refine j_astore (lo' := [(4, _), (0, _), (1, _), (2, _), (3, _)]) dX11_replaceTable_70 rfl (by decide) rfl ?_
                      refine j_aload dX11_replaceTable_72 rfl rfl ?_
                      refine j_iconst (v := 0) dX11_replaceTable_74 (by decide) ?_
                      refine j_dup2 dX11_replaceTable_75 rfl rfl ?_
                      refine j_ld dX11_replaceTable_76 g71_x4 (vp_in_nI (n := 0) (by decide) (by decide)) ?_
                      refine j_iconst (v := 1) dX11_replaceTable_77 (by decide) ?_
                      refine j_iadd dX11_replaceTable_78 ?_
                      refine j_sto (w' := _) dX11_replaceTable_79 g71_x4 (vp_in_nI (n := 0) (by decide) (by decide)) rfl ?_
                      refine j_seal hx4a ?_
                      intro w72 u72
                      have fw72 := u72.fw hx4a hx4b
                      have g72_x4 := u72.1
                      have h72 := h71.gar fw72 (by omega)
                      have ke72 := z_ke h72 ke71 rfl
                      refine j_aload_n dX11_replaceTable_80 rfl rfl ?_
                      refine j_getf dX11_replaceTable_81 fX11_34 h72.m rfl ?_
                      refine j_iload_n dX11_replaceTable_84 rfl ?_
                      obtain ⟨lv850, -, lg850⟩ := z_li.cell h72.tabs
                      refine j_callV (q := (RJx4a65c, TJx4a65c, 3)) dX11_replaceTable_85 kJx4a65c_get_915e3 lX11_82 inJx4a65c_get_915e3 seJx4a65c_get_915e3 lg850 rfl (cl_get hl w72 47 1007 _ _ (i657) _ h72.tabs (z_thr3 (t := i657) (by omega))) (Nat.le_of_ble_eq_true rfl) ⟨(by show _ ≤ 2; omega), (by show _ ≤ 11; omega)⟩ rfl (Nat.le_of_ble_eq_true rfl) rfl rfl (fun _ _ h => h.elim) ?_
                      rintro _ _ ⟨rfl, hw851⟩
                      refine j_w w72 hw851 ?_
                      refine j_castS dX11_replaceTable_88 (z_w 1341 ((lwg_6 96).trans (by decide +kernel)) (by decide +kernel)) (z_li.is (h72.tb (t := i657) (by omega))) ?_
                      obtain ⟨lv854, -, lg854⟩ := z_li.cell (h72.tb (t := i657) (by omega))
                      refine j_callV (q := (RJx4a65c, TJx4a65c, 3)) dX11_replaceTable_91 kJx4a65c_iterator_32c93 lX11_162 inJx4a65c_iterator_32c93 seJx4a65c_iterator_32c93 lg854 rfl (cl_iter hl w72 58 (51 + i657) _ _ _ (h72.tb (t := i657) (by omega)) (by decide) (by omega) h72.fn) (Nat.le_of_ble_eq_true rfl) ⟨(by show _ ≤ 2; omega), (by show _ ≤ 11; omega)⟩ rfl (Nat.le_of_ble_eq_true rfl) rfl rfl (fun _ _ h => h.elim) ?_
                      rintro _ w73 ⟨it853, rfl, fw73, hita853, hitb853, hitc853, la853, git853⟩
                      have hita853 : 1000 ≤ it853 := hita853
                      have hitb853 : it853 % 64 = 58 := hitb853
                      have n_x4_it853 := z_neF hitc853 g72_x4
                      have g73_x4 := fw73.g (Or.inr (by omega)) g72_x4
                      have fm73 := fw73.fm (q := 59) (by omega)
                      have h73 := h72.gar fw73 (by omega)
                      have ke73 := z_ke h73 ke72 rfl
                      refine j_astore (lo' := [(5, _), (4, _), (0, _), (1, _), (2, _), (3, _)]) dX11_replaceTable_94 rfl (by decide) rfl ?_
                      have loop96 : ∀ (n9 : Nat) (w74 : z_W) (s1 : z_Z) (k : Nat) (la : Int32) (F : Nat → Int32), (k ≤ 20) → (20 < k + n9) → (z_mst w74 s1) → (z_fm 59 w w74) → (z_key s1 = z_key s) → (k ≤ (z_qp s1 i657).2.length) → (z_g w74 it853 = some (.inr (3, [.int (nI k), .int la, .int (z_qp s1 i657).1, .ref (1011 + i657)]))) → (z_g w74 x4 = some (.inl (0, 7, fun j => .int (F j)))) → z_J G l mX11_replaceTable (22, 2, 11, w, (fun v w9 => ∃ (r : Int32) (s9 : z_Z), v = some (.int r) ∧ z_fm 59 w w9 ∧ z_mst w9 s9 ∧ z_key s9 = z_key s), (fun _ _ => False)) 96 [(0, .ref 1000), (1, .int (nI i657)), (2, .int y), (3, .int z), (4, .ref x4), (5, .ref it853)] [] w74 2 11 := by
                        intro n9
                        induction n9 with
                        | zero => intro w74 s1 k la F hj hf9 hm hfm hke hkl git gx; exact absurd hf9 (by omega)
                        | succ n9 ih =>
                          intro w74 s1 k la F hj hf9 hm hfm hke hkl git gx
                          refine j_aload dX11_replaceTable_96 rfl rfl ?_
                          refine j_callF (x := ⟨"java/util/Iterator", "hasNext", "()Z"⟩) (q := (RJx35411, TJx35411, 4)) dX11_replaceTable_98 kJx35411_hasNext_aae02 ⟨(z_w 1765 ((lwg_8 40).trans (by decide +kernel)) (by decide +kernel)), (z_w 1769 ((lwg_8 44).trans (by decide +kernel)) (by decide +kernel)), inJx35411_hasNext_aae02, ⟨by decide, by decide⟩, rfl, fun U h => h.2.1⟩ git rfl (cl_hasN hl w74 _ (51 + i657) _ (k) _ _ (hm.tb (t := i657) (by omega)) ⟨_, git⟩ (by rw [z_rs_len]; omega)) (Nat.le_of_ble_eq_true rfl) ⟨(by show _ ≤ 2; omega), (by show _ ≤ 11; omega)⟩ rfl (Nat.le_of_ble_eq_true rfl) rfl ?_
                          rintro _ _ ⟨⟨x855, rfl, hz855, hp855⟩, hw855⟩
                          refine j_w w74 hw855 ?_
                          refine j_if_eq (tgt := 178) dX11_replaceTable_103 (by decide) (fun c_103_1254 => ?_) (fun c_103_1254 => ?_)
                          · have hk103 : k = (z_qp s1 (i657)).2.length := (z_rs_len ▸ hz855 c_103_1254)
                            refine j_aload dX11_replaceTable_178 rfl rfl ?_
                            refine j_iconst (v := 1) dX11_replaceTable_180 (by decide) ?_
                            refine j_dup2 dX11_replaceTable_181 rfl rfl ?_
                            refine j_ld dX11_replaceTable_182 gx (vp_in_nI (n := 1) (by decide) (by decide)) ?_
                            refine j_iconst (v := 1) dX11_replaceTable_183 (by decide) ?_
                            refine j_iadd dX11_replaceTable_184 ?_
                            refine j_sto (w' := _) dX11_replaceTable_185 gx (vp_in_nI (n := 1) (by decide) (by decide)) rfl ?_
                            refine j_seal hx4a ?_
                            intro w75 u75
                            have fw75 := u75.fw hx4a hx4b
                            have g75_it853 := (u75.2.1 it853 (Ne.symm n_x4_it853)).trans git
                            have g75_x4 := u75.1
                            have h75 := hm.gar fw75 (by omega)
                            have ke75 := z_ke h75 hke rfl
                            refine j_aload_n dX11_replaceTable_186 rfl rfl ?_
                            refine j_getf dX11_replaceTable_187 fX11_34 h75.m rfl ?_
                            refine j_iload_n dX11_replaceTable_190 rfl ?_
                            obtain ⟨lv859, -, lg859⟩ := z_li.cell h75.tabs
                            refine j_callV (q := (RJx4a65c, TJx4a65c, 3)) dX11_replaceTable_191 kJx4a65c_get_915e3 lX11_82 inJx4a65c_get_915e3 seJx4a65c_get_915e3 lg859 rfl (cl_get hl w75 47 1007 _ _ (i657) _ h75.tabs (z_thr3 (t := i657) (by omega))) (Nat.le_of_ble_eq_true rfl) ⟨(by show _ ≤ 2; omega), (by show _ ≤ 11; omega)⟩ rfl (Nat.le_of_ble_eq_true rfl) rfl rfl (fun _ _ h => h.elim) ?_
                            rintro _ _ ⟨rfl, hw860⟩
                            refine j_w w75 hw860 ?_
                            refine j_castS dX11_replaceTable_194 (z_w 1341 ((lwg_6 96).trans (by decide +kernel)) (by decide +kernel)) (z_li.is (h75.tb (t := i657) (by omega))) ?_
                            obtain ⟨lv862, -, lg862⟩ := z_li.cell (h75.tb (t := i657) (by omega))
                            refine j_callV (q := (RJx4a65c, TJx4a65c, 3)) dX11_replaceTable_197 kJx4a65c_size_8abf5 lX11_86 inJx4a65c_size_8abf5 seJx4a65c_size_8abf5 lg862 rfl (cl_sizeR hl w75 _ _ _ _ (h75.tb (t := i657) (by omega))) (Nat.le_of_ble_eq_true rfl) ⟨(by show _ ≤ 2; omega), (by show _ ≤ 11; omega)⟩ rfl (Nat.le_of_ble_eq_true rfl) rfl rfl (fun _ _ h => h.elim) ?_
                            rintro _ _ ⟨⟨n863, rfl, hn863⟩, hw863⟩
                            refine j_w w75 hw863 ?_
                            have hn863 : n863 = (z_qp s1 (i657)).2.length := hn863
                            have hz863 : (z_qp s1 (i657)).2.length ≤ 20 := (h75.pr (t := i657) (by omega)).len
                            refine j_iret dX11_replaceTable_200 rfl rfl ?_ (by show _ ≤ 2; omega) (by show _ ≤ 11; omega)
                            exact ⟨_, _, rfl, (hfm.tr (fw75.fm (q := 59) (by omega))), h75, ke75⟩
                          · have hk103 : k < (z_qp s1 (i657)).2.length := (z_rs_len ▸ hp855 c_103_1254)
                            have hzk103 : (z_qp s1 (i657)).2.length ≤ 20 := (hm.pr (t := i657) (by omega)).len
                            refine j_aload dX11_replaceTable_106 rfl rfl ?_
                            obtain ⟨p864, hp864, hq864, hk864⟩ := z_rs_ex (P := (z_qp s1 (i657)).2) (k := k) (by omega)
                            refine j_callF (x := ⟨"java/util/Iterator", "next", "()Ljava/lang/Object;"⟩) (q := (RJx35411, TJx35411, 4)) dX11_replaceTable_108 kJx35411_next_0502b ⟨(z_w 1775 ((lwg_8 50).trans (by decide +kernel)) (by decide +kernel)), (z_w 1778 ((lwg_8 53).trans (by decide +kernel)) (by decide +kernel)), inJx35411_next_0502b, ⟨by decide, by decide⟩, rfl, fun U h => h.2.2.1⟩ git rfl (cl_next hl w74 58 it853 (51 + i657) _ (k) _ _ _ (hm.tb (t := i657) (by omega)) ⟨_, git⟩ hq864 hita853 hitb853 (by omega)) (Nat.le_of_ble_eq_true rfl) ⟨(by show _ ≤ 2; omega), (by show _ ≤ 11; omega)⟩ rfl (Nat.le_of_ble_eq_true rfl) rfl ?_
                            rintro _ w76 ⟨rfl, fw76, la76, git76⟩
                            have g76_x4 := fw76.g (Or.inr (by omega)) gx
                            have fm76 := fw76.fm (q := 59) (by omega)
                            have h76 := hm.gar fw76 (by omega)
                            have ke76 := z_ke h76 hke rfl
                            refine j_castS dX11_replaceTable_113 (z_w 1663 ((lwg_7 178).trans (by decide +kernel)) (by decide +kernel)) (z_isA ((h76.pr (t := i657) (by omega)).1 p864 hp864).2) ?_
                            refine j_astore (lo' := [(6, _), (0, _), (1, _), (2, _), (3, _), (4, _), (5, _)]) dX11_replaceTable_116 rfl (by decide) rfl ?_
                            refine j_aload dX11_replaceTable_118 rfl rfl ?_
                            refine j_iconst (v := 1) dX11_replaceTable_120 (by decide) ?_
                            refine j_dup2 dX11_replaceTable_121 rfl rfl ?_
                            refine j_ld dX11_replaceTable_122 g76_x4 (vp_in_nI (n := 1) (by decide) (by decide)) ?_
                            refine j_iconst (v := 1) dX11_replaceTable_123 (by decide) ?_
                            refine j_iadd dX11_replaceTable_124 ?_
                            refine j_sto (w' := _) dX11_replaceTable_125 g76_x4 (vp_in_nI (n := 1) (by decide) (by decide)) rfl ?_
                            refine j_seal hx4a ?_
                            intro w77 u77
                            have fw77 := u77.fw hx4a hx4b
                            have g77_it853 := (u77.2.1 it853 (Ne.symm n_x4_it853)).trans git76
                            have g77_x4 := u77.1
                            have h77 := h76.gar fw77 (by omega)
                            have ke77 := z_ke h77 ke76 rfl
                            refine j_aload dX11_replaceTable_126 rfl rfl ?_
                            refine j_iconst (v := 2) dX11_replaceTable_128 (by decide) ?_
                            refine j_dup2 dX11_replaceTable_129 rfl rfl ?_
                            refine j_ld dX11_replaceTable_130 g77_x4 (vp_in_nI (n := 2) (by decide) (by decide)) ?_
                            refine j_iconst (v := 1) dX11_replaceTable_131 (by decide) ?_
                            refine j_iadd dX11_replaceTable_132 ?_
                            refine j_sto (w' := _) dX11_replaceTable_133 g77_x4 (vp_in_nI (n := 2) (by decide) (by decide)) rfl ?_
                            refine j_seal hx4a ?_
                            intro w78 u78
                            have fw78 := u78.fw hx4a hx4b
                            have g78_it853 := (u78.2.1 it853 (Ne.symm n_x4_it853)).trans g77_it853
                            have g78_x4 := u78.1
                            have h78 := h77.gar fw78 (by omega)
                            have ke78 := z_ke h78 ke77 rfl
                            refine j_iload_n dX11_replaceTable_134 rfl ?_
                            refine j_aload dX11_replaceTable_135 rfl rfl ?_
                            refine j_iconst (v := 0) dX11_replaceTable_137 (by decide) ?_
                            refine j_ld dX11_replaceTable_138 ((h78.pr (t := i657) (by omega)).1 p864 hp864).2 (vp_in_nI (n := 0) (by decide) (by decide)) ?_
                            refine j_aload dX11_replaceTable_139 rfl rfl ?_
                            refine j_iconst (v := 1) dX11_replaceTable_141 (by decide) ?_
                            refine j_ld dX11_replaceTable_142 ((h78.pr (t := i657) (by omega)).1 p864 hp864).2 (vp_in_nI (n := 1) (by decide) (by decide)) ?_
                            refine j_iload_n dX11_replaceTable_143 rfl ?_
                            refine j_callS dX11_replaceTable_144 kX11_rule lX11_115 stX11_rule (cm_rule hl w78 _ _ _ _) (Nat.le_of_ble_eq_true rfl) ⟨(by show _ ≤ 2; omega), (by show _ ≤ 11; omega)⟩ rfl (Nat.le_of_ble_eq_true rfl) rfl rfl (fun _ _ h => h.elim) ?_
                            rintro _ _ ⟨⟨r872, rfl⟩, hw872⟩
                            refine j_w w78 hw872 ?_
                            refine j_istore (lo' := [(7, _), (6, _), (0, _), (1, _), (2, _), (3, _), (4, _), (5, _)]) dX11_replaceTable_147 (by decide) rfl ?_
                            refine j_iload dX11_replaceTable_149 rfl ?_
                            refine j_ldc dX11_replaceTable_151 kcX11_67 ?_
                            refine j_icmp_ne (tgt := 161) dX11_replaceTable_153 (by decide) (fun c_153_1340 => ?_) (fun c_153_1340 => ?_)
                            · refine j_aload dX11_replaceTable_161 rfl rfl ?_
                              refine j_iconst (v := 1) dX11_replaceTable_163 (by decide) ?_
                              refine j_iload dX11_replaceTable_164 rfl ?_
                              refine j_sto (w' := _) dX11_replaceTable_166 ((h78.pr (t := i657) (by omega)).1 p864 hp864).2 (vp_in_nI (n := 1) (by decide) (by decide)) rfl ?_
                              refine j_seal (((h78.pr (t := i657) (by omega)).1 p864 hp864).1.1) ?_
                              intro w79 u79
                              have hpp79 := ((h78.pr (t := i657) (by omega)).1 p864 hp864).1
                              have hpq79 := hpp79.2.1
                              have g79_it853 := (u79.2.1 it853 (by omega)).trans g78_it853
                              have g79_x4 := (u79.2.1 x4 (by omega)).trans g78_x4
                              have fw79 := u79.fw (ρ := 14 + i657) hpp79.1 hpp79.2.1
                              have h79 := h78.up14 (t0 := i657) (by omega) hp864 u79 (z_ui_ne (by decide))
                              have ke79 := z_ke h79 ke78 rfl
                              refine j_aload dX11_replaceTable_167 rfl rfl ?_
                              refine j_iconst (v := 3) dX11_replaceTable_169 (by decide) ?_
                              refine j_dup2 dX11_replaceTable_170 rfl rfl ?_
                              refine j_ld dX11_replaceTable_171 g79_x4 (vp_in_nI (n := 3) (by decide) (by decide)) ?_
                              refine j_iconst (v := 1) dX11_replaceTable_172 (by decide) ?_
                              refine j_iadd dX11_replaceTable_173 ?_
                              refine j_sto (w' := _) dX11_replaceTable_174 g79_x4 (vp_in_nI (n := 3) (by decide) (by decide)) rfl ?_
                              refine j_seal hx4a ?_
                              intro w80 u80
                              have fw80 := u80.fw hx4a hx4b
                              have g80_it853 := (u80.2.1 it853 (Ne.symm n_x4_it853)).trans g79_it853
                              have g80_x4 := u80.1
                              have h80 := h79.gar fw80 (by omega)
                              have ke80 := z_ke h80 ke79 rfl
                              refine j_goto (tgt := 96) dX11_replaceTable_175 (by decide) ?_
                              refine j_widen (kc' := 2) (ks' := 11) (by omega) (by omega) ?_
                              exact j_lo2 (ih w80 _ (k + 1) _ _ (by omega) (by omega) h80 (((((hfm.tr fm76).tr (fw77.fm (q := 59) (by omega))).tr (fw78.fm (q := 59) (by omega))).tr (fw79.fm (q := 59) (by omega))).tr (fw80.fm (q := 59) (by omega))) ke80 (by show _ ≤ (z_qp s1 i657).2.length; omega) g80_it853 g80_x4) (z_q1 rfl (z_q1 rfl (z_q1 rfl (z_q1 rfl (z_q1 rfl (z_q1 rfl z_q0))))))
                            · refine j_aload_n dX11_replaceTable_156 rfl rfl ?_
                              refine j_callV (q := (RX11, TX11, 8)) dX11_replaceTable_157 kX11_nine lX11_105 inX11_nine seX11_nine h78.m rfl (cm_nine hl w78 _ h78) (Nat.le_of_ble_eq_true rfl) ⟨(by show _ ≤ 2; omega), (by show _ ≤ 11; omega)⟩ rfl (Nat.le_of_ble_eq_true rfl) rfl rfl (fun _ _ h => h.elim) ?_
                              rintro _ w81 ⟨rfl, fm81, h81⟩
                              have g81_it853 := fm81.g hita853 (by rw [hitb853]; decide) g78_it853
                              have g81_x4 := fm81.g hx4a (by rw [hx4b]; decide) g78_x4
                              have ke81 := z_ke h81 ke78 rfl
                              refine j_iret dX11_replaceTable_160 rfl rfl ?_ (by show _ ≤ 2; omega) (by show _ ≤ 11; omega)
                              exact ⟨_, _, rfl, ((((hfm.tr fm76).tr (fw77.fm (q := 59) (by omega))).tr (fw78.fm (q := 59) (by omega))).tr (fm81.le (q' := 59) (by decide))), h81, ke81⟩
                      refine j_widen (kc' := 2) (ks' := 11) (by omega) (by omega) ?_
                      exact j_lo2 (loop96 21 w73 _ 0 _ _ (by omega) (by omega) h73 ((((fm2.le (q' := 59) (by decide)).tr (fw71.fm (q := 59) (by omega))).tr (fw72.fm (q := 59) (by omega))).tr fm73) ke73 (Nat.zero_le _) git853 g73_x4) (z_q1 rfl (z_q1 rfl (z_q1 rfl (z_q1 rfl (z_q1 rfl (z_q1 rfl z_q0))))))
                    · have hb54 : i657 = 0 := nI_inj (a := i657) (b := 0) c_54_1200 (by omega) (by omega)
                      refine j_aload_n dX11_replaceTable_57 rfl rfl ?_
                      refine j_getf dX11_replaceTable_58 fX11_31 h2.m rfl ?_
                      refine j_iconst (v := 2) dX11_replaceTable_61 (by decide) ?_
                      obtain ⟨fz876, gz876, hz876⟩ := h2.co
                      refine j_aald (v := .ref (1004 + 2)) dX11_replaceTable_62 gz876 rfl rfl (vp_in_nI (n := 2) (by decide) (by decide)) (by rw [show (2 : Int32).toNatClampNeg = 2 by decide]; exact hz876 _ (by decide)) ?_
                      refine j_goto (tgt := 70) dX11_replaceTable_63 (by decide) ?_
                      refine j_astore (lo' := [(4, _), (0, _), (1, _), (2, _), (3, _)]) dX11_replaceTable_70 rfl (by decide) rfl ?_
                      refine j_aload dX11_replaceTable_72 rfl rfl ?_
                      refine j_iconst (v := 0) dX11_replaceTable_74 (by decide) ?_
                      refine j_dup2 dX11_replaceTable_75 rfl rfl ?_
                      refine j_ld dX11_replaceTable_76 (h2.cn (i := 2) (by decide)) (vp_in_nI (n := 0) (by decide) (by decide)) ?_
                      refine j_iconst (v := 1) dX11_replaceTable_77 (by decide) ?_
                      refine j_iadd dX11_replaceTable_78 ?_
                      refine j_sto (w' := _) dX11_replaceTable_79 (h2.cn (i := 2) (by decide)) (vp_in_nI (n := 0) (by decide) (by decide)) rfl ?_
                      refine j_seal (by omega) ?_
                      intro w82 u82
                      have fw82 := u82.fw (ρ := 44 + 2) (by omega) (by omega)
                      have h82 := h2.up44 (i0 := 2) (by decide) fw82 u82.1
                      have ke82 := z_ke h82 ke2 rfl
                      refine j_aload_n dX11_replaceTable_80 rfl rfl ?_
                      refine j_getf dX11_replaceTable_81 fX11_34 h82.m rfl ?_
                      refine j_iload_n dX11_replaceTable_84 rfl ?_
                      obtain ⟨lv880, -, lg880⟩ := z_li.cell h82.tabs
                      refine j_callV (q := (RJx4a65c, TJx4a65c, 3)) dX11_replaceTable_85 kJx4a65c_get_915e3 lX11_82 inJx4a65c_get_915e3 seJx4a65c_get_915e3 lg880 rfl (cl_get hl w82 47 1007 _ _ (i657) _ h82.tabs (z_thr3 (t := i657) (by omega))) (Nat.le_of_ble_eq_true rfl) ⟨(by show _ ≤ 2; omega), (by show _ ≤ 11; omega)⟩ rfl (Nat.le_of_ble_eq_true rfl) rfl rfl (fun _ _ h => h.elim) ?_
                      rintro _ _ ⟨rfl, hw881⟩
                      refine j_w w82 hw881 ?_
                      refine j_castS dX11_replaceTable_88 (z_w 1341 ((lwg_6 96).trans (by decide +kernel)) (by decide +kernel)) (z_li.is (h82.tb (t := i657) (by omega))) ?_
                      obtain ⟨lv884, -, lg884⟩ := z_li.cell (h82.tb (t := i657) (by omega))
                      refine j_callV (q := (RJx4a65c, TJx4a65c, 3)) dX11_replaceTable_91 kJx4a65c_iterator_32c93 lX11_162 inJx4a65c_iterator_32c93 seJx4a65c_iterator_32c93 lg884 rfl (cl_iter hl w82 58 (51 + i657) _ _ _ (h82.tb (t := i657) (by omega)) (by decide) (by omega) h82.fn) (Nat.le_of_ble_eq_true rfl) ⟨(by show _ ≤ 2; omega), (by show _ ≤ 11; omega)⟩ rfl (Nat.le_of_ble_eq_true rfl) rfl rfl (fun _ _ h => h.elim) ?_
                      rintro _ w83 ⟨it883, rfl, fw83, hita883, hitb883, hitc883, la883, git883⟩
                      have hita883 : 1000 ≤ it883 := hita883
                      have hitb883 : it883 % 64 = 58 := hitb883
                      have fm83 := fw83.fm (q := 59) (by omega)
                      have h83 := h82.gar fw83 (by omega)
                      have ke83 := z_ke h83 ke82 rfl
                      refine j_astore (lo' := [(5, _), (4, _), (0, _), (1, _), (2, _), (3, _)]) dX11_replaceTable_94 rfl (by decide) rfl ?_
                      have loop96 : ∀ (n9 : Nat) (w84 : z_W) (s1 : z_Z) (k : Nat) (la : Int32), (k ≤ 20) → (20 < k + n9) → (z_mst w84 s1) → (z_fm 59 w w84) → (z_key s1 = z_key s) → (k ≤ (z_qp s1 i657).2.length) → (z_g w84 it883 = some (.inr (3, [.int (nI k), .int la, .int (z_qp s1 i657).1, .ref (1011 + i657)]))) → z_J G l mX11_replaceTable (22, 2, 11, w, (fun v w9 => ∃ (r : Int32) (s9 : z_Z), v = some (.int r) ∧ z_fm 59 w w9 ∧ z_mst w9 s9 ∧ z_key s9 = z_key s), (fun _ _ => False)) 96 [(0, .ref 1000), (1, .int (nI i657)), (2, .int y), (3, .int z), (4, .ref (1004 + 2)), (5, .ref it883)] [] w84 2 11 := by
                        intro n9
                        induction n9 with
                        | zero => intro w84 s1 k la hj hf9 hm hfm hke hkl git; exact absurd hf9 (by omega)
                        | succ n9 ih =>
                          intro w84 s1 k la hj hf9 hm hfm hke hkl git
                          refine j_aload dX11_replaceTable_96 rfl rfl ?_
                          refine j_callF (x := ⟨"java/util/Iterator", "hasNext", "()Z"⟩) (q := (RJx35411, TJx35411, 4)) dX11_replaceTable_98 kJx35411_hasNext_aae02 ⟨(z_w 1765 ((lwg_8 40).trans (by decide +kernel)) (by decide +kernel)), (z_w 1769 ((lwg_8 44).trans (by decide +kernel)) (by decide +kernel)), inJx35411_hasNext_aae02, ⟨by decide, by decide⟩, rfl, fun U h => h.2.1⟩ git rfl (cl_hasN hl w84 _ (51 + i657) _ (k) _ _ (hm.tb (t := i657) (by omega)) ⟨_, git⟩ (by rw [z_rs_len]; omega)) (Nat.le_of_ble_eq_true rfl) ⟨(by show _ ≤ 2; omega), (by show _ ≤ 11; omega)⟩ rfl (Nat.le_of_ble_eq_true rfl) rfl ?_
                          rintro _ _ ⟨⟨x885, rfl, hz885, hp885⟩, hw885⟩
                          refine j_w w84 hw885 ?_
                          refine j_if_eq (tgt := 178) dX11_replaceTable_103 (by decide) (fun c_103_1428 => ?_) (fun c_103_1428 => ?_)
                          · have hk103 : k = (z_qp s1 (i657)).2.length := (z_rs_len ▸ hz885 c_103_1428)
                            refine j_aload dX11_replaceTable_178 rfl rfl ?_
                            refine j_iconst (v := 1) dX11_replaceTable_180 (by decide) ?_
                            refine j_dup2 dX11_replaceTable_181 rfl rfl ?_
                            refine j_ld dX11_replaceTable_182 (hm.cn (i := 2) (by decide)) (vp_in_nI (n := 1) (by decide) (by decide)) ?_
                            refine j_iconst (v := 1) dX11_replaceTable_183 (by decide) ?_
                            refine j_iadd dX11_replaceTable_184 ?_
                            refine j_sto (w' := _) dX11_replaceTable_185 (hm.cn (i := 2) (by decide)) (vp_in_nI (n := 1) (by decide) (by decide)) rfl ?_
                            refine j_seal (by omega) ?_
                            intro w85 u85
                            have fw85 := u85.fw (ρ := 44 + 2) (by omega) (by omega)
                            have g85_it883 := (fun z => (u85.2.1 it883 (fun z9 => by have h9 := hitb883; rw [z9] at h9; omega)).trans z) git
                            have h85 := hm.up44 (i0 := 2) (by decide) fw85 u85.1
                            have ke85 := z_ke h85 hke rfl
                            refine j_aload_n dX11_replaceTable_186 rfl rfl ?_
                            refine j_getf dX11_replaceTable_187 fX11_34 h85.m rfl ?_
                            refine j_iload_n dX11_replaceTable_190 rfl ?_
                            obtain ⟨lv889, -, lg889⟩ := z_li.cell h85.tabs
                            refine j_callV (q := (RJx4a65c, TJx4a65c, 3)) dX11_replaceTable_191 kJx4a65c_get_915e3 lX11_82 inJx4a65c_get_915e3 seJx4a65c_get_915e3 lg889 rfl (cl_get hl w85 47 1007 _ _ (i657) _ h85.tabs (z_thr3 (t := i657) (by omega))) (Nat.le_of_ble_eq_true rfl) ⟨(by show _ ≤ 2; omega), (by show _ ≤ 11; omega)⟩ rfl (Nat.le_of_ble_eq_true rfl) rfl rfl (fun _ _ h => h.elim) ?_
                            rintro _ _ ⟨rfl, hw890⟩
                            refine j_w w85 hw890 ?_
                            refine j_castS dX11_replaceTable_194 (z_w 1341 ((lwg_6 96).trans (by decide +kernel)) (by decide +kernel)) (z_li.is (h85.tb (t := i657) (by omega))) ?_
                            obtain ⟨lv892, -, lg892⟩ := z_li.cell (h85.tb (t := i657) (by omega))
                            refine j_callV (q := (RJx4a65c, TJx4a65c, 3)) dX11_replaceTable_197 kJx4a65c_size_8abf5 lX11_86 inJx4a65c_size_8abf5 seJx4a65c_size_8abf5 lg892 rfl (cl_sizeR hl w85 _ _ _ _ (h85.tb (t := i657) (by omega))) (Nat.le_of_ble_eq_true rfl) ⟨(by show _ ≤ 2; omega), (by show _ ≤ 11; omega)⟩ rfl (Nat.le_of_ble_eq_true rfl) rfl rfl (fun _ _ h => h.elim) ?_
                            rintro _ _ ⟨⟨n893, rfl, hn893⟩, hw893⟩
                            refine j_w w85 hw893 ?_
                            have hn893 : n893 = (z_qp s1 (i657)).2.length := hn893
                            have hz893 : (z_qp s1 (i657)).2.length ≤ 20 := (h85.pr (t := i657) (by omega)).len
                            refine j_iret dX11_replaceTable_200 rfl rfl ?_ (by show _ ≤ 2; omega) (by show _ ≤ 11; omega)
                            exact ⟨_, _, rfl, (hfm.tr (fw85.fm (q := 59) (by omega))), h85, ke85⟩
                          · have hk103 : k < (z_qp s1 (i657)).2.length := (z_rs_len ▸ hp885 c_103_1428)
                            have hzk103 : (z_qp s1 (i657)).2.length ≤ 20 := (hm.pr (t := i657) (by omega)).len
                            refine j_aload dX11_replaceTable_106 rfl rfl ?_
                            obtain ⟨p894, hp894, hq894, hk894⟩ := z_rs_ex (P := (z_qp s1 (i657)).2) (k := k) (by omega)
                            refine j_callF (x := ⟨"java/util/Iterator", "next", "()Ljava/lang/Object;"⟩) (q := (RJx35411, TJx35411, 4)) dX11_replaceTable_108 kJx35411_next_0502b ⟨(z_w 1775 ((lwg_8 50).trans (by decide +kernel)) (by decide +kernel)), (z_w 1778 ((lwg_8 53).trans (by decide +kernel)) (by decide +kernel)), inJx35411_next_0502b, ⟨by decide, by decide⟩, rfl, fun U h => h.2.2.1⟩ git rfl (cl_next hl w84 58 it883 (51 + i657) _ (k) _ _ _ (hm.tb (t := i657) (by omega)) ⟨_, git⟩ hq894 hita883 hitb883 (by omega)) (Nat.le_of_ble_eq_true rfl) ⟨(by show _ ≤ 2; omega), (by show _ ≤ 11; omega)⟩ rfl (Nat.le_of_ble_eq_true rfl) rfl ?_
                            rintro _ w86 ⟨rfl, fw86, la86, git86⟩
                            have fm86 := fw86.fm (q := 59) (by omega)
                            have h86 := hm.gar fw86 (by omega)
                            have ke86 := z_ke h86 hke rfl
                            refine j_castS dX11_replaceTable_113 (z_w 1663 ((lwg_7 178).trans (by decide +kernel)) (by decide +kernel)) (z_isA ((h86.pr (t := i657) (by omega)).1 p894 hp894).2) ?_
                            refine j_astore (lo' := [(6, _), (0, _), (1, _), (2, _), (3, _), (4, _), (5, _)]) dX11_replaceTable_116 rfl (by decide) rfl ?_
                            refine j_aload dX11_replaceTable_118 rfl rfl ?_
                            refine j_iconst (v := 1) dX11_replaceTable_120 (by decide) ?_
                            refine j_dup2 dX11_replaceTable_121 rfl rfl ?_
                            refine j_ld dX11_replaceTable_122 (h86.cn (i := 2) (by decide)) (vp_in_nI (n := 1) (by decide) (by decide)) ?_
                            refine j_iconst (v := 1) dX11_replaceTable_123 (by decide) ?_
                            refine j_iadd dX11_replaceTable_124 ?_
                            refine j_sto (w' := _) dX11_replaceTable_125 (h86.cn (i := 2) (by decide)) (vp_in_nI (n := 1) (by decide) (by decide)) rfl ?_
                            refine j_seal (by omega) ?_
                            intro w87 u87
                            have fw87 := u87.fw (ρ := 44 + 2) (by omega) (by omega)
                            have g87_it883 := (fun z => (u87.2.1 it883 (fun z9 => by have h9 := hitb883; rw [z9] at h9; omega)).trans z) git86
                            have h87 := h86.up44 (i0 := 2) (by decide) fw87 u87.1
                            have ke87 := z_ke h87 ke86 rfl
                            refine j_aload dX11_replaceTable_126 rfl rfl ?_
                            refine j_iconst (v := 2) dX11_replaceTable_128 (by decide) ?_
                            refine j_dup2 dX11_replaceTable_129 rfl rfl ?_
                            refine j_ld dX11_replaceTable_130 (h87.cn (i := 2) (by decide)) (vp_in_nI (n := 2) (by decide) (by decide)) ?_
                            refine j_iconst (v := 1) dX11_replaceTable_131 (by decide) ?_
                            refine j_iadd dX11_replaceTable_132 ?_
                            refine j_sto (w' := _) dX11_replaceTable_133 (h87.cn (i := 2) (by decide)) (vp_in_nI (n := 2) (by decide) (by decide)) rfl ?_
                            refine j_seal (by omega) ?_
                            intro w88 u88
                            have fw88 := u88.fw (ρ := 44 + 2) (by omega) (by omega)
                            have g88_it883 := (fun z => (u88.2.1 it883 (fun z9 => by have h9 := hitb883; rw [z9] at h9; omega)).trans z) g87_it883
                            have h88 := h87.up44 (i0 := 2) (by decide) fw88 u88.1
                            have ke88 := z_ke h88 ke87 rfl
                            refine j_iload_n dX11_replaceTable_134 rfl ?_
                            refine j_aload dX11_replaceTable_135 rfl rfl ?_
                            refine j_iconst (v := 0) dX11_replaceTable_137 (by decide) ?_
                            refine j_ld dX11_replaceTable_138 ((h88.pr (t := i657) (by omega)).1 p894 hp894).2 (vp_in_nI (n := 0) (by decide) (by decide)) ?_
                            refine j_aload dX11_replaceTable_139 rfl rfl ?_
                            refine j_iconst (v := 1) dX11_replaceTable_141 (by decide) ?_
                            refine j_ld dX11_replaceTable_142 ((h88.pr (t := i657) (by omega)).1 p894 hp894).2 (vp_in_nI (n := 1) (by decide) (by decide)) ?_
                            refine j_iload_n dX11_replaceTable_143 rfl ?_
                            refine j_callS dX11_replaceTable_144 kX11_rule lX11_115 stX11_rule (cm_rule hl w88 _ _ _ _) (Nat.le_of_ble_eq_true rfl) ⟨(by show _ ≤ 2; omega), (by show _ ≤ 11; omega)⟩ rfl (Nat.le_of_ble_eq_true rfl) rfl rfl (fun _ _ h => h.elim) ?_
                            rintro _ _ ⟨⟨r902, rfl⟩, hw902⟩
                            refine j_w w88 hw902 ?_
                            refine j_istore (lo' := [(7, _), (6, _), (0, _), (1, _), (2, _), (3, _), (4, _), (5, _)]) dX11_replaceTable_147 (by decide) rfl ?_
                            refine j_iload dX11_replaceTable_149 rfl ?_
                            refine j_ldc dX11_replaceTable_151 kcX11_67 ?_
                            refine j_icmp_ne (tgt := 161) dX11_replaceTable_153 (by decide) (fun c_153_1510 => ?_) (fun c_153_1510 => ?_)
                            · refine j_aload dX11_replaceTable_161 rfl rfl ?_
                              refine j_iconst (v := 1) dX11_replaceTable_163 (by decide) ?_
                              refine j_iload dX11_replaceTable_164 rfl ?_
                              refine j_sto (w' := _) dX11_replaceTable_166 ((h88.pr (t := i657) (by omega)).1 p894 hp894).2 (vp_in_nI (n := 1) (by decide) (by decide)) rfl ?_
                              refine j_seal (((h88.pr (t := i657) (by omega)).1 p894 hp894).1.1) ?_
                              intro w89 u89
                              have hpp89 := ((h88.pr (t := i657) (by omega)).1 p894 hp894).1
                              have hpq89 := hpp89.2.1
                              have g89_it883 := (u89.2.1 it883 (by omega)).trans g88_it883
                              have fw89 := u89.fw (ρ := 14 + i657) hpp89.1 hpp89.2.1
                              have h89 := h88.up14 (t0 := i657) (by omega) hp894 u89 (z_ui_ne (by decide))
                              have ke89 := z_ke h89 ke88 rfl
                              refine j_aload dX11_replaceTable_167 rfl rfl ?_
                              refine j_iconst (v := 3) dX11_replaceTable_169 (by decide) ?_
                              refine j_dup2 dX11_replaceTable_170 rfl rfl ?_
                              refine j_ld dX11_replaceTable_171 (h89.cn (i := 2) (by decide)) (vp_in_nI (n := 3) (by decide) (by decide)) ?_
                              refine j_iconst (v := 1) dX11_replaceTable_172 (by decide) ?_
                              refine j_iadd dX11_replaceTable_173 ?_
                              refine j_sto (w' := _) dX11_replaceTable_174 (h89.cn (i := 2) (by decide)) (vp_in_nI (n := 3) (by decide) (by decide)) rfl ?_
                              refine j_seal (by omega) ?_
                              intro w90 u90
                              have fw90 := u90.fw (ρ := 44 + 2) (by omega) (by omega)
                              have g90_it883 := (fun z => (u90.2.1 it883 (fun z9 => by have h9 := hitb883; rw [z9] at h9; omega)).trans z) g89_it883
                              have h90 := h89.up44 (i0 := 2) (by decide) fw90 u90.1
                              have ke90 := z_ke h90 ke89 rfl
                              refine j_goto (tgt := 96) dX11_replaceTable_175 (by decide) ?_
                              refine j_widen (kc' := 2) (ks' := 11) (by omega) (by omega) ?_
                              exact j_lo2 (ih w90 _ (k + 1) _ (by omega) (by omega) h90 (((((hfm.tr fm86).tr (fw87.fm (q := 59) (by omega))).tr (fw88.fm (q := 59) (by omega))).tr (fw89.fm (q := 59) (by omega))).tr (fw90.fm (q := 59) (by omega))) ke90 (by show _ ≤ (z_qp s1 i657).2.length; omega) g90_it883) (z_q1 rfl (z_q1 rfl (z_q1 rfl (z_q1 rfl (z_q1 rfl (z_q1 rfl z_q0))))))
                            · refine j_aload_n dX11_replaceTable_156 rfl rfl ?_
                              refine j_callV (q := (RX11, TX11, 8)) dX11_replaceTable_157 kX11_nine lX11_105 inX11_nine seX11_nine h88.m rfl (cm_nine hl w88 _ h88) (Nat.le_of_ble_eq_true rfl) ⟨(by show _ ≤ 2; omega), (by show _ ≤ 11; omega)⟩ rfl (Nat.le_of_ble_eq_true rfl) rfl rfl (fun _ _ h => h.elim) ?_
                              rintro _ w91 ⟨rfl, fm91, h91⟩
                              have g91_it883 := fm91.g hita883 (by rw [hitb883]; decide) g88_it883
                              have ke91 := z_ke h91 ke88 rfl
                              refine j_iret dX11_replaceTable_160 rfl rfl ?_ (by show _ ≤ 2; omega) (by show _ ≤ 11; omega)
                              exact ⟨_, _, rfl, ((((hfm.tr fm86).tr (fw87.fm (q := 59) (by omega))).tr (fw88.fm (q := 59) (by omega))).tr (fm91.le (q' := 59) (by decide))), h91, ke91⟩
                      refine j_widen (kc' := 2) (ks' := 11) (by omega) (by omega) ?_
                      exact j_lo2 (loop96 21 w83 _ 0 _ (by omega) (by omega) h83 (((fm2.le (q' := 59) (by decide)).tr (fw82.fm (q := 59) (by omega))).tr fm83) ke83 (Nat.zero_le _) git883) (z_q1 rfl (z_q1 rfl (z_q1 rfl (z_q1 rfl (z_q1 rfl (z_q1 rfl z_q0))))))
                  · exact absurd c_48_1198 (by decide)
                · exact absurd c_36_1192 (by decide)
end ZMs8
