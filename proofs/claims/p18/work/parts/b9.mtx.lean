section ZMtx
variable {G : z_G} {l : Launch}
theorem sp_ke {w : z_W} {S : sp_S} {s1 s2 : z_Z} (_ : z_mst w s2) (k : sp_MR S s1) (e : s2.1.2 = s1.1.2 ∧ s2.2 = s1.2) : sp_MR S s2 := by
  obtain ⟨a1, a2⟩ := s1
  obtain ⟨b1, b2⟩ := s2
  obtain ⟨e1, e2⟩ := e
  have e1 : b1.2 = a1.2 := e1
  have e2 : b2 = a2 := e2
  subst e2
  exact ⟨e1.trans k.1, k.2⟩
theorem cs_houseTold (hl : l.stackTraces = false) (w : z_W) (S : sp_S) (s : z_Z) (q : Nat) (h : z_mst w s) (R : sp_MR S s) (hq : q < 5) : z_Con G l mX11_houseTold 20 2 9 w [.ref 1000, .int (nI q)] (fun v w9 => ∃ (r : Int32) (s9 : z_Z), v = some (.int r) ∧ z_fm 59 w w9 ∧ z_mst w9 s9 ∧ sp_MR S s9) (fun _ _ => False) :=
  z_weak (cx_houseTold hl w S s q h R hq) (fun v w' p => by obtain ⟨s9, p1, p2, p3, p4, -⟩ := p; exact ⟨_, s9, p1, p2, p3, p4⟩) (fun _ _ h => h)
set_option maxRecDepth 100000 in
set_option maxHeartbeats 8000000 in
theorem cs_textH (hl : l.stackTraces = false) (w : z_W) (S : sp_S) (s : z_Z) (i : Nat) (h : z_mst w s) (R : sp_MR S s) (hi : i < 2) : z_Con G l mX10_text 18 20 640 w [.ref (1009 + i)] (fun v w9 => ∃ (r n : Nat) (s9 : z_Z), v = some (.ref r) ∧ z_fm 59 w w9 ∧ z_mst w9 s9 ∧ sp_MR S s9 ∧ z_tx w9 57 r n) (fun _ _ => False) := by
  have ke0 : sp_MR S s := R
  refine z_body hl (by decide) rfl (Nat.le_of_ble_eq_true rfl) ?_
  show z_J G l mX10_text _ 0 [(0, _)] [] _ 0 0
  obtain ⟨x1, hx1a, hx1b, hx1c⟩ := z_fresh (56) (by decide) h.fn
  refine j_new (N := 4) (w' := _) (n := x1) dX10_text_0 nX10_52 rfl (z_alW hx1c hx1a) (Nat.le_of_ble_eq_true rfl) (Nat.le_of_ble_eq_true rfl) ?_
  refine j_seal hx1a ?_
  intro w1 u1
  have fw1 := u1.fw hx1a hx1b
  have g1_x1 := u1.1
  have h1 := h.gar fw1 (by omega)
  have ke1 := sp_ke h1 ke0 ⟨rfl, rfl⟩
  refine j_dup dX10_text_3 rfl ?_
  refine j_callI dX10_text_4 kJ4_init_da8c8 rfl lX10_54 inJ4_init_da8c8 rfl (sb_ini hl w1 56 x1 hx1a hx1b (by decide) h1.fn g1_x1) (Nat.le_of_ble_eq_true rfl) ⟨(by show _ ≤ 20; omega), (by show _ ≤ 640; omega)⟩ rfl (Nat.le_of_ble_eq_true rfl) rfl rfl (fun _ _ h => h.elim) ?_
  rintro _ w2 ⟨rfl, fw2, hs2⟩
  have fm2 := fw2.fm (q := 59) (by omega)
  have h2 := h1.gar fw2 (by omega)
  have ke2 := sp_ke h2 ke1 ⟨rfl, rfl⟩
  refine j_astore_n (lo' := [(1, _), (0, _)]) dX10_text_7 rfl (by decide) rfl ?_
  refine j_aload_n dX10_text_8 rfl rfl ?_
  refine j_getf dX10_text_9 fX10_21 (h2.hd (i := i) hi) rfl ?_
  obtain ⟨lv907, -, lg907⟩ := z_li.cell (h2.hl (i := i) hi).1
  refine j_callV (q := (RJx4a65c, TJx4a65c, 3)) dX10_text_12 kJx4a65c_iterator_32c93 lX10_55 inJx4a65c_iterator_32c93 seJx4a65c_iterator_32c93 lg907 rfl (cl_iter hl w2 58 (54 + i) _ _ _ (h2.hl (i := i) hi).1 (by decide) (by omega) h2.fn) (Nat.le_of_ble_eq_true rfl) ⟨(by show _ ≤ 20; omega), (by show _ ≤ 640; omega)⟩ rfl (Nat.le_of_ble_eq_true rfl) rfl rfl (fun _ _ h => h.elim) ?_
  rintro _ w3 ⟨it906, rfl, fw3, hita906, hitb906, hitc906, la906, git906⟩
  have hita906 : 1000 ≤ it906 := hita906
  have hitb906 : it906 % 64 = 58 := hitb906
  have fm3 := fw3.fm (q := 59) (by omega)
  have h3 := h2.gar fw3 (by omega)
  have hs3 := hs2.fw fw3 (by decide)
  have ke3 := sp_ke h3 ke2 ⟨rfl, rfl⟩
  refine j_astore_n (lo' := [(2, _), (1, _), (0, _)]) dX10_text_15 rfl (by decide) rfl ?_
  have loop16 : ∀ (n9 : Nat) (w4 : z_W) (s1 : z_Z) (k bn bN : Nat) (la : Int32), (k ≤ 10) → (10 < k + n9) → (z_mst w4 s1) → (z_fm 59 w w4) → (sp_MR S s1) → (k ≤ (z_ql s1 i).2.length) → (z_g w4 it906 = some (.inr (3, [.int (nI k), .int la, .int (z_ql s1 i).1, .ref (1014 + i)]))) → (z_sb w4 56 x1 bn bN) → (bn ≤ 12 * k) → (bN ≤ 2 * 120 + 16) → z_J G l mX10_text (18, 20, 640, w, (fun v w9 => ∃ (r n : Nat) (s9 : z_Z), v = some (.ref r) ∧ z_fm 59 w w9 ∧ z_mst w9 s9 ∧ sp_MR S s9 ∧ z_tx w9 57 r n), (fun _ _ => False)) 16 [(0, .ref (1009 + i)), (1, .ref x1), (2, .ref it906)] [] w4 (2 + bN / 16) (2 * bN) := by
    intro n9
    induction n9 with
    | zero => intro w4 s1 k bn bN la hj hf9 hm hfm hke hkl git hsb hbn hbN; exact absurd hf9 (by omega)
    | succ n9 ih =>
      intro w4 s1 k bn bN la hj hf9 hm hfm hke hkl git hsb hbn hbN
      have hnN0 := hsb.nN
      refine j_aload_n dX10_text_16 rfl rfl ?_
      refine j_callF (x := ⟨"java/util/Iterator", "hasNext", "()Z"⟩) (q := (RJx35411, TJx35411, 4)) dX10_text_17 kJx35411_hasNext_aae02 ⟨(z_w 1856 ((lwt_8_4 11).trans rfl) (by decide +kernel)), (z_w 1769 ((lwt_8_1 14).trans rfl) (by decide +kernel)), inJx35411_hasNext_aae02, ⟨by decide, by decide⟩, rfl, fun U h => h.2.1⟩ git rfl (cl_hasN hl w4 _ (54 + i) _ (k) _ _ (hm.hl (i := i) hi).1 ⟨_, git⟩ (by rw [z_bx_len]; omega)) (Nat.le_of_ble_eq_true rfl) ⟨(by show _ ≤ 20; omega), (by show _ ≤ 640; omega)⟩ rfl (Nat.le_of_ble_eq_true rfl) rfl ?_
      rintro _ _ ⟨⟨x908, rfl, hz908, hp908⟩, hw908⟩
      refine j_w w4 hw908 ?_
      refine j_if_eq (tgt := 64) dX10_text_22 (by decide) (fun c_22_40 => ?_) (fun c_22_40 => ?_)
      · have hk22 : k = (z_ql s1 (i)).2.length := (z_bx_len ▸ hz908 c_22_40)
        refine j_aload_n dX10_text_64 rfl rfl ?_
        have hnN := hsb.nN
        obtain ⟨fs909, gs909⟩ := hsb.cell
        refine j_callV (q := (RJ4, TJ4, 4)) dX10_text_65 kJ4_toString_0e30d lX10_86 inJ4_toString_0e30d seJ4_toString_0e30d gs909 rfl (sb_toS hl w4 57 56 x1 (bn) (bN) hsb (by decide) (by decide) hm.fn) (Nat.le_of_ble_eq_true rfl) ⟨(by show _ ≤ 20; omega), (by show _ ≤ 640; omega)⟩ rfl (Nat.le_of_ble_eq_true rfl) rfl rfl (fun _ _ h => h.elim) ?_
        rintro _ w5 ⟨r5, rfl, fw5, ht5⟩
        have g5_it906 := fw5.g (Or.inr (by omega)) git
        have fm5 := fw5.fm (q := 59) (by omega)
        have h5 := hm.gar fw5 (by omega)
        have ke5 := sp_ke h5 hke ⟨rfl, rfl⟩
        refine j_aret dX10_text_68 rfl (Or.inl ⟨_, rfl⟩) rfl ?_ (by show _ ≤ 20; omega) (by show _ ≤ 640; omega)
        exact ⟨_, _, _, rfl, (hfm.tr fm5), h5, ke5, ht5⟩
      · have hk22 : k < (z_ql s1 (i)).2.length := (z_bx_len ▸ hp908 c_22_40)
        have hzk22 : (z_ql s1 (i)).2.length ≤ 10 := (hm.hl (i := i) (by omega)).2
        refine j_aload_n dX10_text_25 rfl rfl ?_
        refine j_callF (x := ⟨"java/util/Iterator", "next", "()Ljava/lang/Object;"⟩) (q := (RJx35411, TJx35411, 4)) dX10_text_26 kJx35411_next_0502b ⟨(z_w 1858 ((lwt_8_4 13).trans rfl) (by decide +kernel)), (z_w 1778 ((lwt_8_1 23).trans rfl) (by decide +kernel)), inJx35411_next_0502b, ⟨by decide, by decide⟩, rfl, fun U h => h.2.2.1⟩ git rfl (cl_next hl w4 58 it906 (54 + i) _ (k) _ _ _ (hm.hl (i := i) hi).1 ⟨_, git⟩ (z_bx_get (B := (z_ql s1 (i)).2) (by omega)) hita906 hitb906 (by omega)) (Nat.le_of_ble_eq_true rfl) ⟨(by show _ ≤ 20; omega), (by show _ ≤ 640; omega)⟩ rfl (Nat.le_of_ble_eq_true rfl) rfl ?_
        rintro _ w6 ⟨rfl, fw6, la6, git6⟩
        have fm6 := fw6.fm (q := 59) (by omega)
        have h6 := hm.gar fw6 (by omega)
        have hs6 := hsb.fw fw6 (by decide)
        have ke6 := sp_ke h6 hke ⟨rfl, rfl⟩
        refine j_castS dX10_text_31 (z_w 1859 ((lwt_8_4 14).trans rfl) (by decide +kernel)) rfl ?_
        refine j_callVB (v0 := .float _) (C := "java/lang/Integer") dX10_text_34 kJ6_intValue_8abf5 lX10_69 inJ6_intValue_8abf5 seJ6_intValue_8abf5 rfl (c_J6_intValue_8abf5 hl w6 _) (Nat.le_of_ble_eq_true rfl) ⟨(by show _ ≤ 20; omega), (by show _ ≤ 640; omega)⟩ rfl (Nat.le_of_ble_eq_true rfl) rfl rfl (fun _ _ h => h.elim) ?_
        rintro _ _ ⟨rfl, hw912⟩
        refine j_w w6 hw912 ?_
        refine j_gen ?_
        intro xv913
        refine j_istore_n (lo' := [(3, _), (0, _), (1, _), (2, _)]) dX10_text_37 (by decide) rfl ?_
        refine j_aload_n dX10_text_38 rfl rfl ?_
        refine j_aload_n dX10_text_39 rfl rfl ?_
        obtain ⟨fs914, gs914⟩ := hs6.cell
        refine j_callV (q := (RJ4, TJ4, 4)) dX10_text_40 kJ4_length_8abf5 lX10_72 inJ4_length_8abf5 seJ4_length_8abf5 gs914 rfl (sb_len hl w6 56 x1 (bn) (bN) hs6) (Nat.le_of_ble_eq_true rfl) ⟨(by show _ ≤ 20; omega), (by show _ ≤ 640; omega)⟩ rfl (Nat.le_of_ble_eq_true rfl) rfl rfl (fun _ _ h => h.elim) ?_
        rintro _ _ ⟨rfl, hw915⟩
        refine j_w w6 hw915 ?_
        refine j_if_le (tgt := 51) dX10_text_43 (by decide) (fun c_43_75 => ?_) (fun c_43_75 => ?_)
        · have hb43 : (bn) ≤ 0 := (nI_leI (a := (bn)) (b := 0) (by omega) (by omega)).mp c_43_75
          refine j_ldcS (i := 12) dX10_text_51 rfl (Or.inr rfl) rfl rfl ?_
          have hnN916 := hs6.nN
          have hle916 := z_gr_le (N := bN) (m := (bn + 0))
          have hmx916 := z_gr_mx (N := bN) (m := (bn + 0)) (M := 120) (by omega) (by omega)
          obtain ⟨fs917, gs917⟩ := hs6.cell
          refine j_callV (q := (RJ4, TJ4, 4)) dX10_text_53 kJ4_append_15ec4 lX10_79 inJ4_append_15ec4 seJ4_append_15ec4 gs917 rfl (sb_apK hl w6 56 x1 (bn) (bN) 12 0 _ rfl (Or.inr rfl) (by decide) hs6 (by omega) (by omega) (by decide) h6.fn) (Nat.le_of_ble_eq_true rfl) ⟨(by show _ ≤ 20; omega), (by show _ ≤ 640; omega)⟩ rfl (Nat.le_of_ble_eq_true rfl) rfl rfl (fun _ _ h => h.elim) ?_
          rintro _ w7 ⟨rfl, fw7, hs7⟩
          have g7_it906 := fw7.g (Or.inr (by omega)) git6
          have fm7 := fw7.fm (q := 59) (by omega)
          have h7 := h6.gar fw7 (by omega)
          have ke7 := sp_ke h7 ke6 ⟨rfl, rfl⟩
          refine j_iload_n dX10_text_56 rfl ?_
          have hzs57 := z_sz_in xv913
          have hnN918 := hs7.nN
          have hle918 := z_gr_le (N := (z_gr (bN) (bn + 0))) (m := ((bn + 0) + z_sz xv913))
          have hmx918 := z_gr_mx (N := (z_gr (bN) (bn + 0))) (m := ((bn + 0) + z_sz xv913)) (M := 120) (by omega) (by omega)
          obtain ⟨fs919, gs919⟩ := hs7.cell
          refine j_callV (q := (RJ4, TJ4, 4)) dX10_text_57 kJ4_append_bf812 lX10_83 inJ4_append_bf812 seJ4_append_bf812 gs919 rfl (sb_apI hl w7 56 x1 ((bn + 0)) ((z_gr (bN) (bn + 0))) xv913 hs7 (by omega) (by omega) (by decide) h7.fn) (Nat.le_of_ble_eq_true rfl) ⟨(by show _ ≤ 20; omega), (by show _ ≤ 640; omega)⟩ rfl (Nat.le_of_ble_eq_true rfl) rfl rfl (fun _ _ h => h.elim) ?_
          rintro _ w8 ⟨rfl, fw8, hs8⟩
          have g8_it906 := fw8.g (Or.inr (by omega)) g7_it906
          have fm8 := fw8.fm (q := 59) (by omega)
          have h8 := h7.gar fw8 (by omega)
          have ke8 := sp_ke h8 ke7 ⟨rfl, rfl⟩
          refine j_pop dX10_text_60 rfl ?_
          refine j_goto (tgt := 16) dX10_text_61 (by decide) ?_
          refine j_widen (kc' := 2 + (z_gr ((z_gr (bN) (bn + 0))) ((bn + 0) + z_sz xv913)) / 16) (ks' := 2 * (z_gr ((z_gr (bN) (bn + 0))) ((bn + 0) + z_sz xv913))) (by omega) (by omega) ?_
          exact j_lo2 (ih w8 _ (k + 1) ((bn + 0) + z_sz xv913) (z_gr ((z_gr (bN) (bn + 0))) ((bn + 0) + z_sz xv913)) _ (by omega) (by omega) h8 (((hfm.tr fm6).tr fm7).tr fm8) ke8 (by first | omega | (show _ ≤ (z_ql s1 i).2.length; omega)) g8_it906 hs8 (by omega) (by omega)) (z_q1 rfl (z_q1 rfl (z_q1 rfl z_q0)))
        · have hb43 : 0 < (bn) := Nat.not_le.mp (fun z => c_43_75 ((nI_leI (a := (bn)) (b := 0) (by omega) (by omega)).mpr z))
          refine j_ldcS (i := 11) dX10_text_46 rfl (Or.inr rfl) rfl rfl ?_
          refine j_goto (tgt := 53) dX10_text_48 (by decide) ?_
          have hnN920 := hs6.nN
          have hle920 := z_gr_le (N := bN) (m := (bn + 1))
          have hmx920 := z_gr_mx (N := bN) (m := (bn + 1)) (M := 120) (by omega) (by omega)
          obtain ⟨fs921, gs921⟩ := hs6.cell
          refine j_callV (q := (RJ4, TJ4, 4)) dX10_text_53 kJ4_append_15ec4 lX10_79 inJ4_append_15ec4 seJ4_append_15ec4 gs921 rfl (sb_apK hl w6 56 x1 (bn) (bN) 11 1 _ rfl (Or.inr rfl) (by decide) hs6 (by omega) (by omega) (by decide) h6.fn) (Nat.le_of_ble_eq_true rfl) ⟨(by show _ ≤ 20; omega), (by show _ ≤ 640; omega)⟩ rfl (Nat.le_of_ble_eq_true rfl) rfl rfl (fun _ _ h => h.elim) ?_
          rintro _ w9 ⟨rfl, fw9, hs9⟩
          have g9_it906 := fw9.g (Or.inr (by omega)) git6
          have fm9 := fw9.fm (q := 59) (by omega)
          have h9 := h6.gar fw9 (by omega)
          have ke9 := sp_ke h9 ke6 ⟨rfl, rfl⟩
          refine j_iload_n dX10_text_56 rfl ?_
          have hzs57 := z_sz_in xv913
          have hnN922 := hs9.nN
          have hle922 := z_gr_le (N := (z_gr (bN) (bn + 1))) (m := ((bn + 1) + z_sz xv913))
          have hmx922 := z_gr_mx (N := (z_gr (bN) (bn + 1))) (m := ((bn + 1) + z_sz xv913)) (M := 120) (by omega) (by omega)
          obtain ⟨fs923, gs923⟩ := hs9.cell
          refine j_callV (q := (RJ4, TJ4, 4)) dX10_text_57 kJ4_append_bf812 lX10_83 inJ4_append_bf812 seJ4_append_bf812 gs923 rfl (sb_apI hl w9 56 x1 ((bn + 1)) ((z_gr (bN) (bn + 1))) xv913 hs9 (by omega) (by omega) (by decide) h9.fn) (Nat.le_of_ble_eq_true rfl) ⟨(by show _ ≤ 20; omega), (by show _ ≤ 640; omega)⟩ rfl (Nat.le_of_ble_eq_true rfl) rfl rfl (fun _ _ h => h.elim) ?_
          rintro _ w10 ⟨rfl, fw10, hs10⟩
          have g10_it906 := fw10.g (Or.inr (by omega)) g9_it906
          have fm10 := fw10.fm (q := 59) (by omega)
          have h10 := h9.gar fw10 (by omega)
          have ke10 := sp_ke h10 ke9 ⟨rfl, rfl⟩
          refine j_pop dX10_text_60 rfl ?_
          refine j_goto (tgt := 16) dX10_text_61 (by decide) ?_
          refine j_widen (kc' := 2 + (z_gr ((z_gr (bN) (bn + 1))) ((bn + 1) + z_sz xv913)) / 16) (ks' := 2 * (z_gr ((z_gr (bN) (bn + 1))) ((bn + 1) + z_sz xv913))) (by omega) (by omega) ?_
          exact j_lo2 (ih w10 _ (k + 1) ((bn + 1) + z_sz xv913) (z_gr ((z_gr (bN) (bn + 1))) ((bn + 1) + z_sz xv913)) _ (by omega) (by omega) h10 (((hfm.tr fm6).tr fm9).tr fm10) ke10 (by first | omega | (show _ ≤ (z_ql s1 i).2.length; omega)) g10_it906 hs10 (by omega) (by omega)) (z_q1 rfl (z_q1 rfl (z_q1 rfl z_q0)))
  refine j_widen (kc' := 2 + 16 / 16) (ks' := 2 * 16) (by decide) (by decide) ?_
  exact j_lo2 (loop16 (10 + 1) w3 _ 0 0 16 _ (by omega) (by omega) h3 (((fw1.fm (q := 59) (by omega)).tr fm2).tr fm3) ke3 (Nat.zero_le _) git906 hs3 (by omega) (by omega)) (z_q1 rfl (z_q1 rfl (z_q1 rfl z_q0)))
set_option maxRecDepth 100000 in
set_option maxHeartbeats 8000000 in
theorem cs_heardText (hl : l.stackTraces = false) (w : z_W) (S : sp_S) (s : z_Z) (x : Int32) (h : z_mst w s) (R : sp_MR S s)  : z_Con G l mX11_heardText 20 20 640 w [.ref 1000, .int x] (fun v w9 => ∃ (r : Value) (s9 : z_Z), v = some r ∧ z_ir r = true ∧ z_fm 59 w w9 ∧ z_mst w9 s9 ∧ sp_MR S s9) (fun _ _ => False) := by
  have ke0 : sp_MR S s := R
  refine z_body hl (by decide) rfl (Nat.le_of_ble_eq_true rfl) ?_
  show z_J G l mX11_heardText _ 0 [(0, _), (1, _)] [] _ 0 0
  refine j_aload_n dX11_heardText_0 rfl rfl ?_
  refine j_iload_n dX11_heardText_1 rfl ?_
  refine j_callS dX11_heardText_2 kX11_isNoTwo lX11_72 stX11_isNoTwo (cm_isNoTwo hl w _) (Nat.le_of_ble_eq_true rfl) ⟨(by show _ ≤ 20; omega), (by show _ ≤ 640; omega)⟩ rfl (Nat.le_of_ble_eq_true rfl) rfl rfl (fun _ _ h => h.elim) ?_
  rintro _ _ ⟨⟨rfl, hno924⟩ | ⟨rfl, i924, hi924, rfl⟩, hw924⟩
  · refine j_w w hw924 ?_
    refine j_iconst (v := 1) dX11_heardText_5 (by decide) ?_
    refine j_callV (q := (RX11, TX11, 8)) dX11_heardText_6 kX11_start lX11_76 inX11_start seX11_start h.m rfl (cm_start1 hl w _ _ h (by decide)) (Nat.le_of_ble_eq_true rfl) ⟨(by show _ ≤ 20; omega), (by show _ ≤ 640; omega)⟩ rfl (Nat.le_of_ble_eq_true rfl) rfl rfl (fun _ _ h => h.elim) ?_
    rintro _ w1 ⟨rfl, fm1, h1⟩
    have ke1 := sp_ke h1 ke0 ⟨rfl, rfl⟩
    refine j_if_eq (tgt := 17) dX11_heardText_9 (by decide) (fun c_9_11 => ?_) (fun c_9_11 => ?_)
    · exact absurd c_9_11 (by decide)
    · refine j_ldcS (i := 10) dX11_heardText_12 rfl (Or.inl rfl) rfl rfl ?_
      refine j_goto (tgt := 26) dX11_heardText_14 (by decide) ?_
      refine j_aret dX11_heardText_26 rfl (Or.inl ⟨_, rfl⟩) rfl ?_ (by show _ ≤ 20; omega) (by show _ ≤ 640; omega)
      exact ⟨_, _, rfl, rfl, (fm1.le (q' := 59) (by decide)), h1, ke1⟩
  · refine j_w w hw924 ?_
    refine j_iconst (v := 1) dX11_heardText_5 (by decide) ?_
    refine j_callV (q := (RX11, TX11, 8)) dX11_heardText_6 kX11_start lX11_76 inX11_start seX11_start h.m rfl (cm_start0 hl w _ _ h) (Nat.le_of_ble_eq_true rfl) ⟨(by show _ ≤ 20; omega), (by show _ ≤ 640; omega)⟩ rfl (Nat.le_of_ble_eq_true rfl) rfl rfl (fun _ _ h => h.elim) ?_
    rintro _ w2 ⟨rfl, fm2, h2⟩
    have ke2 := sp_ke h2 ke0 ⟨rfl, rfl⟩
    refine j_if_eq (tgt := 17) dX11_heardText_9 (by decide) (fun c_9_22 => ?_) (fun c_9_22 => ?_)
    · refine j_aload_n dX11_heardText_17 rfl rfl ?_
      refine j_getf dX11_heardText_18 fX11_40 h2.m rfl ?_
      refine j_iload_n dX11_heardText_21 rfl ?_
      obtain ⟨fz925, gz925, hz925⟩ := h2.hs
      refine j_aald (v := .ref (1009 + i924)) dX11_heardText_22 gz925 rfl rfl (vp_in_nI (by omega) (by omega)) (by rw [z_cla (by omega)]; exact hz925 _ (by omega)) ?_
      refine j_callVN (q := (RX10, TX10, 5)) dX11_heardText_23 kX10_text lX11_210 inX10_text seX10_text (h2.hd (i := i924) (by omega)) rfl (cs_textH hl w2 S _ (i924) h2 ke2 (by omega)) (Nat.le_of_ble_eq_true rfl) ⟨(by show _ ≤ 20; omega), (by show _ ≤ 640; omega)⟩ rfl (Nat.le_of_ble_eq_true rfl) rfl rfl (fun _ _ h => h.elim) ?_
      rintro _ w3 ⟨r3, m3, s3, rfl, fm3, h3, hk3, ht3⟩
      have ke3 := hk3
      refine j_aret dX11_heardText_26 rfl (Or.inl ⟨_, rfl⟩) rfl ?_ (by show _ ≤ 20; omega) (by show _ ≤ 640; omega)
      exact ⟨_, _, rfl, rfl, ((fm2.le (q' := 59) (by decide)).tr (fm3.le (q' := 59) (by decide))), h3, ke3⟩
    · exact absurd c_9_22 (by decide)
set_option maxRecDepth 100000 in
set_option maxHeartbeats 8000000 in
theorem cs_rowText (hl : l.stackTraces = false) (w : z_W) (S : sp_S) (s : z_Z) (x : Int32) (h : z_mst w s) (R : sp_MR S s)  : z_Con G l mX11_rowText 20 24 800 w [.ref 1000, .int x] (fun v w9 => ∃ (r : Value) (s9 : z_Z), v = some r ∧ z_ir r = true ∧ z_fm 59 w w9 ∧ z_mst w9 s9 ∧ sp_MR S s9) (fun _ _ => False) := by
  have ke0 : sp_MR S s := R
  refine z_body hl (by decide) rfl (Nat.le_of_ble_eq_true rfl) ?_
  show z_J G l mX11_rowText _ 0 [(0, _), (1, _)] [] _ 0 0
  refine j_aload_n dX11_rowText_0 rfl rfl ?_
  refine j_iload_n dX11_rowText_1 rfl ?_
  refine j_callS dX11_rowText_2 kX11_isNoTwo lX11_72 stX11_isNoTwo (cm_isNoTwo hl w _) (Nat.le_of_ble_eq_true rfl) ⟨(by show _ ≤ 24; omega), (by show _ ≤ 800; omega)⟩ rfl (Nat.le_of_ble_eq_true rfl) rfl rfl (fun _ _ h => h.elim) ?_
  rintro _ _ ⟨⟨rfl, hno926⟩ | ⟨rfl, i926, hi926, rfl⟩, hw926⟩
  · refine j_w w hw926 ?_
    refine j_iconst (v := 1) dX11_rowText_5 (by decide) ?_
    refine j_callV (q := (RX11, TX11, 8)) dX11_rowText_6 kX11_start lX11_76 inX11_start seX11_start h.m rfl (cm_start1 hl w _ _ h (by decide)) (Nat.le_of_ble_eq_true rfl) ⟨(by show _ ≤ 24; omega), (by show _ ≤ 800; omega)⟩ rfl (Nat.le_of_ble_eq_true rfl) rfl rfl (fun _ _ h => h.elim) ?_
    rintro _ w1 ⟨rfl, fm1, h1⟩
    have ke1 := sp_ke h1 ke0 ⟨rfl, rfl⟩
    refine j_if_eq (tgt := 15) dX11_rowText_9 (by decide) (fun c_9_11 => ?_) (fun c_9_11 => ?_)
    · exact absurd c_9_11 (by decide)
    · refine j_ldcS (i := 10) dX11_rowText_12 rfl (Or.inl rfl) rfl rfl ?_
      refine j_aret dX11_rowText_14 rfl (Or.inl ⟨_, rfl⟩) rfl ?_ (by show _ ≤ 24; omega) (by show _ ≤ 800; omega)
      exact ⟨_, _, rfl, rfl, (fm1.le (q' := 59) (by decide)), h1, ke1⟩
  · refine j_w w hw926 ?_
    refine j_iconst (v := 1) dX11_rowText_5 (by decide) ?_
    refine j_callV (q := (RX11, TX11, 8)) dX11_rowText_6 kX11_start lX11_76 inX11_start seX11_start h.m rfl (cm_start0 hl w _ _ h) (Nat.le_of_ble_eq_true rfl) ⟨(by show _ ≤ 24; omega), (by show _ ≤ 800; omega)⟩ rfl (Nat.le_of_ble_eq_true rfl) rfl rfl (fun _ _ h => h.elim) ?_
    rintro _ w2 ⟨rfl, fm2, h2⟩
    have ke2 := sp_ke h2 ke0 ⟨rfl, rfl⟩
    refine j_if_eq (tgt := 15) dX11_rowText_9 (by decide) (fun c_9_21 => ?_) (fun c_9_21 => ?_)
    · obtain ⟨x1, hx1a, hx1b, hx1c⟩ := z_fresh (56) (by decide) h2.fn
      refine j_new (N := 4) (w' := _) (n := x1) dX11_rowText_15 nX11_214 rfl (z_alW hx1c hx1a) (Nat.le_of_ble_eq_true rfl) (Nat.le_of_ble_eq_true rfl) ?_
      refine j_seal hx1a ?_
      intro w3 u3
      have fw3 := u3.fw hx1a hx1b
      have g3_x1 := u3.1
      have h3 := h2.gar fw3 (by omega)
      have ke3 := sp_ke h3 ke2 ⟨rfl, rfl⟩
      refine j_dup dX11_rowText_18 rfl ?_
      refine j_callI dX11_rowText_19 kJ4_init_da8c8 rfl lX11_216 inJ4_init_da8c8 rfl (sb_ini hl w3 56 x1 hx1a hx1b (by decide) h3.fn g3_x1) (Nat.le_of_ble_eq_true rfl) ⟨(by show _ ≤ 24; omega), (by show _ ≤ 800; omega)⟩ rfl (Nat.le_of_ble_eq_true rfl) rfl rfl (fun _ _ h => h.elim) ?_
      rintro _ w4 ⟨rfl, fw4, hs4⟩
      have fm4 := fw4.fm (q := 59) (by omega)
      have h4 := h3.gar fw4 (by omega)
      have ke4 := sp_ke h4 ke3 ⟨rfl, rfl⟩
      refine j_astore_n (lo' := [(2, _), (0, _), (1, _)]) dX11_rowText_22 rfl (by decide) rfl ?_
      refine j_aload_n dX11_rowText_23 rfl rfl ?_
      refine j_getf dX11_rowText_24 fX11_21 h4.m rfl ?_
      refine j_iload_n dX11_rowText_27 rfl ?_
      obtain ⟨lv928, -, lg928⟩ := z_li.cell h4.rows
      refine j_callV (q := (RJx4a65c, TJx4a65c, 3)) dX11_rowText_28 kJx4a65c_get_915e3 lX11_82 inJx4a65c_get_915e3 seJx4a65c_get_915e3 lg928 rfl (cl_get hl w4 41 1001 _ _ (i926) _ h4.rows (z_two2 (i := i926) (by omega))) (Nat.le_of_ble_eq_true rfl) ⟨(by show _ ≤ 24; omega), (by show _ ≤ 800; omega)⟩ rfl (Nat.le_of_ble_eq_true rfl) rfl rfl (fun _ _ h => h.elim) ?_
      rintro _ _ ⟨rfl, hw929⟩
      refine j_w w4 hw929 ?_
      refine j_castS dX11_rowText_31 (z_w 1341 ((lwt_6_3 6).trans rfl) (by decide +kernel)) (z_li.is (h4.rw (i := i926) (by omega)).1) ?_
      obtain ⟨lv932, -, lg932⟩ := z_li.cell (h4.rw (i := i926) (by omega)).1
      refine j_callV (q := (RJx4a65c, TJx4a65c, 3)) dX11_rowText_34 kJx4a65c_iterator_32c93 lX11_162 inJx4a65c_iterator_32c93 seJx4a65c_iterator_32c93 lg932 rfl (cl_iter hl w4 58 (11 + i926) _ _ _ (h4.rw (i := i926) (by omega)).1 (by decide) (by omega) h4.fn) (Nat.le_of_ble_eq_true rfl) ⟨(by show _ ≤ 24; omega), (by show _ ≤ 800; omega)⟩ rfl (Nat.le_of_ble_eq_true rfl) rfl rfl (fun _ _ h => h.elim) ?_
      rintro _ w5 ⟨it931, rfl, fw5, hita931, hitb931, hitc931, la931, git931⟩
      have hita931 : 1000 ≤ it931 := hita931
      have hitb931 : it931 % 64 = 58 := hitb931
      have fm5 := fw5.fm (q := 59) (by omega)
      have h5 := h4.gar fw5 (by omega)
      have hs5 := hs4.fw fw5 (by decide)
      have ke5 := sp_ke h5 ke4 ⟨rfl, rfl⟩
      refine j_astore_n (lo' := [(3, _), (2, _), (0, _), (1, _)]) dX11_rowText_37 rfl (by decide) rfl ?_
      have loop38 : ∀ (n9 : Nat) (w6 : z_W) (s1 : z_Z) (k bn bN : Nat) (la : Int32), (k ≤ 12) → (12 < k + n9) → (z_mst w6 s1) → (z_fm 59 w w6) → (sp_MR S s1) → (k ≤ (z_qw s1 (i926)).2.length) → (z_g w6 it931 = some (.inr (3, [.int (nI k), .int la, .int (z_qw s1 (i926)).1, .ref ((z_qr s1).2 (i926))]))) → (z_sb w6 56 x1 bn bN) → (bn ≤ 12 * k) → (bN ≤ 2 * 144 + 16) → z_J G l mX11_rowText (20, 24, 800, w, (fun v w9 => ∃ (r : Value) (s9 : z_Z), v = some r ∧ z_ir r = true ∧ z_fm 59 w w9 ∧ z_mst w9 s9 ∧ sp_MR S s9), (fun _ _ => False)) 38 [(0, .ref 1000), (1, .int (nI i926)), (2, .ref x1), (3, .ref it931)] [] w6 (2 + bN / 16) (2 * bN) := by
        intro n9
        induction n9 with
        | zero => intro w6 s1 k bn bN la hj hf9 hm hfm hke hkl git hsb hbn hbN; exact absurd hf9 (by omega)
        | succ n9 ih =>
          intro w6 s1 k bn bN la hj hf9 hm hfm hke hkl git hsb hbn hbN
          have hnN0 := hsb.nN
          refine j_aload_n dX11_rowText_38 rfl rfl ?_
          refine j_callF (x := ⟨"java/util/Iterator", "hasNext", "()Z"⟩) (q := (RJx35411, TJx35411, 4)) dX11_rowText_39 kJx35411_hasNext_aae02 ⟨(z_w 1765 ((lwt_8_1 10).trans rfl) (by decide +kernel)), (z_w 1769 ((lwt_8_1 14).trans rfl) (by decide +kernel)), inJx35411_hasNext_aae02, ⟨by decide, by decide⟩, rfl, fun U h => h.2.1⟩ git rfl (cl_hasN hl w6 _ (11 + i926) _ (k) _ _ (hm.rw (i := i926) (by omega)).1 ⟨_, git⟩ (by rw [z_bx_len]; omega)) (Nat.le_of_ble_eq_true rfl) ⟨(by show _ ≤ 24; omega), (by show _ ≤ 800; omega)⟩ rfl (Nat.le_of_ble_eq_true rfl) rfl ?_
          rintro _ _ ⟨⟨x933, rfl, hz933, hp933⟩, hw933⟩
          refine j_w w6 hw933 ?_
          refine j_if_eq (tgt := 88) dX11_rowText_44 (by decide) (fun c_44_66 => ?_) (fun c_44_66 => ?_)
          · have hk44 : k = (z_qw s1 (i926)).2.length := (z_bx_len ▸ hz933 c_44_66)
            refine j_aload_n dX11_rowText_88 rfl rfl ?_
            have hnN := hsb.nN
            obtain ⟨fs934, gs934⟩ := hsb.cell
            refine j_callV (q := (RJ4, TJ4, 4)) dX11_rowText_89 kJ4_toString_0e30d lX11_229 inJ4_toString_0e30d seJ4_toString_0e30d gs934 rfl (sb_toS hl w6 57 56 x1 (bn) (bN) hsb (by decide) (by decide) hm.fn) (Nat.le_of_ble_eq_true rfl) ⟨(by show _ ≤ 24; omega), (by show _ ≤ 800; omega)⟩ rfl (Nat.le_of_ble_eq_true rfl) rfl rfl (fun _ _ h => h.elim) ?_
            rintro _ w7 ⟨r7, rfl, fw7, ht7⟩
            have g7_it931 := fw7.g (Or.inr (by omega)) git
            have fm7 := fw7.fm (q := 59) (by omega)
            have h7 := hm.gar fw7 (by omega)
            have ke7 := sp_ke h7 hke ⟨rfl, rfl⟩
            refine j_aret dX11_rowText_92 rfl (Or.inl ⟨_, rfl⟩) rfl ?_ (by show _ ≤ 24; omega) (by show _ ≤ 800; omega)
            exact ⟨_, _, rfl, rfl, (hfm.tr fm7), h7, ke7⟩
          · have hk44 : k < (z_qw s1 (i926)).2.length := (z_bx_len ▸ hp933 c_44_66)
            have hzk44 : (z_qw s1 (i926)).2.length ≤ 12 := (hm.rw (i := i926) (by omega)).2
            refine j_aload_n dX11_rowText_47 rfl rfl ?_
            refine j_callF (x := ⟨"java/util/Iterator", "next", "()Ljava/lang/Object;"⟩) (q := (RJx35411, TJx35411, 4)) dX11_rowText_48 kJx35411_next_0502b ⟨(z_w 1775 ((lwt_8_1 20).trans rfl) (by decide +kernel)), (z_w 1778 ((lwt_8_1 23).trans rfl) (by decide +kernel)), inJx35411_next_0502b, ⟨by decide, by decide⟩, rfl, fun U h => h.2.2.1⟩ git rfl (cl_next hl w6 58 it931 (11 + i926) _ (k) _ _ _ (hm.rw (i := i926) (by omega)).1 ⟨_, git⟩ (z_bx_get (B := (z_qw s1 (i926)).2) (by omega)) hita931 hitb931 (by omega)) (Nat.le_of_ble_eq_true rfl) ⟨(by show _ ≤ 24; omega), (by show _ ≤ 800; omega)⟩ rfl (Nat.le_of_ble_eq_true rfl) rfl ?_
            rintro _ w8 ⟨rfl, fw8, la8, git8⟩
            have fm8 := fw8.fm (q := 59) (by omega)
            have h8 := hm.gar fw8 (by omega)
            have hs8 := hsb.fw fw8 (by decide)
            have ke8 := sp_ke h8 hke ⟨rfl, rfl⟩
            refine j_castS dX11_rowText_53 (z_w 1567 ((lwt_7_2 22).trans rfl) (by decide +kernel)) rfl ?_
            refine j_callVB (v0 := .float _) (C := "java/lang/Integer") dX11_rowText_56 kJ6_intValue_8abf5 lX11_99 inJ6_intValue_8abf5 seJ6_intValue_8abf5 rfl (c_J6_intValue_8abf5 hl w8 _) (Nat.le_of_ble_eq_true rfl) ⟨(by show _ ≤ 24; omega), (by show _ ≤ 800; omega)⟩ rfl (Nat.le_of_ble_eq_true rfl) rfl rfl (fun _ _ h => h.elim) ?_
            rintro _ _ ⟨rfl, hw937⟩
            refine j_w w8 hw937 ?_
            refine j_gen ?_
            intro xv938
            refine j_istore (lo' := [(4, _), (0, _), (1, _), (2, _), (3, _)]) dX11_rowText_59 (by decide) rfl ?_
            refine j_aload_n dX11_rowText_61 rfl rfl ?_
            refine j_aload_n dX11_rowText_62 rfl rfl ?_
            obtain ⟨fs939, gs939⟩ := hs8.cell
            refine j_callV (q := (RJ4, TJ4, 4)) dX11_rowText_63 kJ4_length_8abf5 lX11_217 inJ4_length_8abf5 seJ4_length_8abf5 gs939 rfl (sb_len hl w8 56 x1 (bn) (bN) hs8) (Nat.le_of_ble_eq_true rfl) ⟨(by show _ ≤ 24; omega), (by show _ ≤ 800; omega)⟩ rfl (Nat.le_of_ble_eq_true rfl) rfl rfl (fun _ _ h => h.elim) ?_
            rintro _ _ ⟨rfl, hw940⟩
            refine j_w w8 hw940 ?_
            refine j_if_le (tgt := 74) dX11_rowText_66 (by decide) (fun c_66_101 => ?_) (fun c_66_101 => ?_)
            · have hb66 : (bn) ≤ 0 := (nI_leI (a := (bn)) (b := 0) (by omega) (by omega)).mp c_66_101
              refine j_ldcS (i := 10) dX11_rowText_74 rfl (Or.inl rfl) rfl rfl ?_
              have hnN941 := hs8.nN
              have hle941 := z_gr_le (N := bN) (m := (bn + 0))
              have hmx941 := z_gr_mx (N := bN) (m := (bn + 0)) (M := 144) (by omega) (by omega)
              obtain ⟨fs942, gs942⟩ := hs8.cell
              refine j_callV (q := (RJ4, TJ4, 4)) dX11_rowText_76 kJ4_append_15ec4 lX11_222 inJ4_append_15ec4 seJ4_append_15ec4 gs942 rfl (sb_apK hl w8 56 x1 (bn) (bN) 10 0 _ rfl (Or.inl rfl) (by decide) hs8 (by omega) (by omega) (by decide) h8.fn) (Nat.le_of_ble_eq_true rfl) ⟨(by show _ ≤ 24; omega), (by show _ ≤ 800; omega)⟩ rfl (Nat.le_of_ble_eq_true rfl) rfl rfl (fun _ _ h => h.elim) ?_
              rintro _ w9 ⟨rfl, fw9, hs9⟩
              have g9_it931 := fw9.g (Or.inr (by omega)) git8
              have fm9 := fw9.fm (q := 59) (by omega)
              have h9 := h8.gar fw9 (by omega)
              have ke9 := sp_ke h9 ke8 ⟨rfl, rfl⟩
              refine j_iload dX11_rowText_79 rfl ?_
              have hzs81 := z_sz_in xv938
              have hnN943 := hs9.nN
              have hle943 := z_gr_le (N := (z_gr (bN) (bn + 0))) (m := ((bn + 0) + z_sz xv938))
              have hmx943 := z_gr_mx (N := (z_gr (bN) (bn + 0))) (m := ((bn + 0) + z_sz xv938)) (M := 144) (by omega) (by omega)
              obtain ⟨fs944, gs944⟩ := hs9.cell
              refine j_callV (q := (RJ4, TJ4, 4)) dX11_rowText_81 kJ4_append_bf812 lX11_226 inJ4_append_bf812 seJ4_append_bf812 gs944 rfl (sb_apI hl w9 56 x1 ((bn + 0)) ((z_gr (bN) (bn + 0))) xv938 hs9 (by omega) (by omega) (by decide) h9.fn) (Nat.le_of_ble_eq_true rfl) ⟨(by show _ ≤ 24; omega), (by show _ ≤ 800; omega)⟩ rfl (Nat.le_of_ble_eq_true rfl) rfl rfl (fun _ _ h => h.elim) ?_
              rintro _ w10 ⟨rfl, fw10, hs10⟩
              have g10_it931 := fw10.g (Or.inr (by omega)) g9_it931
              have fm10 := fw10.fm (q := 59) (by omega)
              have h10 := h9.gar fw10 (by omega)
              have ke10 := sp_ke h10 ke9 ⟨rfl, rfl⟩
              refine j_pop dX11_rowText_84 rfl ?_
              refine j_goto (tgt := 38) dX11_rowText_85 (by decide) ?_
              refine j_widen (kc' := 2 + (z_gr ((z_gr (bN) (bn + 0))) ((bn + 0) + z_sz xv938)) / 16) (ks' := 2 * (z_gr ((z_gr (bN) (bn + 0))) ((bn + 0) + z_sz xv938))) (by omega) (by omega) ?_
              exact j_lo2 (ih w10 _ (k + 1) ((bn + 0) + z_sz xv938) (z_gr ((z_gr (bN) (bn + 0))) ((bn + 0) + z_sz xv938)) _ (by omega) (by omega) h10 (((hfm.tr fm8).tr fm9).tr fm10) ke10 (by first | omega | (show _ ≤ (z_qw s1 (i926)).2.length; omega)) g10_it931 hs10 (by omega) (by omega)) (z_q1 rfl (z_q1 rfl (z_q1 rfl (z_q1 rfl z_q0))))
            · have hb66 : 0 < (bn) := Nat.not_le.mp (fun z => c_66_101 ((nI_leI (a := (bn)) (b := 0) (by omega) (by omega)).mpr z))
              refine j_ldcS (i := 13) dX11_rowText_69 rfl (Or.inl rfl) rfl rfl ?_
              refine j_goto (tgt := 76) dX11_rowText_71 (by decide) ?_
              have hnN945 := hs8.nN
              have hle945 := z_gr_le (N := bN) (m := (bn + 1))
              have hmx945 := z_gr_mx (N := bN) (m := (bn + 1)) (M := 144) (by omega) (by omega)
              obtain ⟨fs946, gs946⟩ := hs8.cell
              refine j_callV (q := (RJ4, TJ4, 4)) dX11_rowText_76 kJ4_append_15ec4 lX11_222 inJ4_append_15ec4 seJ4_append_15ec4 gs946 rfl (sb_apK hl w8 56 x1 (bn) (bN) 13 1 _ rfl (Or.inl rfl) (by decide) hs8 (by omega) (by omega) (by decide) h8.fn) (Nat.le_of_ble_eq_true rfl) ⟨(by show _ ≤ 24; omega), (by show _ ≤ 800; omega)⟩ rfl (Nat.le_of_ble_eq_true rfl) rfl rfl (fun _ _ h => h.elim) ?_
              rintro _ w11 ⟨rfl, fw11, hs11⟩
              have g11_it931 := fw11.g (Or.inr (by omega)) git8
              have fm11 := fw11.fm (q := 59) (by omega)
              have h11 := h8.gar fw11 (by omega)
              have ke11 := sp_ke h11 ke8 ⟨rfl, rfl⟩
              refine j_iload dX11_rowText_79 rfl ?_
              have hzs81 := z_sz_in xv938
              have hnN947 := hs11.nN
              have hle947 := z_gr_le (N := (z_gr (bN) (bn + 1))) (m := ((bn + 1) + z_sz xv938))
              have hmx947 := z_gr_mx (N := (z_gr (bN) (bn + 1))) (m := ((bn + 1) + z_sz xv938)) (M := 144) (by omega) (by omega)
              obtain ⟨fs948, gs948⟩ := hs11.cell
              refine j_callV (q := (RJ4, TJ4, 4)) dX11_rowText_81 kJ4_append_bf812 lX11_226 inJ4_append_bf812 seJ4_append_bf812 gs948 rfl (sb_apI hl w11 56 x1 ((bn + 1)) ((z_gr (bN) (bn + 1))) xv938 hs11 (by omega) (by omega) (by decide) h11.fn) (Nat.le_of_ble_eq_true rfl) ⟨(by show _ ≤ 24; omega), (by show _ ≤ 800; omega)⟩ rfl (Nat.le_of_ble_eq_true rfl) rfl rfl (fun _ _ h => h.elim) ?_
              rintro _ w12 ⟨rfl, fw12, hs12⟩
              have g12_it931 := fw12.g (Or.inr (by omega)) g11_it931
              have fm12 := fw12.fm (q := 59) (by omega)
              have h12 := h11.gar fw12 (by omega)
              have ke12 := sp_ke h12 ke11 ⟨rfl, rfl⟩
              refine j_pop dX11_rowText_84 rfl ?_
              refine j_goto (tgt := 38) dX11_rowText_85 (by decide) ?_
              refine j_widen (kc' := 2 + (z_gr ((z_gr (bN) (bn + 1))) ((bn + 1) + z_sz xv938)) / 16) (ks' := 2 * (z_gr ((z_gr (bN) (bn + 1))) ((bn + 1) + z_sz xv938))) (by omega) (by omega) ?_
              exact j_lo2 (ih w12 _ (k + 1) ((bn + 1) + z_sz xv938) (z_gr ((z_gr (bN) (bn + 1))) ((bn + 1) + z_sz xv938)) _ (by omega) (by omega) h12 (((hfm.tr fm8).tr fm11).tr fm12) ke12 (by first | omega | (show _ ≤ (z_qw s1 (i926)).2.length; omega)) g12_it931 hs12 (by omega) (by omega)) (z_q1 rfl (z_q1 rfl (z_q1 rfl (z_q1 rfl z_q0))))
      refine j_widen (kc' := 2 + 16 / 16) (ks' := 2 * 16) (by decide) (by decide) ?_
      exact j_lo2 (loop38 (12 + 1) w5 _ 0 0 16 _ (by omega) (by omega) h5 ((((fm2.le (q' := 59) (by decide)).tr (fw3.fm (q := 59) (by omega))).tr fm4).tr fm5) ke5 (Nat.zero_le _) git931 hs5 (by omega) (by omega)) (z_q1 rfl (z_q1 rfl (z_q1 rfl (z_q1 rfl z_q0))))
    · exact absurd c_9_21 (by decide)
set_option maxRecDepth 100000 in
set_option maxHeartbeats 8000000 in
theorem cs_text (hl : l.stackTraces = false) (w : z_W) (S : sp_S) (s : z_Z) (x : Int32) (h : z_mst w s) (R : sp_MR S s)  : z_Con G l mX11_text 20 66 2450 w [.ref 1000, .int x] (fun v w9 => ∃ (r : Value) (s9 : z_Z), v = some r ∧ z_ir r = true ∧ z_fm 59 w w9 ∧ z_mst w9 s9 ∧ sp_MR S s9) (fun _ _ => False) := by
  have ke0 : sp_MR S s := R
  refine z_body hl (by decide) rfl (Nat.le_of_ble_eq_true rfl) ?_
  show z_J G l mX11_text _ 0 [(0, _), (1, _)] [] _ 0 0
  refine j_aload_n dX11_text_0 rfl rfl ?_
  refine j_iload_n dX11_text_1 rfl ?_
  refine j_callS dX11_text_2 kX11_isNoTable lX11_136 stX11_isNoTable (cm_isNoTable hl w _) (Nat.le_of_ble_eq_true rfl) ⟨(by show _ ≤ 66; omega), (by show _ ≤ 2450; omega)⟩ rfl (Nat.le_of_ble_eq_true rfl) rfl rfl (fun _ _ h => h.elim) ?_
  rintro _ _ ⟨⟨rfl, hno949⟩ | ⟨rfl, i949, hi949, rfl⟩, hw949⟩
  · refine j_w w hw949 ?_
    refine j_iconst (v := 1) dX11_text_5 (by decide) ?_
    refine j_callV (q := (RX11, TX11, 8)) dX11_text_6 kX11_start lX11_76 inX11_start seX11_start h.m rfl (cm_start1 hl w _ _ h (by decide)) (Nat.le_of_ble_eq_true rfl) ⟨(by show _ ≤ 66; omega), (by show _ ≤ 2450; omega)⟩ rfl (Nat.le_of_ble_eq_true rfl) rfl rfl (fun _ _ h => h.elim) ?_
    rintro _ w1 ⟨rfl, fm1, h1⟩
    have ke1 := sp_ke h1 ke0 ⟨rfl, rfl⟩
    refine j_if_eq (tgt := 15) dX11_text_9 (by decide) (fun c_9_11 => ?_) (fun c_9_11 => ?_)
    · exact absurd c_9_11 (by decide)
    · refine j_ldcS (i := 10) dX11_text_12 rfl (Or.inl rfl) rfl rfl ?_
      refine j_aret dX11_text_14 rfl (Or.inl ⟨_, rfl⟩) rfl ?_ (by show _ ≤ 66; omega) (by show _ ≤ 2450; omega)
      exact ⟨_, _, rfl, rfl, (fm1.le (q' := 59) (by decide)), h1, ke1⟩
  · refine j_w w hw949 ?_
    refine j_iconst (v := 1) dX11_text_5 (by decide) ?_
    refine j_callV (q := (RX11, TX11, 8)) dX11_text_6 kX11_start lX11_76 inX11_start seX11_start h.m rfl (cm_start0 hl w _ _ h) (Nat.le_of_ble_eq_true rfl) ⟨(by show _ ≤ 66; omega), (by show _ ≤ 2450; omega)⟩ rfl (Nat.le_of_ble_eq_true rfl) rfl rfl (fun _ _ h => h.elim) ?_
    rintro _ w2 ⟨rfl, fm2, h2⟩
    have ke2 := sp_ke h2 ke0 ⟨rfl, rfl⟩
    refine j_if_eq (tgt := 15) dX11_text_9 (by decide) (fun c_9_21 => ?_) (fun c_9_21 => ?_)
    · obtain ⟨x1, hx1a, hx1b, hx1c⟩ := z_fresh (56) (by decide) h2.fn
      refine j_new (N := 4) (w' := _) (n := x1) dX11_text_15 nX11_214 rfl (z_alW hx1c hx1a) (Nat.le_of_ble_eq_true rfl) (Nat.le_of_ble_eq_true rfl) ?_
      refine j_seal hx1a ?_
      intro w3 u3
      have fw3 := u3.fw hx1a hx1b
      have g3_x1 := u3.1
      have h3 := h2.gar fw3 (by omega)
      have ke3 := sp_ke h3 ke2 ⟨rfl, rfl⟩
      refine j_dup dX11_text_18 rfl ?_
      refine j_callI dX11_text_19 kJ4_init_da8c8 rfl lX11_216 inJ4_init_da8c8 rfl (sb_ini hl w3 56 x1 hx1a hx1b (by decide) h3.fn g3_x1) (Nat.le_of_ble_eq_true rfl) ⟨(by show _ ≤ 66; omega), (by show _ ≤ 2450; omega)⟩ rfl (Nat.le_of_ble_eq_true rfl) rfl rfl (fun _ _ h => h.elim) ?_
      rintro _ w4 ⟨rfl, fw4, hs4⟩
      have fm4 := fw4.fm (q := 59) (by omega)
      have h4 := h3.gar fw4 (by omega)
      have ke4 := sp_ke h4 ke3 ⟨rfl, rfl⟩
      refine j_astore_n (lo' := [(2, _), (0, _), (1, _)]) dX11_text_22 rfl (by decide) rfl ?_
      refine j_aload_n dX11_text_23 rfl rfl ?_
      refine j_getf dX11_text_24 fX11_34 h4.m rfl ?_
      refine j_iload_n dX11_text_27 rfl ?_
      obtain ⟨lv951, -, lg951⟩ := z_li.cell h4.tabs
      refine j_callV (q := (RJx4a65c, TJx4a65c, 3)) dX11_text_28 kJx4a65c_get_915e3 lX11_82 inJx4a65c_get_915e3 seJx4a65c_get_915e3 lg951 rfl (cl_get hl w4 47 1007 _ _ (i949) _ h4.tabs (z_thr3 (t := i949) (by omega))) (Nat.le_of_ble_eq_true rfl) ⟨(by show _ ≤ 66; omega), (by show _ ≤ 2450; omega)⟩ rfl (Nat.le_of_ble_eq_true rfl) rfl rfl (fun _ _ h => h.elim) ?_
      rintro _ _ ⟨rfl, hw952⟩
      refine j_w w4 hw952 ?_
      refine j_castS dX11_text_31 (z_w 1341 ((lwt_6_3 6).trans rfl) (by decide +kernel)) (z_li.is (h4.tb (t := i949) (by omega))) ?_
      obtain ⟨lv955, -, lg955⟩ := z_li.cell (h4.tb (t := i949) (by omega))
      refine j_callV (q := (RJx4a65c, TJx4a65c, 3)) dX11_text_34 kJx4a65c_iterator_32c93 lX11_162 inJx4a65c_iterator_32c93 seJx4a65c_iterator_32c93 lg955 rfl (cl_iter hl w4 58 (51 + i949) _ _ _ (h4.tb (t := i949) (by omega)) (by decide) (by omega) h4.fn) (Nat.le_of_ble_eq_true rfl) ⟨(by show _ ≤ 66; omega), (by show _ ≤ 2450; omega)⟩ rfl (Nat.le_of_ble_eq_true rfl) rfl rfl (fun _ _ h => h.elim) ?_
      rintro _ w5 ⟨it954, rfl, fw5, hita954, hitb954, hitc954, la954, git954⟩
      have hita954 : 1000 ≤ it954 := hita954
      have hitb954 : it954 % 64 = 58 := hitb954
      have fm5 := fw5.fm (q := 59) (by omega)
      have h5 := h4.gar fw5 (by omega)
      have hs5 := hs4.fw fw5 (by decide)
      have ke5 := sp_ke h5 ke4 ⟨rfl, rfl⟩
      refine j_astore_n (lo' := [(3, _), (2, _), (0, _), (1, _)]) dX11_text_37 rfl (by decide) rfl ?_
      have loop38 : ∀ (n9 : Nat) (w6 : z_W) (s1 : z_Z) (k bn bN : Nat) (la : Int32), (k ≤ 20) → (20 < k + n9) → (z_mst w6 s1) → (z_fm 59 w w6) → (sp_MR S s1) → (k ≤ (z_qp s1 (i949)).2.length) → (z_g w6 it954 = some (.inr (3, [.int (nI k), .int la, .int (z_qp s1 (i949)).1, .ref (1011 + i949)]))) → (z_sb w6 56 x1 bn bN) → (bn ≤ 24 * k) → (bN ≤ 2 * 480 + 16) → z_J G l mX11_text (20, 66, 2450, w, (fun v w9 => ∃ (r : Value) (s9 : z_Z), v = some r ∧ z_ir r = true ∧ z_fm 59 w w9 ∧ z_mst w9 s9 ∧ sp_MR S s9), (fun _ _ => False)) 38 [(0, .ref 1000), (1, .int (nI i949)), (2, .ref x1), (3, .ref it954)] [] w6 (2 + bN / 16) (2 * bN) := by
        intro n9
        induction n9 with
        | zero => intro w6 s1 k bn bN la hj hf9 hm hfm hke hkl git hsb hbn hbN; exact absurd hf9 (by omega)
        | succ n9 ih =>
          intro w6 s1 k bn bN la hj hf9 hm hfm hke hkl git hsb hbn hbN
          have hnN0 := hsb.nN
          refine j_aload_n dX11_text_38 rfl rfl ?_
          refine j_callF (x := ⟨"java/util/Iterator", "hasNext", "()Z"⟩) (q := (RJx35411, TJx35411, 4)) dX11_text_39 kJx35411_hasNext_aae02 ⟨(z_w 1765 ((lwt_8_1 10).trans rfl) (by decide +kernel)), (z_w 1769 ((lwt_8_1 14).trans rfl) (by decide +kernel)), inJx35411_hasNext_aae02, ⟨by decide, by decide⟩, rfl, fun U h => h.2.1⟩ git rfl (cl_hasN hl w6 _ (51 + i949) _ (k) _ _ (hm.tb (t := i949) (by omega)) ⟨_, git⟩ (by rw [z_rs_len]; omega)) (Nat.le_of_ble_eq_true rfl) ⟨(by show _ ≤ 66; omega), (by show _ ≤ 2450; omega)⟩ rfl (Nat.le_of_ble_eq_true rfl) rfl ?_
          rintro _ _ ⟨⟨x956, rfl, hz956, hp956⟩, hw956⟩
          refine j_w w6 hw956 ?_
          refine j_if_eq (tgt := 99) dX11_text_44 (by decide) (fun c_44_66 => ?_) (fun c_44_66 => ?_)
          · have hk44 : k = (z_qp s1 (i949)).2.length := (z_rs_len ▸ hz956 c_44_66)
            refine j_aload_n dX11_text_99 rfl rfl ?_
            have hnN := hsb.nN
            obtain ⟨fs957, gs957⟩ := hsb.cell
            refine j_callV (q := (RJ4, TJ4, 4)) dX11_text_100 kJ4_toString_0e30d lX11_229 inJ4_toString_0e30d seJ4_toString_0e30d gs957 rfl (sb_toS hl w6 57 56 x1 (bn) (bN) hsb (by decide) (by decide) hm.fn) (Nat.le_of_ble_eq_true rfl) ⟨(by show _ ≤ 66; omega), (by show _ ≤ 2450; omega)⟩ rfl (Nat.le_of_ble_eq_true rfl) rfl rfl (fun _ _ h => h.elim) ?_
            rintro _ w7 ⟨r7, rfl, fw7, ht7⟩
            have g7_it954 := fw7.g (Or.inr (by omega)) git
            have fm7 := fw7.fm (q := 59) (by omega)
            have h7 := hm.gar fw7 (by omega)
            have ke7 := sp_ke h7 hke ⟨rfl, rfl⟩
            refine j_aret dX11_text_103 rfl (Or.inl ⟨_, rfl⟩) rfl ?_ (by show _ ≤ 66; omega) (by show _ ≤ 2450; omega)
            exact ⟨_, _, rfl, rfl, (hfm.tr fm7), h7, ke7⟩
          · have hk44 : k < (z_qp s1 (i949)).2.length := (z_rs_len ▸ hp956 c_44_66)
            have hzk44 : (z_qp s1 (i949)).2.length ≤ 20 := (hm.pr (t := i949) (by omega)).len
            refine j_aload_n dX11_text_47 rfl rfl ?_
            obtain ⟨p958, hp958, hq958, hk958⟩ := z_rs_ex (P := (z_qp s1 (i949)).2) (k := k) (by omega)
            refine j_callF (x := ⟨"java/util/Iterator", "next", "()Ljava/lang/Object;"⟩) (q := (RJx35411, TJx35411, 4)) dX11_text_48 kJx35411_next_0502b ⟨(z_w 1775 ((lwt_8_1 20).trans rfl) (by decide +kernel)), (z_w 1778 ((lwt_8_1 23).trans rfl) (by decide +kernel)), inJx35411_next_0502b, ⟨by decide, by decide⟩, rfl, fun U h => h.2.2.1⟩ git rfl (cl_next hl w6 58 it954 (51 + i949) _ (k) _ _ _ (hm.tb (t := i949) (by omega)) ⟨_, git⟩ hq958 hita954 hitb954 (by omega)) (Nat.le_of_ble_eq_true rfl) ⟨(by show _ ≤ 66; omega), (by show _ ≤ 2450; omega)⟩ rfl (Nat.le_of_ble_eq_true rfl) rfl ?_
            rintro _ w8 ⟨rfl, fw8, la8, git8⟩
            have fm8 := fw8.fm (q := 59) (by omega)
            have h8 := hm.gar fw8 (by omega)
            have hs8 := hsb.fw fw8 (by decide)
            have ke8 := sp_ke h8 hke ⟨rfl, rfl⟩
            refine j_castS dX11_text_53 (z_w 1663 ((lwt_7_5 28).trans rfl) (by decide +kernel)) (z_isA ((h8.pr (t := i949) (by omega)).1 p958 hp958).2) ?_
            refine j_astore (lo' := [(4, _), (0, _), (1, _), (2, _), (3, _)]) dX11_text_56 rfl (by decide) rfl ?_
            refine j_aload_n dX11_text_58 rfl rfl ?_
            refine j_aload_n dX11_text_59 rfl rfl ?_
            obtain ⟨fs960, gs960⟩ := hs8.cell
            refine j_callV (q := (RJ4, TJ4, 4)) dX11_text_60 kJ4_length_8abf5 lX11_217 inJ4_length_8abf5 seJ4_length_8abf5 gs960 rfl (sb_len hl w8 56 x1 (bn) (bN) hs8) (Nat.le_of_ble_eq_true rfl) ⟨(by show _ ≤ 66; omega), (by show _ ≤ 2450; omega)⟩ rfl (Nat.le_of_ble_eq_true rfl) rfl rfl (fun _ _ h => h.elim) ?_
            rintro _ _ ⟨rfl, hw961⟩
            refine j_w w8 hw961 ?_
            refine j_if_le (tgt := 71) dX11_text_63 (by decide) (fun c_63_97 => ?_) (fun c_63_97 => ?_)
            · have hb63 : (bn) ≤ 0 := (nI_leI (a := (bn)) (b := 0) (by omega) (by omega)).mp c_63_97
              refine j_ldcS (i := 10) dX11_text_71 rfl (Or.inl rfl) rfl rfl ?_
              have hnN962 := hs8.nN
              have hle962 := z_gr_le (N := bN) (m := (bn + 0))
              have hmx962 := z_gr_mx (N := bN) (m := (bn + 0)) (M := 480) (by omega) (by omega)
              obtain ⟨fs963, gs963⟩ := hs8.cell
              refine j_callV (q := (RJ4, TJ4, 4)) dX11_text_73 kJ4_append_15ec4 lX11_222 inJ4_append_15ec4 seJ4_append_15ec4 gs963 rfl (sb_apK hl w8 56 x1 (bn) (bN) 10 0 _ rfl (Or.inl rfl) (by decide) hs8 (by omega) (by omega) (by decide) h8.fn) (Nat.le_of_ble_eq_true rfl) ⟨(by show _ ≤ 66; omega), (by show _ ≤ 2450; omega)⟩ rfl (Nat.le_of_ble_eq_true rfl) rfl rfl (fun _ _ h => h.elim) ?_
              rintro _ w9 ⟨rfl, fw9, hs9⟩
              have g9_it954 := fw9.g (Or.inr (by omega)) git8
              have fm9 := fw9.fm (q := 59) (by omega)
              have h9 := h8.gar fw9 (by omega)
              have ke9 := sp_ke h9 ke8 ⟨rfl, rfl⟩
              refine j_aload dX11_text_76 rfl rfl ?_
              refine j_iconst (v := 0) dX11_text_78 (by decide) ?_
              refine j_ld dX11_text_79 ((h9.pr (t := i949) (by omega)).1 p958 hp958).2 (vp_in_nI (n := 0) (by decide) (by decide)) ?_
              refine j_gen ?_
              intro xv965
              have hzs80 := z_sz_in xv965
              have hnN966 := hs9.nN
              have hle966 := z_gr_le (N := (z_gr (bN) (bn + 0))) (m := ((bn + 0) + z_sz xv965))
              have hmx966 := z_gr_mx (N := (z_gr (bN) (bn + 0))) (m := ((bn + 0) + z_sz xv965)) (M := 480) (by omega) (by omega)
              obtain ⟨fs967, gs967⟩ := hs9.cell
              refine j_callV (q := (RJ4, TJ4, 4)) dX11_text_80 kJ4_append_bf812 lX11_226 inJ4_append_bf812 seJ4_append_bf812 gs967 rfl (sb_apI hl w9 56 x1 ((bn + 0)) ((z_gr (bN) (bn + 0))) xv965 hs9 (by omega) (by omega) (by decide) h9.fn) (Nat.le_of_ble_eq_true rfl) ⟨(by show _ ≤ 66; omega), (by show _ ≤ 2450; omega)⟩ rfl (Nat.le_of_ble_eq_true rfl) rfl rfl (fun _ _ h => h.elim) ?_
              rintro _ w10 ⟨rfl, fw10, hs10⟩
              have g10_it954 := fw10.g (Or.inr (by omega)) g9_it954
              have fm10 := fw10.fm (q := 59) (by omega)
              have h10 := h9.gar fw10 (by omega)
              have ke10 := sp_ke h10 ke9 ⟨rfl, rfl⟩
              refine j_ldcS (i := 14) dX11_text_83 rfl (Or.inl rfl) rfl rfl ?_
              have hnN968 := hs10.nN
              have hle968 := z_gr_le (N := (z_gr ((z_gr (bN) (bn + 0))) ((bn + 0) + z_sz xv965))) (m := (((bn + 0) + z_sz xv965) + 1))
              have hmx968 := z_gr_mx (N := (z_gr ((z_gr (bN) (bn + 0))) ((bn + 0) + z_sz xv965))) (m := (((bn + 0) + z_sz xv965) + 1)) (M := 480) (by omega) (by omega)
              obtain ⟨fs969, gs969⟩ := hs10.cell
              refine j_callV (q := (RJ4, TJ4, 4)) dX11_text_85 kJ4_append_15ec4 lX11_222 inJ4_append_15ec4 seJ4_append_15ec4 gs969 rfl (sb_apK hl w10 56 x1 (((bn + 0) + z_sz xv965)) ((z_gr ((z_gr (bN) (bn + 0))) ((bn + 0) + z_sz xv965))) 14 1 _ rfl (Or.inl rfl) (by decide) hs10 (by omega) (by omega) (by decide) h10.fn) (Nat.le_of_ble_eq_true rfl) ⟨(by show _ ≤ 66; omega), (by show _ ≤ 2450; omega)⟩ rfl (Nat.le_of_ble_eq_true rfl) rfl rfl (fun _ _ h => h.elim) ?_
              rintro _ w11 ⟨rfl, fw11, hs11⟩
              have g11_it954 := fw11.g (Or.inr (by omega)) g10_it954
              have fm11 := fw11.fm (q := 59) (by omega)
              have h11 := h10.gar fw11 (by omega)
              have ke11 := sp_ke h11 ke10 ⟨rfl, rfl⟩
              refine j_aload dX11_text_88 rfl rfl ?_
              refine j_iconst (v := 1) dX11_text_90 (by decide) ?_
              refine j_ld dX11_text_91 ((h11.pr (t := i949) (by omega)).1 p958 hp958).2 (vp_in_nI (n := 1) (by decide) (by decide)) ?_
              refine j_gen ?_
              intro xv971
              have hzs92 := z_sz_in xv971
              have hnN972 := hs11.nN
              have hle972 := z_gr_le (N := (z_gr ((z_gr ((z_gr (bN) (bn + 0))) ((bn + 0) + z_sz xv965))) (((bn + 0) + z_sz xv965) + 1))) (m := ((((bn + 0) + z_sz xv965) + 1) + z_sz xv971))
              have hmx972 := z_gr_mx (N := (z_gr ((z_gr ((z_gr (bN) (bn + 0))) ((bn + 0) + z_sz xv965))) (((bn + 0) + z_sz xv965) + 1))) (m := ((((bn + 0) + z_sz xv965) + 1) + z_sz xv971)) (M := 480) (by omega) (by omega)
              obtain ⟨fs973, gs973⟩ := hs11.cell
              refine j_callV (q := (RJ4, TJ4, 4)) dX11_text_92 kJ4_append_bf812 lX11_226 inJ4_append_bf812 seJ4_append_bf812 gs973 rfl (sb_apI hl w11 56 x1 ((((bn + 0) + z_sz xv965) + 1)) ((z_gr ((z_gr ((z_gr (bN) (bn + 0))) ((bn + 0) + z_sz xv965))) (((bn + 0) + z_sz xv965) + 1))) xv971 hs11 (by omega) (by omega) (by decide) h11.fn) (Nat.le_of_ble_eq_true rfl) ⟨(by show _ ≤ 66; omega), (by show _ ≤ 2450; omega)⟩ rfl (Nat.le_of_ble_eq_true rfl) rfl rfl (fun _ _ h => h.elim) ?_
              rintro _ w12 ⟨rfl, fw12, hs12⟩
              have g12_it954 := fw12.g (Or.inr (by omega)) g11_it954
              have fm12 := fw12.fm (q := 59) (by omega)
              have h12 := h11.gar fw12 (by omega)
              have ke12 := sp_ke h12 ke11 ⟨rfl, rfl⟩
              refine j_pop dX11_text_95 rfl ?_
              refine j_goto (tgt := 38) dX11_text_96 (by decide) ?_
              refine j_widen (kc' := 2 + (z_gr ((z_gr ((z_gr ((z_gr (bN) (bn + 0))) ((bn + 0) + z_sz xv965))) (((bn + 0) + z_sz xv965) + 1))) ((((bn + 0) + z_sz xv965) + 1) + z_sz xv971)) / 16) (ks' := 2 * (z_gr ((z_gr ((z_gr ((z_gr (bN) (bn + 0))) ((bn + 0) + z_sz xv965))) (((bn + 0) + z_sz xv965) + 1))) ((((bn + 0) + z_sz xv965) + 1) + z_sz xv971))) (by omega) (by omega) ?_
              exact j_lo2 (ih w12 _ (k + 1) ((((bn + 0) + z_sz xv965) + 1) + z_sz xv971) (z_gr ((z_gr ((z_gr ((z_gr (bN) (bn + 0))) ((bn + 0) + z_sz xv965))) (((bn + 0) + z_sz xv965) + 1))) ((((bn + 0) + z_sz xv965) + 1) + z_sz xv971)) _ (by omega) (by omega) h12 (((((hfm.tr fm8).tr fm9).tr fm10).tr fm11).tr fm12) ke12 (by first | omega | (show _ ≤ (z_qp s1 (i949)).2.length; omega)) g12_it954 hs12 (by omega) (by omega)) (z_q1 rfl (z_q1 rfl (z_q1 rfl (z_q1 rfl z_q0))))
            · have hb63 : 0 < (bn) := Nat.not_le.mp (fun z => c_63_97 ((nI_leI (a := (bn)) (b := 0) (by omega) (by omega)).mpr z))
              refine j_ldcS (i := 13) dX11_text_66 rfl (Or.inl rfl) rfl rfl ?_
              refine j_goto (tgt := 73) dX11_text_68 (by decide) ?_
              have hnN974 := hs8.nN
              have hle974 := z_gr_le (N := bN) (m := (bn + 1))
              have hmx974 := z_gr_mx (N := bN) (m := (bn + 1)) (M := 480) (by omega) (by omega)
              obtain ⟨fs975, gs975⟩ := hs8.cell
              refine j_callV (q := (RJ4, TJ4, 4)) dX11_text_73 kJ4_append_15ec4 lX11_222 inJ4_append_15ec4 seJ4_append_15ec4 gs975 rfl (sb_apK hl w8 56 x1 (bn) (bN) 13 1 _ rfl (Or.inl rfl) (by decide) hs8 (by omega) (by omega) (by decide) h8.fn) (Nat.le_of_ble_eq_true rfl) ⟨(by show _ ≤ 66; omega), (by show _ ≤ 2450; omega)⟩ rfl (Nat.le_of_ble_eq_true rfl) rfl rfl (fun _ _ h => h.elim) ?_
              rintro _ w13 ⟨rfl, fw13, hs13⟩
              have g13_it954 := fw13.g (Or.inr (by omega)) git8
              have fm13 := fw13.fm (q := 59) (by omega)
              have h13 := h8.gar fw13 (by omega)
              have ke13 := sp_ke h13 ke8 ⟨rfl, rfl⟩
              refine j_aload dX11_text_76 rfl rfl ?_
              refine j_iconst (v := 0) dX11_text_78 (by decide) ?_
              refine j_ld dX11_text_79 ((h13.pr (t := i949) (by omega)).1 p958 hp958).2 (vp_in_nI (n := 0) (by decide) (by decide)) ?_
              refine j_gen ?_
              intro xv977
              have hzs80 := z_sz_in xv977
              have hnN978 := hs13.nN
              have hle978 := z_gr_le (N := (z_gr (bN) (bn + 1))) (m := ((bn + 1) + z_sz xv977))
              have hmx978 := z_gr_mx (N := (z_gr (bN) (bn + 1))) (m := ((bn + 1) + z_sz xv977)) (M := 480) (by omega) (by omega)
              obtain ⟨fs979, gs979⟩ := hs13.cell
              refine j_callV (q := (RJ4, TJ4, 4)) dX11_text_80 kJ4_append_bf812 lX11_226 inJ4_append_bf812 seJ4_append_bf812 gs979 rfl (sb_apI hl w13 56 x1 ((bn + 1)) ((z_gr (bN) (bn + 1))) xv977 hs13 (by omega) (by omega) (by decide) h13.fn) (Nat.le_of_ble_eq_true rfl) ⟨(by show _ ≤ 66; omega), (by show _ ≤ 2450; omega)⟩ rfl (Nat.le_of_ble_eq_true rfl) rfl rfl (fun _ _ h => h.elim) ?_
              rintro _ w14 ⟨rfl, fw14, hs14⟩
              have g14_it954 := fw14.g (Or.inr (by omega)) g13_it954
              have fm14 := fw14.fm (q := 59) (by omega)
              have h14 := h13.gar fw14 (by omega)
              have ke14 := sp_ke h14 ke13 ⟨rfl, rfl⟩
              refine j_ldcS (i := 14) dX11_text_83 rfl (Or.inl rfl) rfl rfl ?_
              have hnN980 := hs14.nN
              have hle980 := z_gr_le (N := (z_gr ((z_gr (bN) (bn + 1))) ((bn + 1) + z_sz xv977))) (m := (((bn + 1) + z_sz xv977) + 1))
              have hmx980 := z_gr_mx (N := (z_gr ((z_gr (bN) (bn + 1))) ((bn + 1) + z_sz xv977))) (m := (((bn + 1) + z_sz xv977) + 1)) (M := 480) (by omega) (by omega)
              obtain ⟨fs981, gs981⟩ := hs14.cell
              refine j_callV (q := (RJ4, TJ4, 4)) dX11_text_85 kJ4_append_15ec4 lX11_222 inJ4_append_15ec4 seJ4_append_15ec4 gs981 rfl (sb_apK hl w14 56 x1 (((bn + 1) + z_sz xv977)) ((z_gr ((z_gr (bN) (bn + 1))) ((bn + 1) + z_sz xv977))) 14 1 _ rfl (Or.inl rfl) (by decide) hs14 (by omega) (by omega) (by decide) h14.fn) (Nat.le_of_ble_eq_true rfl) ⟨(by show _ ≤ 66; omega), (by show _ ≤ 2450; omega)⟩ rfl (Nat.le_of_ble_eq_true rfl) rfl rfl (fun _ _ h => h.elim) ?_
              rintro _ w15 ⟨rfl, fw15, hs15⟩
              have g15_it954 := fw15.g (Or.inr (by omega)) g14_it954
              have fm15 := fw15.fm (q := 59) (by omega)
              have h15 := h14.gar fw15 (by omega)
              have ke15 := sp_ke h15 ke14 ⟨rfl, rfl⟩
              refine j_aload dX11_text_88 rfl rfl ?_
              refine j_iconst (v := 1) dX11_text_90 (by decide) ?_
              refine j_ld dX11_text_91 ((h15.pr (t := i949) (by omega)).1 p958 hp958).2 (vp_in_nI (n := 1) (by decide) (by decide)) ?_
              refine j_gen ?_
              intro xv983
              have hzs92 := z_sz_in xv983
              have hnN984 := hs15.nN
              have hle984 := z_gr_le (N := (z_gr ((z_gr ((z_gr (bN) (bn + 1))) ((bn + 1) + z_sz xv977))) (((bn + 1) + z_sz xv977) + 1))) (m := ((((bn + 1) + z_sz xv977) + 1) + z_sz xv983))
              have hmx984 := z_gr_mx (N := (z_gr ((z_gr ((z_gr (bN) (bn + 1))) ((bn + 1) + z_sz xv977))) (((bn + 1) + z_sz xv977) + 1))) (m := ((((bn + 1) + z_sz xv977) + 1) + z_sz xv983)) (M := 480) (by omega) (by omega)
              obtain ⟨fs985, gs985⟩ := hs15.cell
              refine j_callV (q := (RJ4, TJ4, 4)) dX11_text_92 kJ4_append_bf812 lX11_226 inJ4_append_bf812 seJ4_append_bf812 gs985 rfl (sb_apI hl w15 56 x1 ((((bn + 1) + z_sz xv977) + 1)) ((z_gr ((z_gr ((z_gr (bN) (bn + 1))) ((bn + 1) + z_sz xv977))) (((bn + 1) + z_sz xv977) + 1))) xv983 hs15 (by omega) (by omega) (by decide) h15.fn) (Nat.le_of_ble_eq_true rfl) ⟨(by show _ ≤ 66; omega), (by show _ ≤ 2450; omega)⟩ rfl (Nat.le_of_ble_eq_true rfl) rfl rfl (fun _ _ h => h.elim) ?_
              rintro _ w16 ⟨rfl, fw16, hs16⟩
              have g16_it954 := fw16.g (Or.inr (by omega)) g15_it954
              have fm16 := fw16.fm (q := 59) (by omega)
              have h16 := h15.gar fw16 (by omega)
              have ke16 := sp_ke h16 ke15 ⟨rfl, rfl⟩
              refine j_pop dX11_text_95 rfl ?_
              refine j_goto (tgt := 38) dX11_text_96 (by decide) ?_
              refine j_widen (kc' := 2 + (z_gr ((z_gr ((z_gr ((z_gr (bN) (bn + 1))) ((bn + 1) + z_sz xv977))) (((bn + 1) + z_sz xv977) + 1))) ((((bn + 1) + z_sz xv977) + 1) + z_sz xv983)) / 16) (ks' := 2 * (z_gr ((z_gr ((z_gr ((z_gr (bN) (bn + 1))) ((bn + 1) + z_sz xv977))) (((bn + 1) + z_sz xv977) + 1))) ((((bn + 1) + z_sz xv977) + 1) + z_sz xv983))) (by omega) (by omega) ?_
              exact j_lo2 (ih w16 _ (k + 1) ((((bn + 1) + z_sz xv977) + 1) + z_sz xv983) (z_gr ((z_gr ((z_gr ((z_gr (bN) (bn + 1))) ((bn + 1) + z_sz xv977))) (((bn + 1) + z_sz xv977) + 1))) ((((bn + 1) + z_sz xv977) + 1) + z_sz xv983)) _ (by omega) (by omega) h16 (((((hfm.tr fm8).tr fm13).tr fm14).tr fm15).tr fm16) ke16 (by first | omega | (show _ ≤ (z_qp s1 (i949)).2.length; omega)) g16_it954 hs16 (by omega) (by omega)) (z_q1 rfl (z_q1 rfl (z_q1 rfl (z_q1 rfl z_q0))))
      refine j_widen (kc' := 2 + 16 / 16) (ks' := 2 * 16) (by decide) (by decide) ?_
      exact j_lo2 (loop38 (20 + 1) w5 _ 0 0 16 _ (by omega) (by omega) h5 ((((fm2.le (q' := 59) (by decide)).tr (fw3.fm (q := 59) (by omega))).tr fm4).tr fm5) ke5 (Nat.zero_le _) git954 hs5 (by omega) (by omega)) (z_q1 rfl (z_q1 rfl (z_q1 rfl (z_q1 rfl z_q0))))
    · exact absurd c_9_21 (by decide)
set_option maxRecDepth 100000 in
set_option maxHeartbeats 16000000 in
theorem cs_digest (hl : l.stackTraces = false) (w : z_W) (S : sp_S) (s : z_Z)  (h : z_mst w s) (R : sp_MR S s)  : z_Con G l mX11_digest 24 56 1349 w [.ref 1000] (fun v w9 => ∃ (r : Int64) (s9 : z_Z), v = some (.long r) ∧ z_fm 59 w w9 ∧ z_mst w9 s9 ∧ sp_MR S s9) (fun _ _ => False) := by
  have ke0 : sp_MR S s := R
  refine z_body hl (by decide) rfl (Nat.le_of_ble_eq_true rfl) ?_
  show z_J G l mX11_digest _ 0 [(0, _)] [] _ 0 0
  refine j_aload_n dX11_digest_0 rfl rfl ?_
  refine j_iconst (v := 0) dX11_digest_1 (by decide) ?_
  refine j_put (w' := _) dX11_digest_2 fX11_48 tX11_0 h.m ⟨rfl, rfl⟩ rfl ?_
  refine j_seal (by omega) ?_
  intro w1 u1
  have fw1 := u1.fw (ρ := 40) (by omega) (by omega)
  have h1 := h.up40 fw1 u1.1
  have ke1 := sp_ke h1 ke0 ⟨rfl, rfl⟩
  refine j_ldc2 dX11_digest_5 kcX11_245 ?_
  refine j_lstore_n (lo' := [(1, _), (0, _)]) dX11_digest_8 (by decide) rfl ?_
  refine j_iconst (v := 0) dX11_digest_9 (by decide) ?_
  refine j_istore_n (lo' := [(3, _), (1, _), (0, _)]) dX11_digest_10 (by decide) rfl ?_
  have loop11 : ∀ (n1 : Nat) (w2 : z_W) (s1 : z_Z) (q : Nat) (d : Int64), (z_mst w2 s1) → (z_fm 59 w w2) → (sp_MR S s1) → (q ≤ 5) → (5 < q + n1) → z_J G l mX11_digest (24, 56, 1349, w, (fun v w9 => ∃ (r : Int64) (s9 : z_Z), v = some (.long r) ∧ z_fm 59 w w9 ∧ z_mst w9 s9 ∧ sp_MR S s9), (fun _ _ => False)) 11 [(0, .ref 1000), (1, .long d), (3, .int (nI q))] [] w2 (2 * q) (9 * q) := by
    intro n1
    induction n1 with
    | zero => intro w2 s1 q d hm_s1 hfm_s1 hke_s1 h1a h1b; exact absurd h1b (by omega)
    | succ n1 ih1 =>
      intro w2 s1 q d hm_s1 hfm_s1 hke_s1 h1a h1b
      refine j_iload_n dX11_digest_11 rfl ?_
      refine j_iconst (v := 5) dX11_digest_12 (by decide) ?_
      refine j_icmp_ge (tgt := 33) dX11_digest_13 (by decide) (fun c_13_22 => ?_) (fun c_13_22 => ?_)
      · have hb13 : 5 ≤ q := (nI_leI (a := 5) (b := q) (by omega) (by omega)).mp c_13_22
        refine j_iconst (v := 0) dX11_digest_33 (by decide) ?_
        refine j_istore_n (lo' := [(3, _), (0, _), (1, _)]) dX11_digest_34 (by decide) rfl ?_
        have loop35 : ∀ (n2 : Nat) (w3 : z_W) (s2 : z_Z) (ro : Nat) (d : Int64), (z_mst w3 s2) → (z_fm 59 w w3) → (sp_MR S s2) → (ro ≤ 2) → (2 < ro + n2) → z_J G l mX11_digest (24, 56, 1349, w, (fun v w9 => ∃ (r : Int64) (s9 : z_Z), v = some (.long r) ∧ z_fm 59 w w9 ∧ z_mst w9 s9 ∧ sp_MR S s9), (fun _ _ => False)) 35 [(0, .ref 1000), (1, .long d), (3, .int (nI ro))] [] w3 (10 + ro) (45 + 4 * ro) := by
          intro n2
          induction n2 with
          | zero => intro w3 s2 ro d hm_s2 hfm_s2 hke_s2 h2a h2b; exact absurd h2b (by omega)
          | succ n2 ih2 =>
            intro w3 s2 ro d hm_s2 hfm_s2 hke_s2 h2a h2b
            refine j_iload_n dX11_digest_35 rfl ?_
            refine j_iconst (v := 2) dX11_digest_36 (by decide) ?_
            refine j_icmp_ge (tgt := 163) dX11_digest_37 (by decide) (fun c_37_34 => ?_) (fun c_37_34 => ?_)
            · have hb37 : 2 ≤ ro := (nI_leI (a := 2) (b := ro) (by omega) (by omega)).mp c_37_34
              refine j_aload_n dX11_digest_163 rfl rfl ?_
              refine j_getf dX11_digest_164 fX11_34 hm_s2.m rfl ?_
              obtain ⟨lv987, -, lg987⟩ := z_li.cell hm_s2.tabs
              refine j_callV (q := (RJx4a65c, TJx4a65c, 3)) dX11_digest_167 kJx4a65c_iterator_32c93 lX11_162 inJx4a65c_iterator_32c93 seJx4a65c_iterator_32c93 lg987 rfl (cl_iter hl w3 58 (47) _ _ _ hm_s2.tabs (by decide) (by omega) hm_s2.fn) (Nat.le_of_ble_eq_true rfl) ⟨(by show _ ≤ 56; omega), (by show _ ≤ 1349; omega)⟩ rfl (Nat.le_of_ble_eq_true rfl) rfl rfl (fun _ _ h => h.elim) ?_
              rintro _ w4 ⟨it986, rfl, fw4, hita986, hitb986, hitc986, la986, git986⟩
              have hita986 : 1000 ≤ it986 := hita986
              have hitb986 : it986 % 64 = 58 := hitb986
              have fm4 := fw4.fm (q := 59) (by omega)
              have h4 := hm_s2.gar fw4 (by omega)
              have ke4 := sp_ke h4 hke_s2 ⟨rfl, rfl⟩
              refine j_astore_n (lo' := [(3, _), (0, _), (1, _)]) dX11_digest_170 rfl (by decide) rfl ?_
              have loop171 : ∀ (n5 : Nat) (w5 : z_W) (s5 : z_Z) (ta : Nat) (d : Int64) (la : Int32), (z_mst w5 s5) → (z_fm 59 w w5) → (sp_MR S s5) → (ta ≤ 3) → (3 < ta + n5) → (z_g w5 it986 = some (.inr (3, [.int (nI ta), .int la, .int (z_qt s5), .ref 1007]))) → z_J G l mX11_digest (24, 56, 1349, w, (fun v w9 => ∃ (r : Int64) (s9 : z_Z), v = some (.long r) ∧ z_fm 59 w w9 ∧ z_mst w9 s9 ∧ sp_MR S s9), (fun _ _ => False)) 171 [(0, .ref 1000), (1, .long d), (3, .ref it986)] [] w5 (13 + ta) (57 + 4 * ta) := by
                intro n5
                induction n5 with
                | zero => intro w5 s5 ta d la hm_s5 hfm_s5 hke_s5 h5a h5b h5d; exact absurd h5b (by omega)
                | succ n5 ih5 =>
                  intro w5 s5 ta d la hm_s5 hfm_s5 hke_s5 h5a h5b h5d
                  refine j_aload_n dX11_digest_171 rfl rfl ?_
                  refine j_callF (x := ⟨"java/util/Iterator", "hasNext", "()Z"⟩) (q := (RJx35411, TJx35411, 4)) dX11_digest_172 kJx35411_hasNext_aae02 ⟨(z_w 1765 ((lwt_8_1 10).trans rfl) (by decide +kernel)), (z_w 1769 ((lwt_8_1 14).trans rfl) (by decide +kernel)), inJx35411_hasNext_aae02, ⟨by decide, by decide⟩, rfl, fun U h => h.2.1⟩ h5d rfl (cl_hasN hl w5 _ (47) _ (ta) _ _ hm_s5.tabs ⟨_, h5d⟩ (by show _ ≤ 3; omega)) (Nat.le_of_ble_eq_true rfl) ⟨(by show _ ≤ 56; omega), (by show _ ≤ 1349; omega)⟩ rfl (Nat.le_of_ble_eq_true rfl) rfl ?_
                  rintro _ _ ⟨⟨x988, rfl, hz988, hp988⟩, hw988⟩
                  refine j_w w5 hw988 ?_
                  refine j_if_eq (tgt := 255) dX11_digest_177 (by decide) (fun c_177_57 => ?_) (fun c_177_57 => ?_)
                  · have hk177 : ta = 3 := (hz988 c_177_57)
                    refine j_iconst (v := 0) dX11_digest_255 (by decide) ?_
                    refine j_istore_n (lo' := [(3, _), (0, _), (1, _)]) dX11_digest_256 (by decide) rfl ?_
                    have loop257 : ∀ (n7 : Nat) (w6 : z_W) (s7 : z_Z) (q : Nat) (d : Int64), (z_mst w6 s7) → (z_fm 59 w w6) → (sp_MR S s7) → (q ≤ 7) → (7 < q + n7) → z_J G l mX11_digest (24, 56, 1349, w, (fun v w9 => ∃ (r : Int64) (s9 : z_Z), v = some (.long r) ∧ z_fm 59 w w9 ∧ z_mst w9 s9 ∧ sp_MR S s9), (fun _ _ => False)) 257 [(0, .ref 1000), (1, .long d), (3, .int (nI q))] [] w6 (16) (69) := by
                      intro n7
                      induction n7 with
                      | zero => intro w6 s7 q d hm_s7 hfm_s7 hke_s7 h7a h7b; exact absurd h7b (by omega)
                      | succ n7 ih7 =>
                        intro w6 s7 q d hm_s7 hfm_s7 hke_s7 h7a h7b
                        refine j_iload_n dX11_digest_257 rfl ?_
                        refine j_bipush (v := 7) dX11_digest_258 (by decide) ?_
                        refine j_icmp_ge (tgt := 283) dX11_digest_260 (by decide) (fun c_260_69 => ?_) (fun c_260_69 => ?_)
                        · have hb260 : 7 ≤ q := (nI_leI (a := 7) (b := q) (by omega) (by omega)).mp c_260_69
                          refine j_iconst (v := 0) dX11_digest_283 (by decide) ?_
                          refine j_istore_n (lo' := [(3, _), (0, _), (1, _)]) dX11_digest_284 (by decide) rfl ?_
                          have loop285 : ∀ (n8 : Nat) (w7 : z_W) (s8 : z_Z) (he : Nat) (d : Int64), (z_mst w7 s8) → (z_fm 59 w w7) → (sp_MR S s8) → (he ≤ 2) → (2 < he + n8) → z_J G l mX11_digest (24, 56, 1349, w, (fun v w9 => ∃ (r : Int64) (s9 : z_Z), v = some (.long r) ∧ z_fm 59 w w9 ∧ z_mst w9 s9 ∧ sp_MR S s9), (fun _ _ => False)) 285 [(0, .ref 1000), (1, .long d), (3, .int (nI he))] [] w7 (16 + 20 * he) (69 + 640 * he) := by
                            intro n8
                            induction n8 with
                            | zero => intro w7 s8 he d hm_s8 hfm_s8 hke_s8 h8a h8b; exact absurd h8b (by omega)
                            | succ n8 ih8 =>
                              intro w7 s8 he d hm_s8 hfm_s8 hke_s8 h8a h8b
                              refine j_iload_n dX11_digest_285 rfl ?_
                              refine j_iconst (v := 2) dX11_digest_286 (by decide) ?_
                              refine j_icmp_ge (tgt := 342) dX11_digest_287 (by decide) (fun c_287_81 => ?_) (fun c_287_81 => ?_)
                              · have hb287 : 2 ≤ he := (nI_leI (a := 2) (b := he) (by omega) (by omega)).mp c_287_81
                                refine j_lload_n dX11_digest_342 rfl ?_
                                refine j_aload_n dX11_digest_343 rfl rfl ?_
                                refine j_callV (q := (RX11, TX11, 8)) dX11_digest_344 kX11_isTrue lX11_240 inX11_isTrue seX11_isTrue hm_s8.m rfl (cm_isTrue hl w7 _ hm_s8) (Nat.le_of_ble_eq_true rfl) ⟨(by show _ ≤ 56; omega), (by show _ ≤ 1349; omega)⟩ rfl (Nat.le_of_ble_eq_true rfl) rfl rfl (fun _ _ h => h.elim) ?_
                                rintro _ _ ⟨⟨r989, rfl, hnrX⟩, hw989⟩
                                refine j_w w7 hw989 ?_
                                refine j_callS dX11_digest_347 kX11_one lX11_68 stX11_one (cm_oneA hl w7 _) (Nat.le_of_ble_eq_true rfl) ⟨(by show _ ≤ 56; omega), (by show _ ≤ 1349; omega)⟩ rfl (Nat.le_of_ble_eq_true rfl) rfl rfl (fun _ _ h => h.elim) ?_
                                rintro _ _ ⟨⟨r990, rfl⟩, hw990⟩
                                refine j_w w7 hw990 ?_
                                refine j_i2l dX11_digest_350 ?_
                                refine j_callS dX11_digest_351 kX11_add lX11_247 stX11_add (cm_add hl w7 _ _) (Nat.le_of_ble_eq_true rfl) ⟨(by show _ ≤ 56; omega), (by show _ ≤ 1349; omega)⟩ rfl (Nat.le_of_ble_eq_true rfl) rfl rfl (fun _ _ h => h.elim) ?_
                                rintro _ _ ⟨⟨r991, rfl⟩, hw991⟩
                                refine j_w w7 hw991 ?_
                                refine j_lret dX11_digest_354 rfl ?_ (by show _ ≤ 56; omega) (by show _ ≤ 1349; omega)
                                exact ⟨_, _, rfl, hfm_s8, hm_s8, hke_s8⟩
                              · have hb287 : he < 2 := Nat.not_le.mp (fun z => c_287_81 ((nI_leI (a := 2) (b := he) (by omega) (by omega)).mpr z))
                                refine j_iconst (v := 0) dX11_digest_290 (by decide) ?_
                                refine j_istore (lo' := [(4, _), (0, _), (1, _), (3, _)]) dX11_digest_291 (by decide) rfl ?_
                                have loop293 : ∀ (n9 : Nat) (w8 : z_W) (s9 : z_Z) (q : Nat) (d : Int64), (z_mst w8 s9) → (z_fm 59 w w8) → (sp_MR S s9) → (q ≤ 4) → (4 < q + n9) → z_J G l mX11_digest (24, 56, 1349, w, (fun v w9 => ∃ (r : Int64) (s9 : z_Z), v = some (.long r) ∧ z_fm 59 w w9 ∧ z_mst w9 s9 ∧ sp_MR S s9), (fun _ _ => False)) 293 [(0, .ref 1000), (1, .long d), (3, .int (nI he)), (4, .int (nI q))] [] w8 (16 + 20 * he) (69 + 640 * he) := by
                                  intro n9
                                  induction n9 with
                                  | zero => intro w8 s9 q d hm_s9 hfm_s9 hke_s9 h9a h9b; exact absurd h9b (by omega)
                                  | succ n9 ih9 =>
                                    intro w8 s9 q d hm_s9 hfm_s9 hke_s9 h9a h9b
                                    refine j_iload dX11_digest_293 rfl ?_
                                    refine j_iconst (v := 4) dX11_digest_295 (by decide) ?_
                                    refine j_icmp_ge (tgt := 318) dX11_digest_296 (by decide) (fun c_296_108 => ?_) (fun c_296_108 => ?_)
                                    · have hb296 : 4 ≤ q := (nI_leI (a := 4) (b := q) (by omega) (by omega)).mp c_296_108
                                      refine j_lload_n dX11_digest_318 rfl ?_
                                      refine j_aload_n dX11_digest_319 rfl rfl ?_
                                      refine j_getf dX11_digest_320 fX11_40 hm_s9.m rfl ?_
                                      refine j_iload_n dX11_digest_323 rfl ?_
                                      obtain ⟨fz992, gz992, hz992⟩ := hm_s9.hs
                                      refine j_aald (v := .ref (1009 + he)) dX11_digest_324 gz992 rfl rfl (vp_in_nI (by omega) (by omega)) (by rw [z_cla (by omega)]; exact hz992 _ (by omega)) ?_
                                      refine j_callVN (q := (RX10, TX10, 5)) dX11_digest_325 kX10_text lX11_210 inX10_text seX10_text (hm_s9.hd (i := he) (by omega)) rfl (cs_textH hl w8 S _ (he) hm_s9 hke_s9 (by omega)) (Nat.le_of_ble_eq_true rfl) ⟨(by show _ ≤ 56; omega), (by show _ ≤ 1349; omega)⟩ rfl (Nat.le_of_ble_eq_true rfl) rfl rfl (fun _ _ h => h.elim) ?_
                                      rintro _ w9 ⟨r9, m9, s9, rfl, fm9, h9, hk9, ht9⟩
                                      have ke9 := hk9
                                      obtain ⟨fs993, gs993⟩ := ht9.cell
                                      refine j_callV (q := (RJ0, TJ0, 4)) dX11_digest_328 kJ0_length_8abf5 lX11_250 inJ0_length_8abf5 (z_w 781 ((lwg_4 16).trans rfl) (by decide +kernel)) gs993 rfl (tx_len hl w9 57 r9 _ ht9) (Nat.le_of_ble_eq_true rfl) ⟨(by show _ ≤ 56; omega), (by show _ ≤ 1349; omega)⟩ rfl (Nat.le_of_ble_eq_true rfl) rfl rfl (fun _ _ h => h.elim) ?_
                                      rintro _ _ ⟨rfl, hw993⟩
                                      refine j_w w9 hw993 ?_
                                      refine j_i2l dX11_digest_331 ?_
                                      refine j_callS dX11_digest_332 kX11_add lX11_247 stX11_add (cm_add hl w9 _ _) (Nat.le_of_ble_eq_true rfl) ⟨(by show _ ≤ 56; omega), (by show _ ≤ 1349; omega)⟩ rfl (Nat.le_of_ble_eq_true rfl) rfl rfl (fun _ _ h => h.elim) ?_
                                      rintro _ _ ⟨⟨r994, rfl⟩, hw994⟩
                                      refine j_w w9 hw994 ?_
                                      refine j_lstore_n (lo' := [(1, _), (0, _), (3, _), (4, _)]) dX11_digest_335 (by decide) rfl ?_
                                      refine j_iinc (lo' := [(3, _), (1, _), (0, _), (4, _)]) dX11_digest_336 rfl (z_inc _) (by decide) rfl ?_
                                      refine j_goto (tgt := 285) dX11_digest_339 (by decide) ?_
                                      refine j_widen (kc' := 16 + 20 * (he + 1)) (ks' := 69 + 640 * (he + 1)) (by omega) (by omega) ?_
                                      exact j_lo2 (ih8 w9 _ (he + 1) _ h9 (hfm_s9.tr (fm9.le (q' := 59) (by decide))) ke9 (by omega) (by omega)) (z_q1 rfl (z_q1 rfl (z_q1 rfl z_q0)))
                                    · have hb296 : q < 4 := Nat.not_le.mp (fun z => c_296_108 ((nI_leI (a := 4) (b := q) (by omega) (by omega)).mpr z))
                                      refine j_lload_n dX11_digest_299 rfl ?_
                                      refine j_aload_n dX11_digest_300 rfl rfl ?_
                                      refine j_iload_n dX11_digest_301 rfl ?_
                                      refine j_iload dX11_digest_302 rfl ?_
                                      refine j_callV (q := (RX11, TX11, 8)) dX11_digest_304 kX11_heardTold lX11_205 inX11_heardTold seX11_heardTold hm_s9.m rfl (cm_heardTold hl w8 _ _ _ hm_s9 (by omega)) (Nat.le_of_ble_eq_true rfl) ⟨(by show _ ≤ 56; omega), (by show _ ≤ 1349; omega)⟩ rfl (Nat.le_of_ble_eq_true rfl) rfl rfl (fun _ _ h => h.elim) ?_
                                      rintro _ _ ⟨⟨r995, rfl⟩, hw995⟩
                                      refine j_w w8 hw995 ?_
                                      refine j_i2l dX11_digest_307 ?_
                                      refine j_callS dX11_digest_308 kX11_add lX11_247 stX11_add (cm_add hl w8 _ _) (Nat.le_of_ble_eq_true rfl) ⟨(by show _ ≤ 56; omega), (by show _ ≤ 1349; omega)⟩ rfl (Nat.le_of_ble_eq_true rfl) rfl rfl (fun _ _ h => h.elim) ?_
                                      rintro _ _ ⟨⟨r996, rfl⟩, hw996⟩
                                      refine j_w w8 hw996 ?_
                                      refine j_lstore_n (lo' := [(1, _), (0, _), (3, _), (4, _)]) dX11_digest_311 (by decide) rfl ?_
                                      refine j_iinc (lo' := [(4, _), (1, _), (0, _), (3, _)]) dX11_digest_312 rfl (z_inc _) (by decide) rfl ?_
                                      refine j_goto (tgt := 293) dX11_digest_315 (by decide) ?_
                                      refine j_widen (kc' := 16 + 20 * he) (ks' := 69 + 640 * he) (by omega) (by omega) ?_
                                      exact j_lo2 (ih9 w8 _ (q + 1) _ hm_s9 hfm_s9 hke_s9 (by omega) (by omega)) (z_q1 rfl (z_q1 rfl (z_q1 rfl (z_q1 rfl z_q0))))
                                refine j_widen (kc' := 16 + 20 * he) (ks' := 69 + 640 * he) (by omega) (by omega) ?_
                                exact j_lo2 (loop293 (5) w7 _ 0 _ hm_s8 hfm_s8 hke_s8 (by omega) (by omega)) (z_q1 rfl (z_q1 rfl (z_q1 rfl (z_q1 rfl z_q0))))
                          refine j_widen (kc' := 16 + 20 * 0) (ks' := 69 + 640 * 0) (by omega) (by omega) ?_
                          exact j_lo2 (loop285 (3) w6 _ 0 _ hm_s7 hfm_s7 hke_s7 (by omega) (by omega)) (z_q1 rfl (z_q1 rfl (z_q1 rfl z_q0)))
                        · have hb260 : q < 7 := Nat.not_le.mp (fun z => c_260_69 ((nI_leI (a := 7) (b := q) (by omega) (by omega)).mpr z))
                          refine j_lload_n dX11_digest_263 rfl ?_
                          refine j_aload_n dX11_digest_264 rfl rfl ?_
                          refine j_getf dX11_digest_265 fX11_31 hm_s7.m rfl ?_
                          refine j_iconst (v := 2) dX11_digest_268 (by decide) ?_
                          obtain ⟨fz997, gz997, hz997⟩ := hm_s7.co
                          refine j_aald (v := .ref (1004 + 2)) dX11_digest_269 gz997 rfl rfl (vp_in_nI (n := 2) (by decide) (by decide)) (by rw [show (2 : Int32).toNatClampNeg = 2 by decide]; exact hz997 _ (by decide)) ?_
                          refine j_iload_n dX11_digest_270 rfl ?_
                          refine j_ld dX11_digest_271 (hm_s7.cn (i := 2) (by decide)) (vp_in_nI (by omega) (by omega)) ?_
                          refine j_i2l dX11_digest_272 ?_
                          refine j_callS dX11_digest_273 kX11_add lX11_247 stX11_add (cm_add hl w6 _ _) (Nat.le_of_ble_eq_true rfl) ⟨(by show _ ≤ 56; omega), (by show _ ≤ 1349; omega)⟩ rfl (Nat.le_of_ble_eq_true rfl) rfl rfl (fun _ _ h => h.elim) ?_
                          rintro _ _ ⟨⟨r999, rfl⟩, hw999⟩
                          refine j_w w6 hw999 ?_
                          refine j_lstore_n (lo' := [(1, _), (0, _), (3, _)]) dX11_digest_276 (by decide) rfl ?_
                          refine j_iinc (lo' := [(3, _), (1, _), (0, _)]) dX11_digest_277 rfl (z_inc _) (by decide) rfl ?_
                          refine j_goto (tgt := 257) dX11_digest_280 (by decide) ?_
                          refine j_widen (kc' := 16) (ks' := 69) (by omega) (by omega) ?_
                          exact j_lo2 (ih7 w6 _ (q + 1) _ hm_s7 hfm_s7 hke_s7 (by omega) (by omega)) (z_q1 rfl (z_q1 rfl (z_q1 rfl z_q0)))
                    refine j_widen (kc' := 16) (ks' := 69) (by omega) (by omega) ?_
                    exact j_lo2 (loop257 (8) w5 _ 0 _ hm_s5 hfm_s5 hke_s5 (by omega) (by omega)) (z_q1 rfl (z_q1 rfl (z_q1 rfl z_q0)))
                  · have hk177 : ta < 3 := (hp988 c_177_57)
                    refine j_aload_n dX11_digest_180 rfl rfl ?_
                    refine j_callF (x := ⟨"java/util/Iterator", "next", "()Ljava/lang/Object;"⟩) (q := (RJx35411, TJx35411, 4)) dX11_digest_181 kJx35411_next_0502b ⟨(z_w 1775 ((lwt_8_1 20).trans rfl) (by decide +kernel)), (z_w 1778 ((lwt_8_1 23).trans rfl) (by decide +kernel)), inJx35411_next_0502b, ⟨by decide, by decide⟩, rfl, fun U h => h.2.2.1⟩ h5d rfl (cl_next hl w5 58 it986 (47) _ (ta) _ _ _ hm_s5.tabs ⟨_, h5d⟩ (z_thr3 (t := ta) (by omega)) hita986 hitb986 (by omega)) (Nat.le_of_ble_eq_true rfl) ⟨(by show _ ≤ 56; omega), (by show _ ≤ 1349; omega)⟩ rfl (Nat.le_of_ble_eq_true rfl) rfl ?_
                    rintro _ w10 ⟨rfl, fw10, la10, git10⟩
                    have fm10 := fw10.fm (q := 59) (by omega)
                    have h10 := hm_s5.gar fw10 (by omega)
                    have ke10 := sp_ke h10 hke_s5 ⟨rfl, rfl⟩
                    refine j_castS dX11_digest_186 (z_w 1341 ((lwt_6_3 6).trans rfl) (by decide +kernel)) (z_li.is (h10.tb (t := ta) (by omega))) ?_
                    refine j_astore (lo' := [(4, _), (0, _), (1, _), (3, _)]) dX11_digest_189 rfl (by decide) rfl ?_
                    refine j_lload_n dX11_digest_191 rfl ?_
                    refine j_aload dX11_digest_192 rfl rfl ?_
                    obtain ⟨lv1002, -, lg1002⟩ := z_li.cell (h10.tb (t := ta) (by omega))
                    refine j_callV (q := (RJx4a65c, TJx4a65c, 3)) dX11_digest_194 kJx4a65c_size_8abf5 lX11_86 inJx4a65c_size_8abf5 seJx4a65c_size_8abf5 lg1002 rfl (cl_sizeR hl w10 _ _ _ _ (h10.tb (t := ta) (by omega))) (Nat.le_of_ble_eq_true rfl) ⟨(by show _ ≤ 56; omega), (by show _ ≤ 1349; omega)⟩ rfl (Nat.le_of_ble_eq_true rfl) rfl rfl (fun _ _ h => h.elim) ?_
                    rintro _ _ ⟨⟨n1003, rfl, hn1003⟩, hw1003⟩
                    refine j_w w10 hw1003 ?_
                    have hn1003 : n1003 = (z_qp s5 (ta)).2.length := hn1003
                    have hz1003 : (z_qp s5 (ta)).2.length ≤ 20 := (h10.pr (t := ta) (by omega)).len
                    refine j_i2l dX11_digest_197 ?_
                    refine j_callS dX11_digest_198 kX11_add lX11_247 stX11_add (cm_add hl w10 _ _) (Nat.le_of_ble_eq_true rfl) ⟨(by show _ ≤ 56; omega), (by show _ ≤ 1349; omega)⟩ rfl (Nat.le_of_ble_eq_true rfl) rfl rfl (fun _ _ h => h.elim) ?_
                    rintro _ _ ⟨⟨r1004, rfl⟩, hw1004⟩
                    refine j_w w10 hw1004 ?_
                    refine j_lstore_n (lo' := [(1, _), (4, _), (0, _), (3, _)]) dX11_digest_201 (by decide) rfl ?_
                    refine j_aload dX11_digest_202 rfl rfl ?_
                    obtain ⟨lv1006, -, lg1006⟩ := z_li.cell (h10.tb (t := ta) (by omega))
                    refine j_callV (q := (RJx4a65c, TJx4a65c, 3)) dX11_digest_204 kJx4a65c_iterator_32c93 lX11_162 inJx4a65c_iterator_32c93 seJx4a65c_iterator_32c93 lg1006 rfl (cl_iter hl w10 57 (51 + ta) _ _ _ (h10.tb (t := ta) (by omega)) (by decide) (by omega) h10.fn) (Nat.le_of_ble_eq_true rfl) ⟨(by show _ ≤ 56; omega), (by show _ ≤ 1349; omega)⟩ rfl (Nat.le_of_ble_eq_true rfl) rfl rfl (fun _ _ h => h.elim) ?_
                    rintro _ w11 ⟨it1005, rfl, fw11, hita1005, hitb1005, hitc1005, la1005, git1005⟩
                    have hita1005 : 1000 ≤ it1005 := hita1005
                    have hitb1005 : it1005 % 64 = 57 := hitb1005
                    have n_it986_it1005 := z_neF hitc1005 git10
                    have g11_it986 := fw11.g (Or.inr (by omega)) git10
                    have fm11 := fw11.fm (q := 59) (by omega)
                    have h11 := h10.gar fw11 (by omega)
                    have ke11 := sp_ke h11 ke10 ⟨rfl, rfl⟩
                    refine j_astore (lo' := [(5, _), (1, _), (4, _), (0, _), (3, _)]) dX11_digest_207 rfl (by decide) rfl ?_
                    have loop209 : ∀ (n6 : Nat) (w12 : z_W) (s6 : z_Z) (k : Nat) (d : Int64) (la lb : Int32), (z_mst w12 s6) → (z_fm 59 w w12) → (sp_MR S s6) → (k ≤ 20) → (20 < k + n6) → (k ≤ (z_qp s6 ta).2.length) → (z_g w12 it1005 = some (.inr (3, [.int (nI k), .int la, .int (z_qp s6 ta).1, .ref (1011 + ta)]))) → (z_g w12 it986 = some (.inr (3, [.int (nI (ta + 1)), .int lb, .int (z_qt s6), .ref 1007]))) → z_J G l mX11_digest (24, 56, 1349, w, (fun v w9 => ∃ (r : Int64) (s9 : z_Z), v = some (.long r) ∧ z_fm 59 w w9 ∧ z_mst w9 s9 ∧ sp_MR S s9), (fun _ _ => False)) 209 [(0, .ref 1000), (1, .long d), (3, .ref it986), (5, .ref it1005)] [] w12 (14 + ta) (61 + 4 * ta) := by
                      intro n6
                      induction n6 with
                      | zero => intro w12 s6 k d la lb hm_s6 hfm_s6 hke_s6 h6a h6b h6c h6d h6e; exact absurd h6b (by omega)
                      | succ n6 ih6 =>
                        intro w12 s6 k d la lb hm_s6 hfm_s6 hke_s6 h6a h6b h6c h6d h6e
                        refine j_aload dX11_digest_209 rfl rfl ?_
                        refine j_callF (x := ⟨"java/util/Iterator", "hasNext", "()Z"⟩) (q := (RJx35411, TJx35411, 4)) dX11_digest_211 kJx35411_hasNext_aae02 ⟨(z_w 1765 ((lwt_8_1 10).trans rfl) (by decide +kernel)), (z_w 1769 ((lwt_8_1 14).trans rfl) (by decide +kernel)), inJx35411_hasNext_aae02, ⟨by decide, by decide⟩, rfl, fun U h => h.2.1⟩ h6d rfl (cl_hasN hl w12 _ (51 + ta) _ (k) _ _ (hm_s6.tb (t := ta) (by omega)) ⟨_, h6d⟩ (by rw [z_rs_len]; omega)) (Nat.le_of_ble_eq_true rfl) ⟨(by show _ ≤ 56; omega), (by show _ ≤ 1349; omega)⟩ rfl (Nat.le_of_ble_eq_true rfl) rfl ?_
                        rintro _ _ ⟨⟨x1007, rfl, hz1007, hp1007⟩, hw1007⟩
                        refine j_w w12 hw1007 ?_
                        refine j_if_eq (tgt := 252) dX11_digest_216 (by decide) (fun c_216_217 => ?_) (fun c_216_217 => ?_)
                        · have hk216 : k = (z_qp s6 (ta)).2.length := (z_rs_len ▸ hz1007 c_216_217)
                          refine j_goto (tgt := 171) dX11_digest_252 (by decide) ?_
                          refine j_widen (kc' := 13 + (ta + 1)) (ks' := 57 + 4 * (ta + 1)) (by omega) (by omega) ?_
                          exact j_lo2 (ih5 w12 _ (ta + 1) _ _ hm_s6 hfm_s6 hke_s6 (by omega) (by omega) h6e) (z_q1 rfl (z_q1 rfl (z_q1 rfl z_q0)))
                        · have hk216 : k < (z_qp s6 (ta)).2.length := (z_rs_len ▸ hp1007 c_216_217)
                          have hzk216 : (z_qp s6 (ta)).2.length ≤ 20 := (hm_s6.pr (t := ta) (by omega)).len
                          refine j_aload dX11_digest_219 rfl rfl ?_
                          obtain ⟨p1008, hp1008, hq1008, hk1008⟩ := z_rs_ex (P := (z_qp s6 (ta)).2) (k := k) (by omega)
                          refine j_callF (x := ⟨"java/util/Iterator", "next", "()Ljava/lang/Object;"⟩) (q := (RJx35411, TJx35411, 4)) dX11_digest_221 kJx35411_next_0502b ⟨(z_w 1775 ((lwt_8_1 20).trans rfl) (by decide +kernel)), (z_w 1778 ((lwt_8_1 23).trans rfl) (by decide +kernel)), inJx35411_next_0502b, ⟨by decide, by decide⟩, rfl, fun U h => h.2.2.1⟩ h6d rfl (cl_next hl w12 57 it1005 (51 + ta) _ (k) _ _ _ (hm_s6.tb (t := ta) (by omega)) ⟨_, h6d⟩ hq1008 hita1005 hitb1005 (by omega)) (Nat.le_of_ble_eq_true rfl) ⟨(by show _ ≤ 56; omega), (by show _ ≤ 1349; omega)⟩ rfl (Nat.le_of_ble_eq_true rfl) rfl ?_
                          rintro _ w13 ⟨rfl, fw13, la13, git13⟩
                          have g13_it986 := fw13.g (Or.inr (by omega)) h6e
                          have fm13 := fw13.fm (q := 59) (by omega)
                          have h13 := hm_s6.gar fw13 (by omega)
                          have ke13 := sp_ke h13 hke_s6 ⟨rfl, rfl⟩
                          refine j_castS dX11_digest_226 (z_w 1663 ((lwt_7_5 28).trans rfl) (by decide +kernel)) (z_isA ((h13.pr (t := ta) (by omega)).1 p1008 hp1008).2) ?_
                          refine j_astore (lo' := [(6, _), (0, _), (1, _), (3, _), (5, _)]) dX11_digest_229 rfl (by decide) rfl ?_
                          refine j_lload_n dX11_digest_231 rfl ?_
                          refine j_aload dX11_digest_232 rfl rfl ?_
                          refine j_iconst (v := 0) dX11_digest_234 (by decide) ?_
                          refine j_ld dX11_digest_235 ((h13.pr (t := ta) (by omega)).1 p1008 hp1008).2 (vp_in_nI (n := 0) (by decide) (by decide)) ?_
                          refine j_i2l dX11_digest_236 ?_
                          refine j_callS dX11_digest_237 kX11_add lX11_247 stX11_add (cm_add hl w13 _ _) (Nat.le_of_ble_eq_true rfl) ⟨(by show _ ≤ 56; omega), (by show _ ≤ 1349; omega)⟩ rfl (Nat.le_of_ble_eq_true rfl) rfl rfl (fun _ _ h => h.elim) ?_
                          rintro _ _ ⟨⟨r1011, rfl⟩, hw1011⟩
                          refine j_w w13 hw1011 ?_
                          refine j_aload dX11_digest_240 rfl rfl ?_
                          refine j_iconst (v := 1) dX11_digest_242 (by decide) ?_
                          refine j_ld dX11_digest_243 ((h13.pr (t := ta) (by omega)).1 p1008 hp1008).2 (vp_in_nI (n := 1) (by decide) (by decide)) ?_
                          refine j_i2l dX11_digest_244 ?_
                          refine j_callS dX11_digest_245 kX11_add lX11_247 stX11_add (cm_add hl w13 _ _) (Nat.le_of_ble_eq_true rfl) ⟨(by show _ ≤ 56; omega), (by show _ ≤ 1349; omega)⟩ rfl (Nat.le_of_ble_eq_true rfl) rfl rfl (fun _ _ h => h.elim) ?_
                          rintro _ _ ⟨⟨r1013, rfl⟩, hw1013⟩
                          refine j_w w13 hw1013 ?_
                          refine j_lstore_n (lo' := [(1, _), (6, _), (0, _), (3, _), (5, _)]) dX11_digest_248 (by decide) rfl ?_
                          refine j_goto (tgt := 209) dX11_digest_249 (by decide) ?_
                          refine j_widen (kc' := 14 + ta) (ks' := 61 + 4 * ta) (by omega) (by omega) ?_
                          exact j_lo2 (ih6 w13 _ (k + 1) _ _ _ h13 (hfm_s6.tr fm13) ke13 (by omega) (by omega) (by first | omega | (show _ ≤ (z_qp s6 ta).2.length; omega)) git13 g13_it986) (z_q1 rfl (z_q1 rfl (z_q1 rfl (z_q1 rfl z_q0))))
                    refine j_widen (kc' := 14 + ta) (ks' := 61 + 4 * ta) (by omega) (by omega) ?_
                    exact j_lo2 (loop209 (21) w11 _ 0 _ _ _ h11 ((hfm_s5.tr fm10).tr fm11) ke11 (by omega) (by omega) (Nat.zero_le _) git1005 g11_it986) (z_q1 rfl (z_q1 rfl (z_q1 rfl (z_q1 rfl z_q0))))
              refine j_widen (kc' := 13 + 0) (ks' := 57 + 4 * 0) (by omega) (by omega) ?_
              exact j_lo2 (loop171 (4) w4 _ 0 _ _ h4 (hfm_s2.tr fm4) ke4 (by omega) (by omega) git986) (z_q1 rfl (z_q1 rfl (z_q1 rfl z_q0)))
            · have hb37 : ro < 2 := Nat.not_le.mp (fun z => c_37_34 ((nI_leI (a := 2) (b := ro) (by omega) (by omega)).mpr z))
              refine j_lload_n dX11_digest_40 rfl ?_
              refine j_aload_n dX11_digest_41 rfl rfl ?_
              refine j_getf dX11_digest_42 fX11_21 hm_s2.m rfl ?_
              refine j_iload_n dX11_digest_45 rfl ?_
              obtain ⟨lv1015, -, lg1015⟩ := z_li.cell hm_s2.rows
              refine j_callV (q := (RJx4a65c, TJx4a65c, 3)) dX11_digest_46 kJx4a65c_get_915e3 lX11_82 inJx4a65c_get_915e3 seJx4a65c_get_915e3 lg1015 rfl (cl_get hl w3 41 1001 _ _ (ro) _ hm_s2.rows (z_two2 (i := ro) (by omega))) (Nat.le_of_ble_eq_true rfl) ⟨(by show _ ≤ 56; omega), (by show _ ≤ 1349; omega)⟩ rfl (Nat.le_of_ble_eq_true rfl) rfl rfl (fun _ _ h => h.elim) ?_
              rintro _ _ ⟨rfl, hw1016⟩
              refine j_w w3 hw1016 ?_
              refine j_castS dX11_digest_49 (z_w 1341 ((lwt_6_3 6).trans rfl) (by decide +kernel)) (z_li.is (hm_s2.rw (i := ro) (by omega)).1) ?_
              obtain ⟨lv1018, -, lg1018⟩ := z_li.cell (hm_s2.rw (i := ro) (by omega)).1
              refine j_callV (q := (RJx4a65c, TJx4a65c, 3)) dX11_digest_52 kJx4a65c_size_8abf5 lX11_86 inJx4a65c_size_8abf5 seJx4a65c_size_8abf5 lg1018 rfl (cl_sizeB hl w3 _ _ _ _ (hm_s2.rw (i := ro) (by omega)).1) (Nat.le_of_ble_eq_true rfl) ⟨(by show _ ≤ 56; omega), (by show _ ≤ 1349; omega)⟩ rfl (Nat.le_of_ble_eq_true rfl) rfl rfl (fun _ _ h => h.elim) ?_
              rintro _ _ ⟨⟨n1019, rfl, hn1019⟩, hw1019⟩
              refine j_w w3 hw1019 ?_
              have hn1019 : n1019 = (z_qw s2 (ro)).2.length := hn1019
              have hz1019 : (z_qw s2 (ro)).2.length ≤ 12 := (hm_s2.rw (i := ro) (by omega)).2
              refine j_i2l dX11_digest_55 ?_
              refine j_callS dX11_digest_56 kX11_add lX11_247 stX11_add (cm_add hl w3 _ _) (Nat.le_of_ble_eq_true rfl) ⟨(by show _ ≤ 56; omega), (by show _ ≤ 1349; omega)⟩ rfl (Nat.le_of_ble_eq_true rfl) rfl rfl (fun _ _ h => h.elim) ?_
              rintro _ _ ⟨⟨r1020, rfl⟩, hw1020⟩
              refine j_w w3 hw1020 ?_
              refine j_lstore_n (lo' := [(1, _), (0, _), (3, _)]) dX11_digest_59 (by decide) rfl ?_
              refine j_aload_n dX11_digest_60 rfl rfl ?_
              refine j_getf dX11_digest_61 fX11_21 hm_s2.m rfl ?_
              refine j_iload_n dX11_digest_64 rfl ?_
              obtain ⟨lv1022, -, lg1022⟩ := z_li.cell hm_s2.rows
              refine j_callV (q := (RJx4a65c, TJx4a65c, 3)) dX11_digest_65 kJx4a65c_get_915e3 lX11_82 inJx4a65c_get_915e3 seJx4a65c_get_915e3 lg1022 rfl (cl_get hl w3 41 1001 _ _ (ro) _ hm_s2.rows (z_two2 (i := ro) (by omega))) (Nat.le_of_ble_eq_true rfl) ⟨(by show _ ≤ 56; omega), (by show _ ≤ 1349; omega)⟩ rfl (Nat.le_of_ble_eq_true rfl) rfl rfl (fun _ _ h => h.elim) ?_
              rintro _ _ ⟨rfl, hw1023⟩
              refine j_w w3 hw1023 ?_
              refine j_castS dX11_digest_68 (z_w 1341 ((lwt_6_3 6).trans rfl) (by decide +kernel)) (z_li.is (hm_s2.rw (i := ro) (by omega)).1) ?_
              obtain ⟨lv1026, -, lg1026⟩ := z_li.cell (hm_s2.rw (i := ro) (by omega)).1
              refine j_callV (q := (RJx4a65c, TJx4a65c, 3)) dX11_digest_71 kJx4a65c_iterator_32c93 lX11_162 inJx4a65c_iterator_32c93 seJx4a65c_iterator_32c93 lg1026 rfl (cl_iter hl w3 58 (11 + ro) _ _ _ (hm_s2.rw (i := ro) (by omega)).1 (by decide) (by omega) hm_s2.fn) (Nat.le_of_ble_eq_true rfl) ⟨(by show _ ≤ 56; omega), (by show _ ≤ 1349; omega)⟩ rfl (Nat.le_of_ble_eq_true rfl) rfl rfl (fun _ _ h => h.elim) ?_
              rintro _ w14 ⟨it1025, rfl, fw14, hita1025, hitb1025, hitc1025, la1025, git1025⟩
              have hita1025 : 1000 ≤ it1025 := hita1025
              have hitb1025 : it1025 % 64 = 58 := hitb1025
              have fm14 := fw14.fm (q := 59) (by omega)
              have h14 := hm_s2.gar fw14 (by omega)
              have ke14 := sp_ke h14 hke_s2 ⟨rfl, rfl⟩
              refine j_astore (lo' := [(4, _), (1, _), (0, _), (3, _)]) dX11_digest_74 rfl (by decide) rfl ?_
              have loop76 : ∀ (n3 : Nat) (w15 : z_W) (s3 : z_Z) (k : Nat) (d : Int64) (la : Int32), (z_mst w15 s3) → (z_fm 59 w w15) → (sp_MR S s3) → (k ≤ 12) → (12 < k + n3) → (k ≤ (z_qw s3 ro).2.length) → (z_g w15 it1025 = some (.inr (3, [.int (nI k), .int la, .int (z_qw s3 ro).1, .ref ((z_qr s3).2 ro)]))) → z_J G l mX11_digest (24, 56, 1349, w, (fun v w9 => ∃ (r : Int64) (s9 : z_Z), v = some (.long r) ∧ z_fm 59 w w9 ∧ z_mst w9 s9 ∧ sp_MR S s9), (fun _ _ => False)) 76 [(0, .ref 1000), (1, .long d), (3, .int (nI ro)), (4, .ref it1025)] [] w15 (11 + ro) (49 + 4 * ro) := by
                intro n3
                induction n3 with
                | zero => intro w15 s3 k d la hm_s3 hfm_s3 hke_s3 h3a h3b h3c h3d; exact absurd h3b (by omega)
                | succ n3 ih3 =>
                  intro w15 s3 k d la hm_s3 hfm_s3 hke_s3 h3a h3b h3c h3d
                  refine j_aload dX11_digest_76 rfl rfl ?_
                  refine j_callF (x := ⟨"java/util/Iterator", "hasNext", "()Z"⟩) (q := (RJx35411, TJx35411, 4)) dX11_digest_78 kJx35411_hasNext_aae02 ⟨(z_w 1765 ((lwt_8_1 10).trans rfl) (by decide +kernel)), (z_w 1769 ((lwt_8_1 14).trans rfl) (by decide +kernel)), inJx35411_hasNext_aae02, ⟨by decide, by decide⟩, rfl, fun U h => h.2.1⟩ h3d rfl (cl_hasN hl w15 _ (11 + ro) _ (k) _ _ (hm_s3.rw (i := ro) (by omega)).1 ⟨_, h3d⟩ (by rw [z_bx_len]; omega)) (Nat.le_of_ble_eq_true rfl) ⟨(by show _ ≤ 56; omega), (by show _ ≤ 1349; omega)⟩ rfl (Nat.le_of_ble_eq_true rfl) rfl ?_
                  rintro _ _ ⟨⟨x1027, rfl, hz1027, hp1027⟩, hw1027⟩
                  refine j_w w15 hw1027 ?_
                  refine j_if_eq (tgt := 112) dX11_digest_83 (by decide) (fun c_83_305 => ?_) (fun c_83_305 => ?_)
                  · have hk83 : k = (z_qw s3 (ro)).2.length := (z_bx_len ▸ hz1027 c_83_305)
                    refine j_lload_n dX11_digest_112 rfl ?_
                    refine j_aload_n dX11_digest_113 rfl rfl ?_
                    refine j_getf dX11_digest_114 fX11_25 hm_s3.m rfl ?_
                    refine j_iload_n dX11_digest_117 rfl ?_
                    refine j_zald dX11_digest_118 hm_s3.fx (vp_in_nI (by omega) (by omega)) rfl ?_
                    refine j_callS dX11_digest_119 kX11_one lX11_68 stX11_one (cm_oneA hl w15 _) (Nat.le_of_ble_eq_true rfl) ⟨(by show _ ≤ 56; omega), (by show _ ≤ 1349; omega)⟩ rfl (Nat.le_of_ble_eq_true rfl) rfl rfl (fun _ _ h => h.elim) ?_
                    rintro _ _ ⟨⟨r1029, rfl⟩, hw1029⟩
                    refine j_w w15 hw1029 ?_
                    refine j_i2l dX11_digest_122 ?_
                    refine j_callS dX11_digest_123 kX11_add lX11_247 stX11_add (cm_add hl w15 _ _) (Nat.le_of_ble_eq_true rfl) ⟨(by show _ ≤ 56; omega), (by show _ ≤ 1349; omega)⟩ rfl (Nat.le_of_ble_eq_true rfl) rfl rfl (fun _ _ h => h.elim) ?_
                    rintro _ _ ⟨⟨r1030, rfl⟩, hw1030⟩
                    refine j_w w15 hw1030 ?_
                    refine j_lstore_n (lo' := [(1, _), (0, _), (3, _), (4, _)]) dX11_digest_126 (by decide) rfl ?_
                    refine j_iconst (v := 0) dX11_digest_127 (by decide) ?_
                    refine j_istore (lo' := [(4, _), (1, _), (0, _), (3, _)]) dX11_digest_128 (by decide) rfl ?_
                    have loop130 : ∀ (n4 : Nat) (w16 : z_W) (s4 : z_Z) (q : Nat) (d : Int64), (z_mst w16 s4) → (z_fm 59 w w16) → (sp_MR S s4) → (q ≤ 5) → (5 < q + n4) → z_J G l mX11_digest (24, 56, 1349, w, (fun v w9 => ∃ (r : Int64) (s9 : z_Z), v = some (.long r) ∧ z_fm 59 w w9 ∧ z_mst w9 s9 ∧ sp_MR S s9), (fun _ _ => False)) 130 [(0, .ref 1000), (1, .long d), (3, .int (nI ro)), (4, .int (nI q))] [] w16 (11 + ro) (49 + 4 * ro) := by
                      intro n4
                      induction n4 with
                      | zero => intro w16 s4 q d hm_s4 hfm_s4 hke_s4 h4a h4b; exact absurd h4b (by omega)
                      | succ n4 ih4 =>
                        intro w16 s4 q d hm_s4 hfm_s4 hke_s4 h4a h4b
                        refine j_iload dX11_digest_130 rfl ?_
                        refine j_iconst (v := 5) dX11_digest_132 (by decide) ?_
                        refine j_icmp_ge (tgt := 157) dX11_digest_133 (by decide) (fun c_133_330 => ?_) (fun c_133_330 => ?_)
                        · have hb133 : 5 ≤ q := (nI_leI (a := 5) (b := q) (by omega) (by omega)).mp c_133_330
                          refine j_iinc (lo' := [(3, _), (0, _), (1, _), (4, _)]) dX11_digest_157 rfl (z_inc _) (by decide) rfl ?_
                          refine j_goto (tgt := 35) dX11_digest_160 (by decide) ?_
                          refine j_widen (kc' := 10 + (ro + 1)) (ks' := 45 + 4 * (ro + 1)) (by omega) (by omega) ?_
                          exact j_lo2 (ih2 w16 _ (ro + 1) _ hm_s4 hfm_s4 hke_s4 (by omega) (by omega)) (z_q1 rfl (z_q1 rfl (z_q1 rfl z_q0)))
                        · have hb133 : q < 5 := Nat.not_le.mp (fun z => c_133_330 ((nI_leI (a := 5) (b := q) (by omega) (by omega)).mpr z))
                          refine j_lload_n dX11_digest_136 rfl ?_
                          refine j_aload_n dX11_digest_137 rfl rfl ?_
                          refine j_getf dX11_digest_138 fX11_31 hm_s4.m rfl ?_
                          refine j_iload_n dX11_digest_141 rfl ?_
                          obtain ⟨fz1031, gz1031, hz1031⟩ := hm_s4.co
                          refine j_aald (v := .ref (1004 + ro)) dX11_digest_142 gz1031 rfl rfl (vp_in_nI (by omega) (by omega)) (by rw [z_cla (by omega)]; exact hz1031 _ (by omega)) ?_
                          refine j_iload dX11_digest_143 rfl ?_
                          refine j_ld dX11_digest_145 (hm_s4.cn (i := ro) (by omega)) (vp_in_nI (by omega) (by omega)) ?_
                          refine j_i2l dX11_digest_146 ?_
                          refine j_callS dX11_digest_147 kX11_add lX11_247 stX11_add (cm_add hl w16 _ _) (Nat.le_of_ble_eq_true rfl) ⟨(by show _ ≤ 56; omega), (by show _ ≤ 1349; omega)⟩ rfl (Nat.le_of_ble_eq_true rfl) rfl rfl (fun _ _ h => h.elim) ?_
                          rintro _ _ ⟨⟨r1033, rfl⟩, hw1033⟩
                          refine j_w w16 hw1033 ?_
                          refine j_lstore_n (lo' := [(1, _), (0, _), (3, _), (4, _)]) dX11_digest_150 (by decide) rfl ?_
                          refine j_iinc (lo' := [(4, _), (1, _), (0, _), (3, _)]) dX11_digest_151 rfl (z_inc _) (by decide) rfl ?_
                          refine j_goto (tgt := 130) dX11_digest_154 (by decide) ?_
                          refine j_widen (kc' := 11 + ro) (ks' := 49 + 4 * ro) (by omega) (by omega) ?_
                          exact j_lo2 (ih4 w16 _ (q + 1) _ hm_s4 hfm_s4 hke_s4 (by omega) (by omega)) (z_q1 rfl (z_q1 rfl (z_q1 rfl (z_q1 rfl z_q0))))
                    refine j_widen (kc' := 11 + ro) (ks' := 49 + 4 * ro) (by omega) (by omega) ?_
                    exact j_lo2 (loop130 (6) w15 _ 0 _ hm_s3 hfm_s3 hke_s3 (by omega) (by omega)) (z_q1 rfl (z_q1 rfl (z_q1 rfl (z_q1 rfl z_q0))))
                  · have hk83 : k < (z_qw s3 (ro)).2.length := (z_bx_len ▸ hp1027 c_83_305)
                    have hzk83 : (z_qw s3 (ro)).2.length ≤ 12 := (hm_s3.rw (i := ro) (by omega)).2
                    refine j_aload dX11_digest_86 rfl rfl ?_
                    refine j_callF (x := ⟨"java/util/Iterator", "next", "()Ljava/lang/Object;"⟩) (q := (RJx35411, TJx35411, 4)) dX11_digest_88 kJx35411_next_0502b ⟨(z_w 1775 ((lwt_8_1 20).trans rfl) (by decide +kernel)), (z_w 1778 ((lwt_8_1 23).trans rfl) (by decide +kernel)), inJx35411_next_0502b, ⟨by decide, by decide⟩, rfl, fun U h => h.2.2.1⟩ h3d rfl (cl_next hl w15 58 it1025 (11 + ro) _ (k) _ _ _ (hm_s3.rw (i := ro) (by omega)).1 ⟨_, h3d⟩ (z_bx_get (B := (z_qw s3 (ro)).2) (by omega)) hita1025 hitb1025 (by omega)) (Nat.le_of_ble_eq_true rfl) ⟨(by show _ ≤ 56; omega), (by show _ ≤ 1349; omega)⟩ rfl (Nat.le_of_ble_eq_true rfl) rfl ?_
                    rintro _ w17 ⟨rfl, fw17, la17, git17⟩
                    have fm17 := fw17.fm (q := 59) (by omega)
                    have h17 := hm_s3.gar fw17 (by omega)
                    have ke17 := sp_ke h17 hke_s3 ⟨rfl, rfl⟩
                    refine j_castS dX11_digest_93 (z_w 1567 ((lwt_7_2 22).trans rfl) (by decide +kernel)) rfl ?_
                    refine j_callVB (v0 := .float _) (C := "java/lang/Integer") dX11_digest_96 kJ6_intValue_8abf5 lX11_99 inJ6_intValue_8abf5 seJ6_intValue_8abf5 rfl (c_J6_intValue_8abf5 hl w17 _) (Nat.le_of_ble_eq_true rfl) ⟨(by show _ ≤ 56; omega), (by show _ ≤ 1349; omega)⟩ rfl (Nat.le_of_ble_eq_true rfl) rfl rfl (fun _ _ h => h.elim) ?_
                    rintro _ _ ⟨rfl, hw1036⟩
                    refine j_w w17 hw1036 ?_
                    refine j_istore (lo' := [(5, _), (0, _), (1, _), (3, _), (4, _)]) dX11_digest_99 (by decide) rfl ?_
                    refine j_lload_n dX11_digest_101 rfl ?_
                    refine j_iload dX11_digest_102 rfl ?_
                    refine j_i2l dX11_digest_104 ?_
                    refine j_callS dX11_digest_105 kX11_add lX11_247 stX11_add (cm_add hl w17 _ _) (Nat.le_of_ble_eq_true rfl) ⟨(by show _ ≤ 56; omega), (by show _ ≤ 1349; omega)⟩ rfl (Nat.le_of_ble_eq_true rfl) rfl rfl (fun _ _ h => h.elim) ?_
                    rintro _ _ ⟨⟨r1037, rfl⟩, hw1037⟩
                    refine j_w w17 hw1037 ?_
                    refine j_lstore_n (lo' := [(1, _), (5, _), (0, _), (3, _), (4, _)]) dX11_digest_108 (by decide) rfl ?_
                    refine j_goto (tgt := 76) dX11_digest_109 (by decide) ?_
                    refine j_widen (kc' := 11 + ro) (ks' := 49 + 4 * ro) (by omega) (by omega) ?_
                    exact j_lo2 (ih3 w17 _ (k + 1) _ _ h17 (hfm_s3.tr fm17) ke17 (by omega) (by omega) (by first | omega | (show _ ≤ (z_qw s3 ro).2.length; omega)) git17) (z_q1 rfl (z_q1 rfl (z_q1 rfl (z_q1 rfl z_q0))))
              refine j_widen (kc' := 11 + ro) (ks' := 49 + 4 * ro) (by omega) (by omega) ?_
              exact j_lo2 (loop76 (13) w14 _ 0 _ _ h14 (hfm_s2.tr fm14) ke14 (by omega) (by omega) (Nat.zero_le _) git1025) (z_q1 rfl (z_q1 rfl (z_q1 rfl (z_q1 rfl z_q0))))
        refine j_widen (kc' := 10 + 0) (ks' := 45 + 4 * 0) (by omega) (by omega) ?_
        exact j_lo2 (loop35 (3) w2 _ 0 _ hm_s1 hfm_s1 hke_s1 (by omega) (by omega)) (z_q1 rfl (z_q1 rfl (z_q1 rfl z_q0)))
      · have hb13 : q < 5 := Nat.not_le.mp (fun z => c_13_22 ((nI_leI (a := 5) (b := q) (by omega) (by omega)).mpr z))
        refine j_lload_n dX11_digest_16 rfl ?_
        refine j_aload_n dX11_digest_17 rfl rfl ?_
        refine j_iload_n dX11_digest_18 rfl ?_
        refine j_callV (q := (RX11, TX11, 8)) dX11_digest_19 kX11_houseTold lX11_237 inX11_houseTold seX11_houseTold hm_s1.m rfl (cs_houseTold hl w2 S _ (q) hm_s1 hke_s1 (by omega)) (Nat.le_of_ble_eq_true rfl) ⟨(by show _ ≤ 56; omega), (by show _ ≤ 1349; omega)⟩ rfl (Nat.le_of_ble_eq_true rfl) rfl rfl (fun _ _ h => h.elim) ?_
        rintro _ w18 ⟨r18, s18, rfl, fm18, h18, hk18⟩
        have ke18 := hk18
        refine j_i2l dX11_digest_22 ?_
        refine j_callS dX11_digest_23 kX11_add lX11_247 stX11_add (cm_add hl w18 _ _) (Nat.le_of_ble_eq_true rfl) ⟨(by show _ ≤ 56; omega), (by show _ ≤ 1349; omega)⟩ rfl (Nat.le_of_ble_eq_true rfl) rfl rfl (fun _ _ h => h.elim) ?_
        rintro _ _ ⟨⟨r1038, rfl⟩, hw1038⟩
        refine j_w w18 hw1038 ?_
        refine j_lstore_n (lo' := [(1, _), (0, _), (3, _)]) dX11_digest_26 (by decide) rfl ?_
        refine j_iinc (lo' := [(3, _), (1, _), (0, _)]) dX11_digest_27 rfl (z_inc _) (by decide) rfl ?_
        refine j_goto (tgt := 11) dX11_digest_30 (by decide) ?_
        refine j_widen (kc' := 2 * (q + 1)) (ks' := 9 * (q + 1)) (by omega) (by omega) ?_
        exact j_lo2 (ih1 w18 _ (q + 1) _ h18 (hfm_s1.tr (fm18.le (q' := 59) (by decide))) ke18 (by omega) (by omega)) (z_q1 rfl (z_q1 rfl (z_q1 rfl z_q0)))
  refine j_widen (kc' := 2 * 0) (ks' := 9 * 0) (by omega) (by omega) ?_
  exact j_lo2 (loop11 (6) w1 _ 0 _ h1 (fw1.fm (q := 59) (by omega)) ke1 (by omega) (by omega)) (z_q1 rfl (z_q1 rfl (z_q1 rfl z_q0)))
end ZMtx
