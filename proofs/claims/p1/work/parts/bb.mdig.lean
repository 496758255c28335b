section ZM0
section ZMe9
variable {G : z_G} {l : Launch}
theorem sp_tkx {α : Type} {L : List α} {k : Nat} {x : α} (h : L[k]? = some x) : L.take (k + 1) = L.take k ++ [x] := by
  rw [List.take_succ, h]
  rfl
theorem sp_jl_z {L : List Int32} : (L.length = 0 → sp_jl L = 0) ∧ (¬ L.length = 0 → 1 ≤ sp_jl L) := by
  cases L with
  | nil => exact ⟨fun _ => rfl, fun h => absurd rfl h⟩
  | cons x L =>
    refine ⟨fun h => (by cases h), fun _ => ?_⟩
    have h1 := (z_sz_in x).1
    show 1 ≤ (z_sz x + (L.map z_sz).sum) + _
    omega
theorem sp_rowE {d : Int64} {A B : List Int32} {x : Bool} {c : Nat → Int32} : sp_mxl (sp_mx (sp_mxl (sp_mx (sp_mxl d A) (nI B.length)) B) (z_bi x)) ((List.range 5).map c) = sp_mxl d (A ++ sp_rwl B x c) := by
  rw [sp_mxl_app]
  show _ = sp_mxl (sp_mxl d A) (nI B.length :: (B ++ (z_bi x :: (List.range 5).map c)))
  rw [sp_mxl_c, sp_mxl_app, sp_mxl_c]
theorem sp_tabE {d : Int64} {A : List Int32} {T : List (Nat × Int32)} : sp_mxl (sp_mx (sp_mxl d A) (nI T.length)) (sp_tbl T) = sp_mxl d (A ++ (nI T.length :: sp_tbl T)) := by
  rw [sp_mxl_app, sp_mxl_c]
theorem sp_heaE {d : Int64} {A M : List Int32} {n : Int32} : sp_mx (sp_mxl (sp_mxl d A) M) n = sp_mxl d (A ++ (M ++ [n])) := by
  rw [sp_mxl_app, sp_mxl_s]
theorem cy_add (hl : l.stackTraces = false) (w : z_W) (a : Int64) (x : Int32)  : z_Con G l mX11_add 10 0 0 w [.long a, .long x.toInt64] (fun v w9 => v = some (.long (sp_mx a x)) ∧ w9 = w) (fun _ _ => False) := by
  refine z_body hl (by decide) rfl (Nat.le_of_ble_eq_true rfl) ?_
  show z_J G l mX11_add _ 0 [(0, _), (2, _)] [] _ 0 0
  refine j_lload_n dX11_add_0 rfl ?_
  refine j_ldc2 dX11_add_1 kcX11_243 ?_
  refine j_lmul dX11_add_4 ?_
  refine j_lload_n dX11_add_5 rfl ?_
  refine j_ladd dX11_add_6 ?_
  refine j_lret dX11_add_7 rfl ?_ (Nat.le_of_ble_eq_true rfl) (Nat.le_of_ble_eq_true rfl)
  exact ⟨rfl, rfl⟩
set_option maxRecDepth 100000 in
set_option maxHeartbeats 8000000 in
theorem cy_textH (hl : l.stackTraces = false) (w : z_W) (S : sp_S) (s : z_Z) (i : Nat) (h : z_mst w s) (R : sp_MR S s) (hi : i < 2) : z_Con G l mX10_text 18 20 640 w [.ref (1009 + i)] (fun v w9 => ∃ (r : Nat) (s9 : z_Z), v = some (.ref r) ∧ z_fm 59 w w9 ∧ z_mst w9 s9 ∧ sp_MR S s9 ∧ z_tx w9 57 r (sp_jl (sp_E S i).2)) (fun _ _ => False) := by
  have ke0 : sp_MR S s := R
  refine z_body hl (by decide) rfl (Nat.le_of_ble_eq_true rfl) ?_
  show z_J G l mX10_text _ 0 [(0, _)] [] _ 0 0
  obtain ⟨x1, hx1a, hx1b, hx1c⟩ := z_fresh (56) (by decide) h.fn
  refine j_new (N := 4) (w' := _) (n := x1) dX10_text_0 nX10_52 rfl (z_alW hx1c hx1a) (Nat.le_of_ble_eq_true rfl) (Nat.le_of_ble_eq_true rfl) ?_
  refine j_seal hx1a ?_
  intro w1 u1
  have fw1 := u1.fw hx1a hx1b
  have g1_x1 := u1.1
  have h1 := h.gar fw1 (by omega)
  have ke1 := sp_ke h1 ke0 ⟨rfl, rfl⟩
  refine j_dup dX10_text_3 rfl ?_
  refine j_callI dX10_text_4 kJ4_init_da8c8 rfl lX10_54 inJ4_init_da8c8 rfl (sb_ini hl w1 56 x1 hx1a hx1b (by decide) h1.fn g1_x1) (Nat.le_of_ble_eq_true rfl) ⟨(by show _ ≤ 20; omega), (by show _ ≤ 640; omega)⟩ rfl (Nat.le_of_ble_eq_true rfl) rfl rfl (fun _ _ h => h.elim) ?_
  rintro _ w2 ⟨rfl, fw2, hs2⟩
  have fm2 := fw2.fm (q := 59) (by omega)
  have h2 := h1.gar fw2 (by omega)
  have ke2 := sp_ke h2 ke1 ⟨rfl, rfl⟩
  refine j_astore_n (lo' := [(1, _), (0, _)]) dX10_text_7 rfl (by decide) rfl ?_
  refine j_aload_n dX10_text_8 rfl rfl ?_
  refine j_getf dX10_text_9 fX10_21 (h2.hd (i := i) hi) rfl ?_
  obtain ⟨lv907, -, lg907⟩ := z_li.cell (h2.hl (i := i) hi).1
  refine j_callV (q := (RJx4a65c, TJx4a65c, 3)) dX10_text_12 kJx4a65c_iterator_32c93 lX10_55 inJx4a65c_iterator_32c93 seJx4a65c_iterator_32c93 lg907 rfl (cl_iter hl w2 58 (54 + i) _ _ _ (h2.hl (i := i) hi).1 (by decide) (by omega) h2.fn) (Nat.le_of_ble_eq_true rfl) ⟨(by show _ ≤ 20; omega), (by show _ ≤ 640; omega)⟩ rfl (Nat.le_of_ble_eq_true rfl) rfl rfl (fun _ _ h => h.elim) ?_
  rintro _ w3 ⟨it906, rfl, fw3, hita906, hitb906, hitc906, la906, git906⟩
  have hita906 : 1000 ≤ it906 := hita906
  have hitb906 : it906 % 64 = 58 := hitb906
  have fm3 := fw3.fm (q := 59) (by omega)
  have h3 := h2.gar fw3 (by omega)
  have hs3 := hs2.fw fw3 (by decide)
  have ke3 := sp_ke h3 ke2 ⟨rfl, rfl⟩
  refine j_astore_n (lo' := [(2, _), (1, _), (0, _)]) dX10_text_15 rfl (by decide) rfl ?_
  have loop16 : ∀ (n9 : Nat) (w4 : z_W) (s1 : z_Z) (k bn bN : Nat) (la : Int32), (k ≤ 10) → (10 < k + n9) → (z_mst w4 s1) → (z_fm 59 w w4) → (sp_MR S s1) → (k ≤ (z_ql s1 i).2.length) → (z_g w4 it906 = some (.inr (3, [.int (nI k), .int la, .int (z_ql s1 i).1, .ref (1014 + i)]))) → (z_sb w4 56 x1 bn bN) → (bn ≤ 12 * k) → (bN ≤ 2 * 120 + 16) → (bn = sp_jl ((sp_E S i).2.take k)) → z_J G l mX10_text (18, 20, 640, w, (fun v w9 => ∃ (r : Nat) (s9 : z_Z), v = some (.ref r) ∧ z_fm 59 w w9 ∧ z_mst w9 s9 ∧ sp_MR S s9 ∧ z_tx w9 57 r (sp_jl (sp_E S i).2)), (fun _ _ => False)) 16 [(0, .ref (1009 + i)), (1, .ref x1), (2, .ref it906)] [] w4 (2 + bN / 16) (2 * bN) := by
    intro n9
    induction n9 with
    | zero => intro w4 s1 k bn bN la hj hf9 hm hfm hke hkl git hsb hbn hbN hjl; exact absurd hf9 (by omega)
    | succ n9 ih =>
      intro w4 s1 k bn bN la hj hf9 hm hfm hke hkl git hsb hbn hbN hjl
      have hnN0 := hsb.nN
      refine j_aload_n dX10_text_16 rfl rfl ?_
      refine j_callF (x := ⟨"java/util/Iterator", "hasNext", "()Z"⟩) (q := (RJx35411, TJx35411, 4)) dX10_text_17 kJx35411_hasNext_aae02 ⟨(z_w 1856 ((lwt_8_4 11).trans rfl) (by decide +kernel)), (z_w 1769 ((lwt_8_1 14).trans rfl) (by decide +kernel)), inJx35411_hasNext_aae02, ⟨by decide, by decide⟩, rfl, fun U h => h.2.1⟩ git rfl (cl_hasN hl w4 _ (54 + i) _ (k) _ _ (hm.hl (i := i) hi).1 ⟨_, git⟩ (by rw [z_bx_len]; omega)) (Nat.le_of_ble_eq_true rfl) ⟨(by show _ ≤ 20; omega), (by show _ ≤ 640; omega)⟩ rfl (Nat.le_of_ble_eq_true rfl) rfl ?_
      rintro _ _ ⟨⟨x908, rfl, hz908, hp908⟩, hw908⟩
      refine j_w w4 hw908 ?_
      refine j_if_eq (tgt := 64) dX10_text_22 (by decide) (fun c_22_40 => ?_) (fun c_22_40 => ?_)
      · have hk22 : k = (z_ql s1 (i)).2.length := (z_bx_len ▸ hz908 c_22_40)
        have hE9 : (sp_E S i).2.length = (z_ql s1 (i)).2.length := by rw [hke.l hi, List.length_map]
        have e9 : bn = sp_jl (sp_E S i).2 := by rw [hjl, List.take_of_length_le (by omega)]
        refine j_aload_n dX10_text_64 rfl rfl ?_
        have hnN := hsb.nN
        obtain ⟨fs909, gs909⟩ := hsb.cell
        refine j_callV (q := (RJ4, TJ4, 4)) dX10_text_65 kJ4_toString_0e30d lX10_86 inJ4_toString_0e30d seJ4_toString_0e30d gs909 rfl (sb_toS hl w4 57 56 x1 (bn) (bN) hsb (by decide) (by decide) hm.fn) (Nat.le_of_ble_eq_true rfl) ⟨(by show _ ≤ 20; omega), (by show _ ≤ 640; omega)⟩ rfl (Nat.le_of_ble_eq_true rfl) rfl rfl (fun _ _ h => h.elim) ?_
        rintro _ w5 ⟨r5, rfl, fw5, ht5⟩
        have g5_it906 := fw5.g (Or.inr (by omega)) git
        have fm5 := fw5.fm (q := 59) (by omega)
        have h5 := hm.gar fw5 (by omega)
        have ke5 := sp_ke h5 hke ⟨rfl, rfl⟩
        refine j_aret dX10_text_68 rfl (Or.inl ⟨_, rfl⟩) rfl ?_ (by show _ ≤ 20; omega) (by show _ ≤ 640; omega)
        rw [e9] at ht5
        exact ⟨_, _, rfl, (hfm.tr fm5), h5, ke5, ht5⟩
      · have hk22 : k < (z_ql s1 (i)).2.length := (z_bx_len ▸ hp908 c_22_40)
        have hE9 : (sp_E S i).2.length = (z_ql s1 (i)).2.length := by rw [hke.l hi, List.length_map]
        obtain ⟨x9, hx9⟩ : ∃ x, (sp_E S i).2[k]? = some x := ⟨_, List.getElem?_eq_getElem (show k < (sp_E S i).2.length by omega)⟩
        have hzk22 : (z_ql s1 (i)).2.length ≤ 10 := (hm.hl (i := i) (by omega)).2
        refine j_aload_n dX10_text_25 rfl rfl ?_
        refine j_callF (x := ⟨"java/util/Iterator", "next", "()Ljava/lang/Object;"⟩) (q := (RJx35411, TJx35411, 4)) dX10_text_26 kJx35411_next_0502b ⟨(z_w 1858 ((lwt_8_4 13).trans rfl) (by decide +kernel)), (z_w 1778 ((lwt_8_1 23).trans rfl) (by decide +kernel)), inJx35411_next_0502b, ⟨by decide, by decide⟩, rfl, fun U h => h.2.2.1⟩ git rfl (cl_next hl w4 58 it906 (54 + i) _ (k) _ _ _ (hm.hl (i := i) hi).1 ⟨_, git⟩ ((congrArg (fun z => (z_bx z)[k]?) (hke.l hi)).trans (sp_u_get hx9)) hita906 hitb906 (by omega)) (Nat.le_of_ble_eq_true rfl) ⟨(by show _ ≤ 20; omega), (by show _ ≤ 640; omega)⟩ rfl (Nat.le_of_ble_eq_true rfl) rfl ?_
        rintro _ w6 ⟨rfl, fw6, la6, git6⟩
        have fm6 := fw6.fm (q := 59) (by omega)
        have h6 := hm.gar fw6 (by omega)
        have hs6 := hsb.fw fw6 (by decide)
        have ke6 := sp_ke h6 hke ⟨rfl, rfl⟩
        refine j_castS dX10_text_31 (z_w 1859 ((lwt_8_4 14).trans rfl) (by decide +kernel)) rfl ?_
        refine j_callVB (v0 := .float _) (C := "java/lang/Integer") dX10_text_34 kJ6_intValue_8abf5 lX10_69 inJ6_intValue_8abf5 seJ6_intValue_8abf5 rfl (c_intv hl w6 x9) (Nat.le_of_ble_eq_true rfl) ⟨(by show _ ≤ 20; omega), (by show _ ≤ 640; omega)⟩ rfl (Nat.le_of_ble_eq_true rfl) rfl rfl (fun _ _ h => h.elim) ?_
        rintro _ _ ⟨rfl, hw912⟩
        refine j_w w6 hw912 ?_
        refine j_istore_n (lo' := [(3, _), (0, _), (1, _), (2, _)]) dX10_text_37 (by decide) rfl ?_
        refine j_aload_n dX10_text_38 rfl rfl ?_
        refine j_aload_n dX10_text_39 rfl rfl ?_
        obtain ⟨fs914, gs914⟩ := hs6.cell
        refine j_callV (q := (RJ4, TJ4, 4)) dX10_text_40 kJ4_length_8abf5 lX10_72 inJ4_length_8abf5 seJ4_length_8abf5 gs914 rfl (sb_len hl w6 56 x1 (bn) (bN) hs6) (Nat.le_of_ble_eq_true rfl) ⟨(by show _ ≤ 20; omega), (by show _ ≤ 640; omega)⟩ rfl (Nat.le_of_ble_eq_true rfl) rfl rfl (fun _ _ h => h.elim) ?_
        rintro _ _ ⟨rfl, hw915⟩
        refine j_w w6 hw915 ?_
        refine j_if_le (tgt := 51) dX10_text_43 (by decide) (fun c_43_75 => ?_) (fun c_43_75 => ?_)
        · have hb43 : (bn) ≤ 0 := (nI_leI (a := (bn)) (b := 0) (by omega) (by omega)).mp c_43_75
          refine j_ldcS (i := 12) dX10_text_51 rfl (Or.inr rfl) rfl rfl ?_
          have hnN916 := hs6.nN
          have hle916 := z_gr_le (N := bN) (m := (bn + 0))
          have hmx916 := z_gr_mx (N := bN) (m := (bn + 0)) (M := 120) (by omega) (by omega)
          obtain ⟨fs917, gs917⟩ := hs6.cell
          refine j_callV (q := (RJ4, TJ4, 4)) dX10_text_53 kJ4_append_15ec4 lX10_79 inJ4_append_15ec4 seJ4_append_15ec4 gs917 rfl (sb_apK hl w6 56 x1 (bn) (bN) 12 0 _ rfl (Or.inr rfl) (by decide) hs6 (by omega) (by omega) (by decide) h6.fn) (Nat.le_of_ble_eq_true rfl) ⟨(by show _ ≤ 20; omega), (by show _ ≤ 640; omega)⟩ rfl (Nat.le_of_ble_eq_true rfl) rfl rfl (fun _ _ h => h.elim) ?_
          rintro _ w7 ⟨rfl, fw7, hs7⟩
          have g7_it906 := fw7.g (Or.inr (by omega)) git6
          have fm7 := fw7.fm (q := 59) (by omega)
          have h7 := h6.gar fw7 (by omega)
          have ke7 := sp_ke h7 ke6 ⟨rfl, rfl⟩
          refine j_iload_n dX10_text_56 rfl ?_
          have hzs57 := z_sz_in x9
          have hnN918 := hs7.nN
          have hle918 := z_gr_le (N := (z_gr (bN) (bn + 0))) (m := ((bn + 0) + z_sz x9))
          have hmx918 := z_gr_mx (N := (z_gr (bN) (bn + 0))) (m := ((bn + 0) + z_sz x9)) (M := 120) (by omega) (by omega)
          obtain ⟨fs919, gs919⟩ := hs7.cell
          refine j_callV (q := (RJ4, TJ4, 4)) dX10_text_57 kJ4_append_bf812 lX10_83 inJ4_append_bf812 seJ4_append_bf812 gs919 rfl (sb_apI hl w7 56 x1 ((bn + 0)) ((z_gr (bN) (bn + 0))) x9 hs7 (by omega) (by omega) (by decide) h7.fn) (Nat.le_of_ble_eq_true rfl) ⟨(by show _ ≤ 20; omega), (by show _ ≤ 640; omega)⟩ rfl (Nat.le_of_ble_eq_true rfl) rfl rfl (fun _ _ h => h.elim) ?_
          rintro _ w8 ⟨rfl, fw8, hs8⟩
          have g8_it906 := fw8.g (Or.inr (by omega)) g7_it906
          have fm8 := fw8.fm (q := 59) (by omega)
          have h8 := h7.gar fw8 (by omega)
          have ke8 := sp_ke h8 ke7 ⟨rfl, rfl⟩
          refine j_pop dX10_text_60 rfl ?_
          refine j_goto (tgt := 16) dX10_text_61 (by decide) ?_
          refine j_widen (kc' := 2 + (z_gr ((z_gr (bN) (bn + 0))) ((bn + 0) + z_sz x9)) / 16) (ks' := 2 * (z_gr ((z_gr (bN) (bn + 0))) ((bn + 0) + z_sz x9))) (by omega) (by omega) ?_
          exact j_lo2 (ih w8 _ (k + 1) ((bn + 0) + z_sz x9) (z_gr ((z_gr (bN) (bn + 0))) ((bn + 0) + z_sz x9)) _ (by omega) (by omega) h8 (((hfm.tr fm6).tr fm7).tr fm8) ke8 (by first | omega | (show _ ≤ (z_ql s1 i).2.length; omega)) g8_it906 hs8 (by omega) (by omega) (by rw [sp_tkx hx9, sp_jl_s]; have h7 := sp_jl_z (L := (sp_E S i).2.take k); rw [← hjl] at h7 ⊢; split <;> omega)) (z_q1 rfl (z_q1 rfl (z_q1 rfl z_q0)))
        · have hb43 : 0 < (bn) := Nat.not_le.mp (fun z => c_43_75 ((nI_leI (a := (bn)) (b := 0) (by omega) (by omega)).mpr z))
          refine j_ldcS (i := 11) dX10_text_46 rfl (Or.inr rfl) rfl rfl ?_
          refine j_goto (tgt := 53) dX10_text_48 (by decide) ?_
          have hnN920 := hs6.nN
          have hle920 := z_gr_le (N := bN) (m := (bn + 1))
          have hmx920 := z_gr_mx (N := bN) (m := (bn + 1)) (M := 120) (by omega) (by omega)
          obtain ⟨fs921, gs921⟩ := hs6.cell
          refine j_callV (q := (RJ4, TJ4, 4)) dX10_text_53 kJ4_append_15ec4 lX10_79 inJ4_append_15ec4 seJ4_append_15ec4 gs921 rfl (sb_apK hl w6 56 x1 (bn) (bN) 11 1 _ rfl (Or.inr rfl) (by decide) hs6 (by omega) (by omega) (by decide) h6.fn) (Nat.le_of_ble_eq_true rfl) ⟨(by show _ ≤ 20; omega), (by show _ ≤ 640; omega)⟩ rfl (Nat.le_of_ble_eq_true rfl) rfl rfl (fun _ _ h => h.elim) ?_
          rintro _ w9 ⟨rfl, fw9, hs9⟩
          have g9_it906 := fw9.g (Or.inr (by omega)) git6
          have fm9 := fw9.fm (q := 59) (by omega)
          have h9 := h6.gar fw9 (by omega)
          have ke9 := sp_ke h9 ke6 ⟨rfl, rfl⟩
          refine j_iload_n dX10_text_56 rfl ?_
          have hzs57 := z_sz_in x9
          have hnN922 := hs9.nN
          have hle922 := z_gr_le (N := (z_gr (bN) (bn + 1))) (m := ((bn + 1) + z_sz x9))
          have hmx922 := z_gr_mx (N := (z_gr (bN) (bn + 1))) (m := ((bn + 1) + z_sz x9)) (M := 120) (by omega) (by omega)
          obtain ⟨fs923, gs923⟩ := hs9.cell
          refine j_callV (q := (RJ4, TJ4, 4)) dX10_text_57 kJ4_append_bf812 lX10_83 inJ4_append_bf812 seJ4_append_bf812 gs923 rfl (sb_apI hl w9 56 x1 ((bn + 1)) ((z_gr (bN) (bn + 1))) x9 hs9 (by omega) (by omega) (by decide) h9.fn) (Nat.le_of_ble_eq_true rfl) ⟨(by show _ ≤ 20; omega), (by show _ ≤ 640; omega)⟩ rfl (Nat.le_of_ble_eq_true rfl) rfl rfl (fun _ _ h => h.elim) ?_
          rintro _ w10 ⟨rfl, fw10, hs10⟩
          have g10_it906 := fw10.g (Or.inr (by omega)) g9_it906
          have fm10 := fw10.fm (q := 59) (by omega)
          have h10 := h9.gar fw10 (by omega)
          have ke10 := sp_ke h10 ke9 ⟨rfl, rfl⟩
          refine j_pop dX10_text_60 rfl ?_
          refine j_goto (tgt := 16) dX10_text_61 (by decide) ?_
          refine j_widen (kc' := 2 + (z_gr ((z_gr (bN) (bn + 1))) ((bn + 1) + z_sz x9)) / 16) (ks' := 2 * (z_gr ((z_gr (bN) (bn + 1))) ((bn + 1) + z_sz x9))) (by omega) (by omega) ?_
          exact j_lo2 (ih w10 _ (k + 1) ((bn + 1) + z_sz x9) (z_gr ((z_gr (bN) (bn + 1))) ((bn + 1) + z_sz x9)) _ (by omega) (by omega) h10 (((hfm.tr fm6).tr fm9).tr fm10) ke10 (by first | omega | (show _ ≤ (z_ql s1 i).2.length; omega)) g10_it906 hs10 (by omega) (by omega) (by rw [sp_tkx hx9, sp_jl_s]; have h7 := sp_jl_z (L := (sp_E S i).2.take k); rw [← hjl] at h7 ⊢; split <;> omega)) (z_q1 rfl (z_q1 rfl (z_q1 rfl z_q0)))
  refine j_widen (kc' := 2 + 16 / 16) (ks' := 2 * 16) (by decide) (by decide) ?_
  exact j_lo2 (loop16 (10 + 1) w3 _ 0 0 16 _ (by omega) (by omega) h3 (((fw1.fm (q := 59) (by omega)).tr fm2).tr fm3) ke3 (Nat.zero_le _) git906 hs3 (by omega) (by omega) rfl) (z_q1 rfl (z_q1 rfl (z_q1 rfl z_q0)))
set_option maxRecDepth 100000 in
set_option maxHeartbeats 16000000 in
theorem cy_digest (hl : l.stackTraces = false) (w : z_W) (S : sp_S) (s : z_Z)  (h : z_mst w s) (R : sp_MR S s) (ok : sp_ok S) : z_Con G l mX11_digest 24 56 1349 w [.ref 1000] (fun v w9 => ∃ (s9 : z_Z), v = some (.long (sp_dg S)) ∧ z_fm 59 w w9 ∧ z_mst w9 s9 ∧ sp_MR S s9) (fun _ _ => False) := by
  generalize hQ9 : (fun (v : Option Value) (w9 : z_W) => ∃ (s9 : z_Z), v = some (.long (sp_dg S)) ∧ z_fm 59 w w9 ∧ z_mst w9 s9 ∧ sp_MR S s9) = Q9
  refine z_body hl (by decide) rfl (Nat.le_of_ble_eq_true rfl) ?_
  show z_J G l mX11_digest _ 0 [(0, _)] [] _ 0 0
  refine j_aload_n dX11_digest_0 rfl rfl ?_
  refine j_iconst (v := 0) dX11_digest_1 (by decide) ?_
  refine j_put (w' := _) dX11_digest_2 fX11_48 tX11_0 h.m ⟨rfl, rfl⟩ rfl ?_
  refine j_seal (by omega) ?_
  intro w1 u1
  have fw1 := u1.fw (ρ := 40) (by omega) (by omega)
  have h1 := h.up40 fw1 u1.1
  have R1 := R.th (k := 0)
  refine j_ldc2 dX11_digest_5 kcX11_245 ?_
  refine j_lstore_n (lo' := [(1, _), (0, _)]) dX11_digest_8 (by decide) rfl ?_
  refine j_iconst (v := 0) dX11_digest_9 (by decide) ?_
  refine j_istore_n (lo' := [(3, _), (1, _), (0, _)]) dX11_digest_10 (by decide) rfl ?_
  have loop11 : ∀ (n1 : Nat) (w2 : z_W) (s1 : z_Z) (q : Nat) (d1 : Int64), (q ≤ 5) → (5 < q + n1) → (d1 = sp_mxl 7774 ((List.range q).map (sp_hsv S))) → (sp_MR S s1) → (z_mst w2 s1) → (z_fm 59 w w2) → z_J G l mX11_digest (24, 56, 1349, w, Q9, (fun _ _ => False)) 11 [(0, .ref 1000), (1, .long d1), (3, .int (nI q))] [] w2 (2 * q) (9 * q) := by
    intro n1
    induction n1 with
    | zero => intro w2 s1 q d1 h1a h1b hd1 hR hm hfm; exact absurd h1b (by omega)
    | succ n1 ih1 =>
      intro w2 s1 q d1 h1a h1b hd1 hR hm hfm
      refine j_iload_n dX11_digest_11 rfl ?_
      refine j_iconst (v := 5) dX11_digest_12 (by decide) ?_
      refine j_icmp_ge (tgt := 33) dX11_digest_13 (by decide) (fun c_13_22 => ?_) (fun c_13_22 => ?_)
      · have hb13 : 5 ≤ q := (nI_leI (a := 5) (b := q) (by omega) (by omega)).mp c_13_22
        refine j_iconst (v := 0) dX11_digest_33 (by decide) ?_
        refine j_istore_n (lo' := [(3, _), (0, _), (1, _)]) dX11_digest_34 (by decide) rfl ?_
        have loop35 : ∀ (n2 : Nat) (w3 : z_W) (s2 : z_Z) (ro : Nat) (d2 : Int64), (ro ≤ 2) → (2 < ro + n2) → (d2 = sp_mxl (sp_d1 S) (sp_rws S ro)) → (sp_MR S s2) → (z_mst w3 s2) → (z_fm 59 w w3) → z_J G l mX11_digest (24, 56, 1349, w, Q9, (fun _ _ => False)) 35 [(0, .ref 1000), (1, .long d2), (3, .int (nI ro))] [] w3 (10 + ro) (45 + 4 * ro) := by
          intro n2
          induction n2 with
          | zero => intro w3 s2 ro d2 h2a h2b hd2 hR hm hfm; exact absurd h2b (by omega)
          | succ n2 ih2 =>
            intro w3 s2 ro d2 h2a h2b hd2 hR hm hfm
            refine j_iload_n dX11_digest_35 rfl ?_
            refine j_iconst (v := 2) dX11_digest_36 (by decide) ?_
            refine j_icmp_ge (tgt := 163) dX11_digest_37 (by decide) (fun c_37_34 => ?_) (fun c_37_34 => ?_)
            · have hb37 : 2 ≤ ro := (nI_leI (a := 2) (b := ro) (by omega) (by omega)).mp c_37_34
              refine j_aload_n dX11_digest_163 rfl rfl ?_
              refine j_getf dX11_digest_164 fX11_34 hm.m rfl ?_
              obtain ⟨lv890, -, lg890⟩ := z_li.cell hm.tabs
              refine j_callV (q := (RJx4a65c, TJx4a65c, 3)) dX11_digest_167 kJx4a65c_iterator_32c93 lX11_162 inJx4a65c_iterator_32c93 seJx4a65c_iterator_32c93 lg890 rfl (cl_iter hl w3 58 (47) _ _ _ hm.tabs (by decide) (by omega) hm.fn) (Nat.le_of_ble_eq_true rfl) ⟨(by show _ ≤ 56; omega), (by show _ ≤ 1349; omega)⟩ rfl (Nat.le_of_ble_eq_true rfl) rfl rfl (fun _ _ h => h.elim) ?_
              rintro _ w4 ⟨it889, rfl, fw4, hita889, hitb889, hitc889, la889, git889⟩
              have hita889 : 1000 ≤ it889 := hita889
              have hitb889 : it889 % 64 = 58 := hitb889
              have fm4 := fw4.fm (q := 59) (by omega)
              have h4 := hm.gar fw4 (by omega)
              refine j_astore_n (lo' := [(3, _), (0, _), (1, _)]) dX11_digest_170 rfl (by decide) rfl ?_
              have loop171 : ∀ (n5 : Nat) (w5 : z_W) (s5 : z_Z) (ta : Nat) (d5 : Int64) (la : Int32), (ta ≤ 3) → (3 < ta + n5) → (d5 = sp_mxl (sp_d2 S) (sp_tbs S ta)) → (sp_MR S s5) → (z_mst w5 s5) → (z_fm 59 w w5) → (z_g w5 it889 = some (.inr (3, [.int (nI ta), .int la, .int (z_qt s5), .ref 1007]))) → z_J G l mX11_digest (24, 56, 1349, w, Q9, (fun _ _ => False)) 171 [(0, .ref 1000), (1, .long d5), (3, .ref it889)] [] w5 (13 + ta) (57 + 4 * ta) := by
                intro n5
                induction n5 with
                | zero => intro w5 s5 ta d5 la h5a h5b hd5 hR hm hfm git; exact absurd h5b (by omega)
                | succ n5 ih5 =>
                  intro w5 s5 ta d5 la h5a h5b hd5 hR hm hfm git
                  refine j_aload_n dX11_digest_171 rfl rfl ?_
                  refine j_callF (x := ⟨"java/util/Iterator", "hasNext", "()Z"⟩) (q := (RJx35411, TJx35411, 4)) dX11_digest_172 kJx35411_hasNext_aae02 ⟨(z_w 1765 ((lwt_8_1 10).trans rfl) (by decide +kernel)), (z_w 1769 ((lwt_8_1 14).trans rfl) (by decide +kernel)), inJx35411_hasNext_aae02, ⟨by decide, by decide⟩, rfl, fun U h => h.2.1⟩ git rfl (cl_hasN hl w5 _ (47) _ (ta) _ _ hm.tabs ⟨_, git⟩ (by show _ ≤ 3; omega)) (Nat.le_of_ble_eq_true rfl) ⟨(by show _ ≤ 56; omega), (by show _ ≤ 1349; omega)⟩ rfl (Nat.le_of_ble_eq_true rfl) rfl ?_
                  rintro _ _ ⟨⟨x891, rfl, hz891, hp891⟩, hw891⟩
                  refine j_w w5 hw891 ?_
                  refine j_if_eq (tgt := 255) dX11_digest_177 (by decide) (fun c_177_56 => ?_) (fun c_177_56 => ?_)
                  · have hk177 : ta = 3 := hz891 c_177_56
                    refine j_iconst (v := 0) dX11_digest_255 (by decide) ?_
                    refine j_istore_n (lo' := [(3, _), (0, _), (1, _)]) dX11_digest_256 (by decide) rfl ?_
                    have loop257 : ∀ (n7 : Nat) (w6 : z_W) (s7 : z_Z) (q7 : Nat) (d7 : Int64), (q7 ≤ 7) → (7 < q7 + n7) → (d7 = sp_mxl (sp_d3 S) ((List.range q7).map (sp_C S 2))) → (sp_MR S s7) → (z_mst w6 s7) → (z_fm 59 w w6) → z_J G l mX11_digest (24, 56, 1349, w, Q9, (fun _ _ => False)) 257 [(0, .ref 1000), (1, .long d7), (3, .int (nI q7))] [] w6 16 69 := by
                      intro n7
                      induction n7 with
                      | zero => intro w6 s7 q7 d7 h7a h7b hd7 hR hm hfm; exact absurd h7b (by omega)
                      | succ n7 ih7 =>
                        intro w6 s7 q7 d7 h7a h7b hd7 hR hm hfm
                        refine j_iload_n dX11_digest_257 rfl ?_
                        refine j_bipush (v := 7) dX11_digest_258 (by decide) ?_
                        refine j_icmp_ge (tgt := 283) dX11_digest_260 (by decide) (fun c_260_68 => ?_) (fun c_260_68 => ?_)
                        · have hb260 : 7 ≤ q7 := (nI_leI (a := 7) (b := q7) (by omega) (by omega)).mp c_260_68
                          refine j_iconst (v := 0) dX11_digest_283 (by decide) ?_
                          refine j_istore_n (lo' := [(3, _), (0, _), (1, _)]) dX11_digest_284 (by decide) rfl ?_
                          have loop285 : ∀ (n8 : Nat) (w7 : z_W) (s8 : z_Z) (he : Nat) (d8 : Int64), (he ≤ 2) → (2 < he + n8) → (d8 = sp_mxl (sp_d4 S) (sp_hes S he)) → (sp_MR S s8) → (z_mst w7 s8) → (z_fm 59 w w7) → z_J G l mX11_digest (24, 56, 1349, w, Q9, (fun _ _ => False)) 285 [(0, .ref 1000), (1, .long d8), (3, .int (nI he))] [] w7 (16 + 20 * he) (69 + 640 * he) := by
                            intro n8
                            induction n8 with
                            | zero => intro w7 s8 he d8 h8a h8b hd8 hR hm hfm; exact absurd h8b (by omega)
                            | succ n8 ih8 =>
                              intro w7 s8 he d8 h8a h8b hd8 hR hm hfm
                              refine j_iload_n dX11_digest_285 rfl ?_
                              refine j_iconst (v := 2) dX11_digest_286 (by decide) ?_
                              refine j_icmp_ge (tgt := 342) dX11_digest_287 (by decide) (fun c_287_80 => ?_) (fun c_287_80 => ?_)
                              · have hb287 : 2 ≤ he := (nI_leI (a := 2) (b := he) (by omega) (by omega)).mp c_287_80
                                refine j_lload_n dX11_digest_342 rfl ?_
                                refine j_aload_n dX11_digest_343 rfl rfl ?_
                                refine j_callV (q := (RX11, TX11, 8)) dX11_digest_344 kX11_isTrue lX11_240 inX11_isTrue seX11_isTrue hm.m rfl (cx_isTrue hl w7 _ _ hm hR ok) (Nat.le_of_ble_eq_true rfl) ⟨(by show _ ≤ 56; omega), (by show _ ≤ 1349; omega)⟩ rfl (Nat.le_of_ble_eq_true rfl) rfl rfl (fun _ _ h => h.elim) ?_
                                rintro _ _ ⟨rfl, hw892⟩
                                refine j_w w7 hw892 ?_
                                refine j_callS dX11_digest_347 kX11_one lX11_68 stX11_one (cm_one_r hl w7 true) (Nat.le_of_ble_eq_true rfl) ⟨(by show _ ≤ 56; omega), (by show _ ≤ 1349; omega)⟩ rfl (Nat.le_of_ble_eq_true rfl) rfl rfl (fun _ _ h => h.elim) ?_
                                rintro _ _ ⟨rfl, hw893⟩
                                refine j_w w7 hw893 ?_
                                refine j_i2l dX11_digest_350 ?_
                                refine j_callS dX11_digest_351 kX11_add lX11_247 stX11_add (cy_add hl w7 _ _) (Nat.le_of_ble_eq_true rfl) ⟨(by show _ ≤ 56; omega), (by show _ ≤ 1349; omega)⟩ rfl (Nat.le_of_ble_eq_true rfl) rfl rfl (fun _ _ h => h.elim) ?_
                                rintro _ _ ⟨rfl, hw894⟩
                                refine j_w w7 hw894 ?_
                                refine j_lret dX11_digest_354 rfl ?_ (by show _ ≤ 56; omega) (by show _ ≤ 1349; omega)
                                refine cast (congrFun (congrFun hQ9 _) _) ?_
                                exact ⟨_, congrArg (fun z => some (Value.long z)) (by have e9 : he = 2 := (by omega); rw [hd8, e9]; exact sp_e5), hfm, hm, hR⟩
                              · have hb287 : he < 2 := Nat.not_le.mp (fun z => c_287_80 ((nI_leI (a := 2) (b := he) (by omega) (by omega)).mpr z))
                                refine j_iconst (v := 0) dX11_digest_290 (by decide) ?_
                                refine j_istore (lo' := [(4, _), (0, _), (1, _), (3, _)]) dX11_digest_291 (by decide) rfl ?_
                                have loop293 : ∀ (n9 : Nat) (w8 : z_W) (s9 : z_Z) (q9 : Nat) (d9 : Int64), (q9 ≤ 4) → (4 < q9 + n9) → (d9 = sp_mxl d8 ((List.range q9).map (fun i => sp_tel (sp_E S he) (nI i)))) → (sp_MR S s9) → (z_mst w8 s9) → (z_fm 59 w w8) → z_J G l mX11_digest (24, 56, 1349, w, Q9, (fun _ _ => False)) 293 [(0, .ref 1000), (1, .long d9), (3, .int (nI he)), (4, .int (nI q9))] [] w8 (16 + 20 * he) (69 + 640 * he) := by
                                  intro n9
                                  induction n9 with
                                  | zero => intro w8 s9 q9 d9 h9a h9b hd9 hR hm hfm; exact absurd h9b (by omega)
                                  | succ n9 ih9 =>
                                    intro w8 s9 q9 d9 h9a h9b hd9 hR hm hfm
                                    refine j_iload dX11_digest_293 rfl ?_
                                    refine j_iconst (v := 4) dX11_digest_295 (by decide) ?_
                                    refine j_icmp_ge (tgt := 318) dX11_digest_296 (by decide) (fun c_296_108 => ?_) (fun c_296_108 => ?_)
                                    · have hb296 : 4 ≤ q9 := (nI_leI (a := 4) (b := q9) (by omega) (by omega)).mp c_296_108
                                      refine j_lload_n dX11_digest_318 rfl ?_
                                      refine j_aload_n dX11_digest_319 rfl rfl ?_
                                      refine j_getf dX11_digest_320 fX11_40 hm.m rfl ?_
                                      refine j_iload_n dX11_digest_323 rfl ?_
                                      obtain ⟨fz895, gz895, hz895⟩ := hm.hs
                                      refine j_aald (v := .ref (1009 + he)) dX11_digest_324 gz895 rfl rfl (vp_in_nI (by omega) (by omega)) (by rw [z_cla (by omega)]; exact hz895 _ (by omega)) ?_
                                      refine j_callVN (q := (RX10, TX10, 5)) dX11_digest_325 kX10_text lX11_210 inX10_text seX10_text (hm.hd (i := he) (by omega)) rfl (cy_textH hl w8 S _ (he) hm hR (by omega)) (Nat.le_of_ble_eq_true rfl) ⟨(by show _ ≤ 56; omega), (by show _ ≤ 1349; omega)⟩ rfl (Nat.le_of_ble_eq_true rfl) rfl rfl (fun _ _ h => h.elim) ?_
                                      rintro _ w9 ⟨r9, s9, rfl, fm9, h9, R9, ht9⟩
                                      obtain ⟨fs896, gs896⟩ := ht9.cell
                                      refine j_callV (q := (RJ0, TJ0, 4)) dX11_digest_328 kJ0_length_8abf5 lX11_250 inJ0_length_8abf5 (z_w 781 ((lwg_4 16).trans rfl) (by decide +kernel)) gs896 rfl (tx_len hl w9 57 r9 _ ht9) (Nat.le_of_ble_eq_true rfl) ⟨(by show _ ≤ 56; omega), (by show _ ≤ 1349; omega)⟩ rfl (Nat.le_of_ble_eq_true rfl) rfl rfl (fun _ _ h => h.elim) ?_
                                      rintro _ _ ⟨rfl, hw896⟩
                                      refine j_w w9 hw896 ?_
                                      refine j_i2l dX11_digest_331 ?_
                                      refine j_callS dX11_digest_332 kX11_add lX11_247 stX11_add (cy_add hl w9 _ _) (Nat.le_of_ble_eq_true rfl) ⟨(by show _ ≤ 56; omega), (by show _ ≤ 1349; omega)⟩ rfl (Nat.le_of_ble_eq_true rfl) rfl rfl (fun _ _ h => h.elim) ?_
                                      rintro _ _ ⟨rfl, hw897⟩
                                      refine j_w w9 hw897 ?_
                                      refine j_lstore_n (lo' := [(1, _), (0, _), (3, _), (4, _)]) dX11_digest_335 (by decide) rfl ?_
                                      refine j_iinc (lo' := [(3, _), (1, _), (0, _), (4, _)]) dX11_digest_336 rfl (z_inc _) (by decide) rfl ?_
                                      refine j_goto (tgt := 285) dX11_digest_339 (by decide) ?_
                                      refine j_widen (kc' := 16 + 20 * (he + 1)) (ks' := 69 + 640 * (he + 1)) (by omega) (by omega) ?_
                                      exact j_lo2 (ih8 w9 _ (he + 1) _ (by omega) (by omega) (by have e9 : q9 = 4 := (by omega); rw [hd9, e9, hd8]; exact sp_heaE) R9 h9 (hfm.tr (fm9.le (q' := 59) (by decide)))) (z_q1 rfl (z_q1 rfl (z_q1 rfl z_q0)))
                                    · have hb296 : q9 < 4 := Nat.not_le.mp (fun z => c_296_108 ((nI_leI (a := 4) (b := q9) (by omega) (by omega)).mpr z))
                                      refine j_lload_n dX11_digest_299 rfl ?_
                                      refine j_aload_n dX11_digest_300 rfl rfl ?_
                                      refine j_iload_n dX11_digest_301 rfl ?_
                                      refine j_iload dX11_digest_302 rfl ?_
                                      refine j_callV (q := (RX11, TX11, 8)) dX11_digest_304 kX11_heardTold lX11_205 inX11_heardTold seX11_heardTold hm.m rfl (cx_heardTold hl w8 _ _ (he) _ hm hR (by omega)) (Nat.le_of_ble_eq_true rfl) ⟨(by show _ ≤ 56; omega), (by show _ ≤ 1349; omega)⟩ rfl (Nat.le_of_ble_eq_true rfl) rfl rfl (fun _ _ h => h.elim) ?_
                                      rintro _ _ ⟨rfl, hw898⟩
                                      refine j_w w8 hw898 ?_
                                      refine j_i2l dX11_digest_307 ?_
                                      refine j_callS dX11_digest_308 kX11_add lX11_247 stX11_add (cy_add hl w8 _ _) (Nat.le_of_ble_eq_true rfl) ⟨(by show _ ≤ 56; omega), (by show _ ≤ 1349; omega)⟩ rfl (Nat.le_of_ble_eq_true rfl) rfl rfl (fun _ _ h => h.elim) ?_
                                      rintro _ _ ⟨rfl, hw899⟩
                                      refine j_w w8 hw899 ?_
                                      refine j_lstore_n (lo' := [(1, _), (0, _), (3, _), (4, _)]) dX11_digest_311 (by decide) rfl ?_
                                      refine j_iinc (lo' := [(4, _), (1, _), (0, _), (3, _)]) dX11_digest_312 rfl (z_inc _) (by decide) rfl ?_
                                      refine j_goto (tgt := 293) dX11_digest_315 (by decide) ?_
                                      refine j_widen (kc' := 16 + 20 * he) (ks' := 69 + 640 * he) (by omega) (by omega) ?_
                                      exact j_lo2 (ih9 w8 _ (q9 + 1) _ (by omega) (by omega) (by rw [hd9, sp_rg, sp_mxl_s] <;> rfl) hR hm hfm) (z_q1 rfl (z_q1 rfl (z_q1 rfl (z_q1 rfl z_q0))))
                                refine j_widen (kc' := 16 + 20 * he) (ks' := 69 + 640 * he) (by omega) (by omega) ?_
                                exact j_lo2 (loop293 5 w7 _ 0 _ (by omega) (by omega) sp_mxl_nil.symm hR hm hfm) (z_q1 rfl (z_q1 rfl (z_q1 rfl (z_q1 rfl z_q0))))
                          refine j_widen (kc' := 16 + 20 * 0) (ks' := 69 + 640 * 0) (by omega) (by omega) ?_
                          exact j_lo2 (loop285 3 w6 _ 0 _ (by omega) (by omega) (by have e9 : q7 = 7 := (by omega); rw [hd7, e9]; exact sp_e4) hR hm hfm) (z_q1 rfl (z_q1 rfl (z_q1 rfl z_q0)))
                        · have hb260 : q7 < 7 := Nat.not_le.mp (fun z => c_260_68 ((nI_leI (a := 7) (b := q7) (by omega) (by omega)).mpr z))
                          refine j_lload_n dX11_digest_263 rfl ?_
                          refine j_aload_n dX11_digest_264 rfl rfl ?_
                          refine j_getf dX11_digest_265 fX11_31 hm.m rfl ?_
                          refine j_iconst (v := 2) dX11_digest_268 (by decide) ?_
                          obtain ⟨fz900, gz900, hz900⟩ := hm.co
                          refine j_aald (v := .ref (1004 + 2)) dX11_digest_269 gz900 rfl rfl (vp_in_nI (n := 2) (by decide) (by decide)) (by rw [show (2 : Int32).toNatClampNeg = 2 by decide]; exact hz900 _ (by decide)) ?_
                          refine j_iload_n dX11_digest_270 rfl ?_
                          refine j_ld dX11_digest_271 (hm.cn (i := 2) (by decide)) (vp_in_nI (by omega) (by omega)) ?_
                          refine j_top (congrArg Value.int (show _ = sp_C S 2 (q7) from by rw [z_cla (by omega)]; exact hR.c (by omega) (by omega))) ?_
                          refine j_i2l dX11_digest_272 ?_
                          refine j_callS dX11_digest_273 kX11_add lX11_247 stX11_add (cy_add hl w6 _ _) (Nat.le_of_ble_eq_true rfl) ⟨(by show _ ≤ 56; omega), (by show _ ≤ 1349; omega)⟩ rfl (Nat.le_of_ble_eq_true rfl) rfl rfl (fun _ _ h => h.elim) ?_
                          rintro _ _ ⟨rfl, hw902⟩
                          refine j_w w6 hw902 ?_
                          refine j_lstore_n (lo' := [(1, _), (0, _), (3, _)]) dX11_digest_276 (by decide) rfl ?_
                          refine j_iinc (lo' := [(3, _), (1, _), (0, _)]) dX11_digest_277 rfl (z_inc _) (by decide) rfl ?_
                          refine j_goto (tgt := 257) dX11_digest_280 (by decide) ?_
                          refine j_widen (kc' := 16) (ks' := 69) (by omega) (by omega) ?_
                          exact j_lo2 (ih7 w6 _ (q7 + 1) _ (by omega) (by omega) (by rw [hd7, sp_rg, sp_mxl_s] <;> rfl) hR hm hfm) (z_q1 rfl (z_q1 rfl (z_q1 rfl z_q0)))
                    refine j_widen (kc' := 16) (ks' := 69) (by omega) (by omega) ?_
                    exact j_lo2 (loop257 8 w5 _ 0 _ (by omega) (by omega) (by have e9 : ta = 3 := (by omega); rw [hd5, e9]; exact sp_e3) hR hm hfm) (z_q1 rfl (z_q1 rfl (z_q1 rfl z_q0)))
                  · have hk177 : ta < 3 := hp891 c_177_56
                    refine j_aload_n dX11_digest_180 rfl rfl ?_
                    refine j_callF (x := ⟨"java/util/Iterator", "next", "()Ljava/lang/Object;"⟩) (q := (RJx35411, TJx35411, 4)) dX11_digest_181 kJx35411_next_0502b ⟨(z_w 1775 ((lwt_8_1 20).trans rfl) (by decide +kernel)), (z_w 1778 ((lwt_8_1 23).trans rfl) (by decide +kernel)), inJx35411_next_0502b, ⟨by decide, by decide⟩, rfl, fun U h => h.2.2.1⟩ git rfl (cl_next hl w5 58 it889 (47) _ (ta) _ _ _ hm.tabs ⟨_, git⟩ (z_thr3 (t := ta) (by omega)) hita889 hitb889 (by omega)) (Nat.le_of_ble_eq_true rfl) ⟨(by show _ ≤ 56; omega), (by show _ ≤ 1349; omega)⟩ rfl (Nat.le_of_ble_eq_true rfl) rfl ?_
                    rintro _ w10 ⟨rfl, fw10, la10, git10⟩
                    have fm10 := fw10.fm (q := 59) (by omega)
                    have h10 := hm.gar fw10 (by omega)
                    refine j_castS dX11_digest_186 (z_w 1341 ((lwt_6_3 6).trans rfl) (by decide +kernel)) (z_li.is (h10.tb (t := ta) (by omega))) ?_
                    refine j_astore (lo' := [(4, _), (0, _), (1, _), (3, _)]) dX11_digest_189 rfl (by decide) rfl ?_
                    refine j_lload_n dX11_digest_191 rfl ?_
                    refine j_aload dX11_digest_192 rfl rfl ?_
                    obtain ⟨lv905, -, lg905⟩ := z_li.cell (h10.tb (t := ta) (by omega))
                    refine j_callV (q := (RJx4a65c, TJx4a65c, 3)) dX11_digest_194 kJx4a65c_size_8abf5 lX11_86 inJx4a65c_size_8abf5 seJx4a65c_size_8abf5 lg905 rfl (cl_sizeT hl w10 (ta) (sp_T S (ta)) h10 hR (by omega) rfl) (Nat.le_of_ble_eq_true rfl) ⟨(by show _ ≤ 56; omega), (by show _ ≤ 1349; omega)⟩ rfl (Nat.le_of_ble_eq_true rfl) rfl rfl (fun _ _ h => h.elim) ?_
                    rintro _ _ ⟨rfl, hw906⟩
                    refine j_w w10 hw906 ?_
                    have hz906 : (sp_T S (ta)).length ≤ 20 := hR.l20 h10 (t := ta) (by omega) rfl
                    refine j_i2l dX11_digest_197 ?_
                    refine j_callS dX11_digest_198 kX11_add lX11_247 stX11_add (cy_add hl w10 _ _) (Nat.le_of_ble_eq_true rfl) ⟨(by show _ ≤ 56; omega), (by show _ ≤ 1349; omega)⟩ rfl (Nat.le_of_ble_eq_true rfl) rfl rfl (fun _ _ h => h.elim) ?_
                    rintro _ _ ⟨rfl, hw907⟩
                    refine j_w w10 hw907 ?_
                    refine j_lstore_n (lo' := [(1, _), (4, _), (0, _), (3, _)]) dX11_digest_201 (by decide) rfl ?_
                    refine j_aload dX11_digest_202 rfl rfl ?_
                    obtain ⟨lv909, -, lg909⟩ := z_li.cell (h10.tb (t := ta) (by omega))
                    refine j_callV (q := (RJx4a65c, TJx4a65c, 3)) dX11_digest_204 kJx4a65c_iterator_32c93 lX11_162 inJx4a65c_iterator_32c93 seJx4a65c_iterator_32c93 lg909 rfl (cl_iter hl w10 57 (51 + ta) _ _ _ (h10.tb (t := ta) (by omega)) (by decide) (by omega) h10.fn) (Nat.le_of_ble_eq_true rfl) ⟨(by show _ ≤ 56; omega), (by show _ ≤ 1349; omega)⟩ rfl (Nat.le_of_ble_eq_true rfl) rfl rfl (fun _ _ h => h.elim) ?_
                    rintro _ w11 ⟨it908, rfl, fw11, hita908, hitb908, hitc908, la908, git908⟩
                    have hita908 : 1000 ≤ it908 := hita908
                    have hitb908 : it908 % 64 = 57 := hitb908
                    have n_it889_it908 := z_neF hitc908 git10
                    have g11_it889 := fw11.g (Or.inr (by omega)) git10
                    have fm11 := fw11.fm (q := 59) (by omega)
                    have h11 := h10.gar fw11 (by omega)
                    refine j_astore (lo' := [(5, _), (1, _), (4, _), (0, _), (3, _)]) dX11_digest_207 rfl (by decide) rfl ?_
                    have loop209 : ∀ (n6 : Nat) (w12 : z_W) (s6 : z_Z) (k : Nat) (d6 : Int64) (la lb : Int32), (20 < k + n6) → (k ≤ (sp_T S ta).length) → (d6 = sp_mxl (sp_mx d5 (nI (sp_T S ta).length)) (sp_tbl ((sp_T S ta).take k))) → (sp_MR S s6) → (z_mst w12 s6) → (z_fm 59 w w12) → (z_g w12 it908 = some (.inr (3, [.int (nI k), .int la, .int (z_qp s6 ta).1, .ref (1011 + ta)]))) → (z_g w12 it889 = some (.inr (3, [.int (nI (ta + 1)), .int lb, .int (z_qt s6), .ref 1007]))) → z_J G l mX11_digest (24, 56, 1349, w, Q9, (fun _ _ => False)) 209 [(0, .ref 1000), (1, .long d6), (3, .ref it889), (5, .ref it908)] [] w12 (14 + ta) (61 + 4 * ta) := by
                      intro n6
                      induction n6 with
                      | zero => intro w12 s6 k d6 la lb h6b h6c hd6 hR hm hfm git6 git7; exact absurd h6b (by omega)
                      | succ n6 ih6 =>
                        intro w12 s6 k d6 la lb h6b h6c hd6 hR hm hfm git6 git7
                        refine j_aload dX11_digest_209 rfl rfl ?_
                        refine j_callF (x := ⟨"java/util/Iterator", "hasNext", "()Z"⟩) (q := (RJx35411, TJx35411, 4)) dX11_digest_211 kJx35411_hasNext_aae02 ⟨(z_w 1765 ((lwt_8_1 10).trans rfl) (by decide +kernel)), (z_w 1769 ((lwt_8_1 14).trans rfl) (by decide +kernel)), inJx35411_hasNext_aae02, ⟨by decide, by decide⟩, rfl, fun U h => h.2.1⟩ git6 rfl (cl_hasN hl w12 _ (51 + ta) _ (k) _ _ (hm.tb (t := ta) (by omega)) ⟨_, git6⟩ (by rw [z_rs_len, hR.tlB (by omega) rfl]; omega)) (Nat.le_of_ble_eq_true rfl) ⟨(by show _ ≤ 56; omega), (by show _ ≤ 1349; omega)⟩ rfl (Nat.le_of_ble_eq_true rfl) rfl ?_
                        rintro _ _ ⟨⟨x910, rfl, hz910, hp910⟩, hw910⟩
                        refine j_w w12 hw910 ?_
                        rw [z_rs_len, hR.tlB (by omega) rfl] at hz910 hp910
                        refine j_if_eq (tgt := 252) dX11_digest_216 (by decide) (fun c_216_215 => ?_) (fun c_216_215 => ?_)
                        · have hk216 : k = (sp_T S (ta)).length := hz910 c_216_215
                          refine j_goto (tgt := 171) dX11_digest_252 (by decide) ?_
                          refine j_widen (kc' := 13 + (ta + 1)) (ks' := 57 + 4 * (ta + 1)) (by omega) (by omega) ?_
                          exact j_lo2 (ih5 w12 _ (ta + 1) _ _ (by omega) (by omega) (by rw [hd6, hk216, List.take_length, hd5]; exact sp_tabE) hR hm hfm git7) (z_q1 rfl (z_q1 rfl (z_q1 rfl z_q0)))
                        · have hk216 : k < (sp_T S (ta)).length := hp910 c_216_215
                          refine j_aload dX11_digest_219 rfl rfl ?_
                          obtain ⟨e911, he911⟩ : ∃ e, (sp_T S (ta))[k]? = some e := ⟨_, List.getElem?_eq_getElem (show k < (sp_T S (ta)).length by omega)⟩
                          obtain ⟨p911, hp911, hq911, hk911, hv0911, hv1911, hv2911⟩ := hR.prB hm (t := ta) (k := k) (by omega) rfl he911
                          refine j_callF (x := ⟨"java/util/Iterator", "next", "()Ljava/lang/Object;"⟩) (q := (RJx35411, TJx35411, 4)) dX11_digest_221 kJx35411_next_0502b ⟨(z_w 1775 ((lwt_8_1 20).trans rfl) (by decide +kernel)), (z_w 1778 ((lwt_8_1 23).trans rfl) (by decide +kernel)), inJx35411_next_0502b, ⟨by decide, by decide⟩, rfl, fun U h => h.2.2.1⟩ git6 rfl (cl_next hl w12 57 it908 (51 + ta) _ (k) _ _ _ (hm.tb (t := ta) (by omega)) ⟨_, git6⟩ hq911 hita908 hitb908 (by omega)) (Nat.le_of_ble_eq_true rfl) ⟨(by show _ ≤ 56; omega), (by show _ ≤ 1349; omega)⟩ rfl (Nat.le_of_ble_eq_true rfl) rfl ?_
                          rintro _ w13 ⟨rfl, fw13, la13, git13⟩
                          have g13_it889 := fw13.g (Or.inr (by omega)) git7
                          have fm13 := fw13.fm (q := 59) (by omega)
                          have h13 := hm.gar fw13 (by omega)
                          refine j_castS dX11_digest_226 (z_w 1663 ((lwt_7_5 28).trans rfl) (by decide +kernel)) (z_isA ((h13.pr (t := ta) (by omega)).1 p911 hp911).2) ?_
                          refine j_astore (lo' := [(6, _), (0, _), (1, _), (3, _), (5, _)]) dX11_digest_229 rfl (by decide) rfl ?_
                          refine j_lload_n dX11_digest_231 rfl ?_
                          refine j_aload dX11_digest_232 rfl rfl ?_
                          refine j_iconst (v := 0) dX11_digest_234 (by decide) ?_
                          refine j_ld dX11_digest_235 ((h13.pr (t := ta) (by omega)).1 p911 hp911).2 (vp_in_nI (n := 0) (by decide) (by decide)) ?_
                          refine j_top (congrArg Value.int (show _ = nI e911.1 from by rw [show (0 : Int32).toNatClampNeg = 0 from by decide]; exact hv0911)) ?_
                          refine j_i2l dX11_digest_236 ?_
                          refine j_callS dX11_digest_237 kX11_add lX11_247 stX11_add (cy_add hl w13 _ _) (Nat.le_of_ble_eq_true rfl) ⟨(by show _ ≤ 56; omega), (by show _ ≤ 1349; omega)⟩ rfl (Nat.le_of_ble_eq_true rfl) rfl rfl (fun _ _ h => h.elim) ?_
                          rintro _ _ ⟨rfl, hw914⟩
                          refine j_w w13 hw914 ?_
                          refine j_aload dX11_digest_240 rfl rfl ?_
                          refine j_iconst (v := 1) dX11_digest_242 (by decide) ?_
                          refine j_ld dX11_digest_243 ((h13.pr (t := ta) (by omega)).1 p911 hp911).2 (vp_in_nI (n := 1) (by decide) (by decide)) ?_
                          refine j_top (congrArg Value.int (show _ = e911.2 from by rw [show (1 : Int32).toNatClampNeg = 1 from by decide]; exact hv1911)) ?_
                          refine j_i2l dX11_digest_244 ?_
                          refine j_callS dX11_digest_245 kX11_add lX11_247 stX11_add (cy_add hl w13 _ _) (Nat.le_of_ble_eq_true rfl) ⟨(by show _ ≤ 56; omega), (by show _ ≤ 1349; omega)⟩ rfl (Nat.le_of_ble_eq_true rfl) rfl rfl (fun _ _ h => h.elim) ?_
                          rintro _ _ ⟨rfl, hw916⟩
                          refine j_w w13 hw916 ?_
                          refine j_lstore_n (lo' := [(1, _), (6, _), (0, _), (3, _), (5, _)]) dX11_digest_248 (by decide) rfl ?_
                          refine j_goto (tgt := 209) dX11_digest_249 (by decide) ?_
                          refine j_widen (kc' := 14 + ta) (ks' := 61 + 4 * ta) (by omega) (by omega) ?_
                          exact j_lo2 (ih6 w13 _ (k + 1) _ _ _ (by omega) (by omega) (by rw [hd6, sp_tbl_s he911, sp_mxl_app, sp_mxl_c, sp_mxl_c, sp_mxl_nil]) hR h13 (hfm.tr fm13) git13 g13_it889) (z_q1 rfl (z_q1 rfl (z_q1 rfl (z_q1 rfl z_q0))))
                    refine j_widen (kc' := 14 + ta) (ks' := 61 + 4 * ta) (by omega) (by omega) ?_
                    exact j_lo2 (loop209 21 w11 _ 0 _ _ _ (by omega) (Nat.zero_le _) sp_mxl_nil.symm hR h11 ((hfm.tr fm10).tr fm11) git908 g11_it889) (z_q1 rfl (z_q1 rfl (z_q1 rfl (z_q1 rfl z_q0))))
              refine j_widen (kc' := 13 + 0) (ks' := 57 + 4 * 0) (by omega) (by omega) ?_
              exact j_lo2 (loop171 4 w4 _ 0 _ _ (by omega) (by omega) (by have e9 : ro = 2 := (by omega); rw [hd2, e9]; exact sp_e2) hR h4 (hfm.tr fm4) git889) (z_q1 rfl (z_q1 rfl (z_q1 rfl z_q0)))
            · have hb37 : ro < 2 := Nat.not_le.mp (fun z => c_37_34 ((nI_leI (a := 2) (b := ro) (by omega) (by omega)).mpr z))
              refine j_lload_n dX11_digest_40 rfl ?_
              refine j_aload_n dX11_digest_41 rfl rfl ?_
              refine j_getf dX11_digest_42 fX11_21 hm.m rfl ?_
              refine j_iload_n dX11_digest_45 rfl ?_
              obtain ⟨lv918, -, lg918⟩ := z_li.cell hm.rows
              refine j_callV (q := (RJx4a65c, TJx4a65c, 3)) dX11_digest_46 kJx4a65c_get_915e3 lX11_82 inJx4a65c_get_915e3 seJx4a65c_get_915e3 lg918 rfl (cl_get hl w3 41 1001 _ _ (ro) _ hm.rows (z_two2 (i := ro) (by omega))) (Nat.le_of_ble_eq_true rfl) ⟨(by show _ ≤ 56; omega), (by show _ ≤ 1349; omega)⟩ rfl (Nat.le_of_ble_eq_true rfl) rfl rfl (fun _ _ h => h.elim) ?_
              rintro _ _ ⟨rfl, hw919⟩
              refine j_w w3 hw919 ?_
              refine j_castS dX11_digest_49 (z_w 1341 ((lwt_6_3 6).trans rfl) (by decide +kernel)) (z_li.is (hm.rw (i := ro) (by omega)).1) ?_
              obtain ⟨lv921, -, lg921⟩ := z_li.cell (hm.rw (i := ro) (by omega)).1
              refine j_callV (q := (RJx4a65c, TJx4a65c, 3)) dX11_digest_52 kJx4a65c_size_8abf5 lX11_86 inJx4a65c_size_8abf5 seJx4a65c_size_8abf5 lg921 rfl (cl_sizeW hl w3 (ro) (sp_R S (ro)) hm hR (by omega) rfl) (Nat.le_of_ble_eq_true rfl) ⟨(by show _ ≤ 56; omega), (by show _ ≤ 1349; omega)⟩ rfl (Nat.le_of_ble_eq_true rfl) rfl rfl (fun _ _ h => h.elim) ?_
              rintro _ _ ⟨rfl, hw922⟩
              refine j_w w3 hw922 ?_
              have hz922 : (sp_R S (ro)).length ≤ 12 := hR.l12 hm (i := ro) (by omega) rfl
              refine j_i2l dX11_digest_55 ?_
              refine j_callS dX11_digest_56 kX11_add lX11_247 stX11_add (cy_add hl w3 _ _) (Nat.le_of_ble_eq_true rfl) ⟨(by show _ ≤ 56; omega), (by show _ ≤ 1349; omega)⟩ rfl (Nat.le_of_ble_eq_true rfl) rfl rfl (fun _ _ h => h.elim) ?_
              rintro _ _ ⟨rfl, hw923⟩
              refine j_w w3 hw923 ?_
              refine j_lstore_n (lo' := [(1, _), (0, _), (3, _)]) dX11_digest_59 (by decide) rfl ?_
              refine j_aload_n dX11_digest_60 rfl rfl ?_
              refine j_getf dX11_digest_61 fX11_21 hm.m rfl ?_
              refine j_iload_n dX11_digest_64 rfl ?_
              obtain ⟨lv925, -, lg925⟩ := z_li.cell hm.rows
              refine j_callV (q := (RJx4a65c, TJx4a65c, 3)) dX11_digest_65 kJx4a65c_get_915e3 lX11_82 inJx4a65c_get_915e3 seJx4a65c_get_915e3 lg925 rfl (cl_get hl w3 41 1001 _ _ (ro) _ hm.rows (z_two2 (i := ro) (by omega))) (Nat.le_of_ble_eq_true rfl) ⟨(by show _ ≤ 56; omega), (by show _ ≤ 1349; omega)⟩ rfl (Nat.le_of_ble_eq_true rfl) rfl rfl (fun _ _ h => h.elim) ?_
              rintro _ _ ⟨rfl, hw926⟩
              refine j_w w3 hw926 ?_
              refine j_castS dX11_digest_68 (z_w 1341 ((lwt_6_3 6).trans rfl) (by decide +kernel)) (z_li.is (hm.rw (i := ro) (by omega)).1) ?_
              obtain ⟨lv929, -, lg929⟩ := z_li.cell (hm.rw (i := ro) (by omega)).1
              refine j_callV (q := (RJx4a65c, TJx4a65c, 3)) dX11_digest_71 kJx4a65c_iterator_32c93 lX11_162 inJx4a65c_iterator_32c93 seJx4a65c_iterator_32c93 lg929 rfl (cl_iter hl w3 58 (11 + ro) _ _ _ (hm.rw (i := ro) (by omega)).1 (by decide) (by omega) hm.fn) (Nat.le_of_ble_eq_true rfl) ⟨(by show _ ≤ 56; omega), (by show _ ≤ 1349; omega)⟩ rfl (Nat.le_of_ble_eq_true rfl) rfl rfl (fun _ _ h => h.elim) ?_
              rintro _ w14 ⟨it928, rfl, fw14, hita928, hitb928, hitc928, la928, git928⟩
              have hita928 : 1000 ≤ it928 := hita928
              have hitb928 : it928 % 64 = 58 := hitb928
              have fm14 := fw14.fm (q := 59) (by omega)
              have h14 := hm.gar fw14 (by omega)
              refine j_astore (lo' := [(4, _), (1, _), (0, _), (3, _)]) dX11_digest_74 rfl (by decide) rfl ?_
              have loop76 : ∀ (n3 : Nat) (w15 : z_W) (s3 : z_Z) (k : Nat) (d3 : Int64) (la : Int32), (12 < k + n3) → (k ≤ (sp_R S ro).length) → (d3 = sp_mxl (sp_mx d2 (nI (sp_R S ro).length)) ((sp_R S ro).take k)) → (sp_MR S s3) → (z_mst w15 s3) → (z_fm 59 w w15) → (z_g w15 it928 = some (.inr (3, [.int (nI k), .int la, .int (z_qw s3 ro).1, .ref ((z_qr s3).2 ro)]))) → z_J G l mX11_digest (24, 56, 1349, w, Q9, (fun _ _ => False)) 76 [(0, .ref 1000), (1, .long d3), (3, .int (nI ro)), (4, .ref it928)] [] w15 (11 + ro) (49 + 4 * ro) := by
                intro n3
                induction n3 with
                | zero => intro w15 s3 k d3 la h3b h3c hd3 hR hm hfm git; exact absurd h3b (by omega)
                | succ n3 ih3 =>
                  intro w15 s3 k d3 la h3b h3c hd3 hR hm hfm git
                  refine j_aload dX11_digest_76 rfl rfl ?_
                  refine j_callF (x := ⟨"java/util/Iterator", "hasNext", "()Z"⟩) (q := (RJx35411, TJx35411, 4)) dX11_digest_78 kJx35411_hasNext_aae02 ⟨(z_w 1765 ((lwt_8_1 10).trans rfl) (by decide +kernel)), (z_w 1769 ((lwt_8_1 14).trans rfl) (by decide +kernel)), inJx35411_hasNext_aae02, ⟨by decide, by decide⟩, rfl, fun U h => h.2.1⟩ git rfl (cl_hasN hl w15 _ (11 + ro) _ (k) _ _ (hm.rw (i := ro) (by omega)).1 ⟨_, git⟩ (by rw [z_bx_len, hR.wlB (by omega) rfl]; omega)) (Nat.le_of_ble_eq_true rfl) ⟨(by show _ ≤ 56; omega), (by show _ ≤ 1349; omega)⟩ rfl (Nat.le_of_ble_eq_true rfl) rfl ?_
                  rintro _ _ ⟨⟨x930, rfl, hz930, hp930⟩, hw930⟩
                  refine j_w w15 hw930 ?_
                  rw [z_bx_len, hR.wlB (by omega) rfl] at hz930 hp930
                  refine j_if_eq (tgt := 112) dX11_digest_83 (by decide) (fun c_83_303 => ?_) (fun c_83_303 => ?_)
                  · have hk83 : k = (sp_R S (ro)).length := hz930 c_83_303
                    refine j_lload_n dX11_digest_112 rfl ?_
                    refine j_aload_n dX11_digest_113 rfl rfl ?_
                    refine j_getf dX11_digest_114 fX11_25 hm.m rfl ?_
                    refine j_iload_n dX11_digest_117 rfl ?_
                    refine j_zald dX11_digest_118 hm.fx (vp_in_nI (by omega) (by omega)) rfl ?_
                    refine j_top (congrArg Value.int (show _ = z_bi (sp_F S ro) from by rw [z_cla (by omega)]; exact hR.f (by omega))) ?_
                    refine j_callS dX11_digest_119 kX11_one lX11_68 stX11_one (cm_one_r hl w15 (sp_F S ro)) (Nat.le_of_ble_eq_true rfl) ⟨(by show _ ≤ 56; omega), (by show _ ≤ 1349; omega)⟩ rfl (Nat.le_of_ble_eq_true rfl) rfl rfl (fun _ _ h => h.elim) ?_
                    rintro _ _ ⟨rfl, hw931⟩
                    refine j_w w15 hw931 ?_
                    refine j_i2l dX11_digest_122 ?_
                    refine j_callS dX11_digest_123 kX11_add lX11_247 stX11_add (cy_add hl w15 _ _) (Nat.le_of_ble_eq_true rfl) ⟨(by show _ ≤ 56; omega), (by show _ ≤ 1349; omega)⟩ rfl (Nat.le_of_ble_eq_true rfl) rfl rfl (fun _ _ h => h.elim) ?_
                    rintro _ _ ⟨rfl, hw932⟩
                    refine j_w w15 hw932 ?_
                    refine j_lstore_n (lo' := [(1, _), (0, _), (3, _), (4, _)]) dX11_digest_126 (by decide) rfl ?_
                    refine j_iconst (v := 0) dX11_digest_127 (by decide) ?_
                    refine j_istore (lo' := [(4, _), (1, _), (0, _), (3, _)]) dX11_digest_128 (by decide) rfl ?_
                    have loop130 : ∀ (n4 : Nat) (w16 : z_W) (s4 : z_Z) (q4 : Nat) (d4 : Int64), (q4 ≤ 5) → (5 < q4 + n4) → (d4 = sp_mxl (sp_mx d3 (z_bi (sp_F S ro))) ((List.range q4).map (sp_C S ro))) → (sp_MR S s4) → (z_mst w16 s4) → (z_fm 59 w w16) → z_J G l mX11_digest (24, 56, 1349, w, Q9, (fun _ _ => False)) 130 [(0, .ref 1000), (1, .long d4), (3, .int (nI ro)), (4, .int (nI q4))] [] w16 (11 + ro) (49 + 4 * ro) := by
                      intro n4
                      induction n4 with
                      | zero => intro w16 s4 q4 d4 h4a h4b hd4 hR hm hfm; exact absurd h4b (by omega)
                      | succ n4 ih4 =>
                        intro w16 s4 q4 d4 h4a h4b hd4 hR hm hfm
                        refine j_iload dX11_digest_130 rfl ?_
                        refine j_iconst (v := 5) dX11_digest_132 (by decide) ?_
                        refine j_icmp_ge (tgt := 157) dX11_digest_133 (by decide) (fun c_133_329 => ?_) (fun c_133_329 => ?_)
                        · have hb133 : 5 ≤ q4 := (nI_leI (a := 5) (b := q4) (by omega) (by omega)).mp c_133_329
                          refine j_iinc (lo' := [(3, _), (0, _), (1, _), (4, _)]) dX11_digest_157 rfl (z_inc _) (by decide) rfl ?_
                          refine j_goto (tgt := 35) dX11_digest_160 (by decide) ?_
                          refine j_widen (kc' := 10 + (ro + 1)) (ks' := 45 + 4 * (ro + 1)) (by omega) (by omega) ?_
                          exact j_lo2 (ih2 w16 _ (ro + 1) _ (by omega) (by omega) (by have e9 : q4 = 5 := (by omega); rw [hd4, e9, hd3, hk83, List.take_length, hd2]; exact sp_rowE) hR hm hfm) (z_q1 rfl (z_q1 rfl (z_q1 rfl z_q0)))
                        · have hb133 : q4 < 5 := Nat.not_le.mp (fun z => c_133_329 ((nI_leI (a := 5) (b := q4) (by omega) (by omega)).mpr z))
                          refine j_lload_n dX11_digest_136 rfl ?_
                          refine j_aload_n dX11_digest_137 rfl rfl ?_
                          refine j_getf dX11_digest_138 fX11_31 hm.m rfl ?_
                          refine j_iload_n dX11_digest_141 rfl ?_
                          obtain ⟨fz933, gz933, hz933⟩ := hm.co
                          refine j_aald (v := .ref (1004 + ro)) dX11_digest_142 gz933 rfl rfl (vp_in_nI (by omega) (by omega)) (by rw [z_cla (by omega)]; exact hz933 _ (by omega)) ?_
                          refine j_iload dX11_digest_143 rfl ?_
                          refine j_ld dX11_digest_145 (hm.cn (i := ro) (by omega)) (vp_in_nI (by omega) (by omega)) ?_
                          refine j_top (congrArg Value.int (show _ = sp_C S (ro) (q4) from by rw [z_cla (by omega)]; exact hR.c (by omega) (by omega))) ?_
                          refine j_i2l dX11_digest_146 ?_
                          refine j_callS dX11_digest_147 kX11_add lX11_247 stX11_add (cy_add hl w16 _ _) (Nat.le_of_ble_eq_true rfl) ⟨(by show _ ≤ 56; omega), (by show _ ≤ 1349; omega)⟩ rfl (Nat.le_of_ble_eq_true rfl) rfl rfl (fun _ _ h => h.elim) ?_
                          rintro _ _ ⟨rfl, hw935⟩
                          refine j_w w16 hw935 ?_
                          refine j_lstore_n (lo' := [(1, _), (0, _), (3, _), (4, _)]) dX11_digest_150 (by decide) rfl ?_
                          refine j_iinc (lo' := [(4, _), (1, _), (0, _), (3, _)]) dX11_digest_151 rfl (z_inc _) (by decide) rfl ?_
                          refine j_goto (tgt := 130) dX11_digest_154 (by decide) ?_
                          refine j_widen (kc' := 11 + ro) (ks' := 49 + 4 * ro) (by omega) (by omega) ?_
                          exact j_lo2 (ih4 w16 _ (q4 + 1) _ (by omega) (by omega) (by rw [hd4, sp_rg, sp_mxl_s] <;> rfl) hR hm hfm) (z_q1 rfl (z_q1 rfl (z_q1 rfl (z_q1 rfl z_q0))))
                    refine j_widen (kc' := 11 + ro) (ks' := 49 + 4 * ro) (by omega) (by omega) ?_
                    exact j_lo2 (loop130 6 w15 _ 0 _ (by omega) (by omega) sp_mxl_nil.symm hR hm hfm) (z_q1 rfl (z_q1 rfl (z_q1 rfl (z_q1 rfl z_q0))))
                  · have hk83 : k < (sp_R S (ro)).length := hp930 c_83_303
                    refine j_aload dX11_digest_86 rfl rfl ?_
                    obtain ⟨x936, hx936⟩ : ∃ x, (sp_R S (ro))[k]? = some x := ⟨_, List.getElem?_eq_getElem (show k < (sp_R S (ro)).length by omega)⟩
                    refine j_callF (x := ⟨"java/util/Iterator", "next", "()Ljava/lang/Object;"⟩) (q := (RJx35411, TJx35411, 4)) dX11_digest_88 kJx35411_next_0502b ⟨(z_w 1775 ((lwt_8_1 20).trans rfl) (by decide +kernel)), (z_w 1778 ((lwt_8_1 23).trans rfl) (by decide +kernel)), inJx35411_next_0502b, ⟨by decide, by decide⟩, rfl, fun U h => h.2.2.1⟩ git rfl (cl_next hl w15 58 it928 (11 + ro) _ (k) _ _ _ (hm.rw (i := ro) (by omega)).1 ⟨_, git⟩ ((congrArg (fun z => (z_bx z)[k]?) (hR.w (by omega))).trans (sp_u_get hx936)) hita928 hitb928 (by omega)) (Nat.le_of_ble_eq_true rfl) ⟨(by show _ ≤ 56; omega), (by show _ ≤ 1349; omega)⟩ rfl (Nat.le_of_ble_eq_true rfl) rfl ?_
                    rintro _ w17 ⟨rfl, fw17, la17, git17⟩
                    have fm17 := fw17.fm (q := 59) (by omega)
                    have h17 := hm.gar fw17 (by omega)
                    refine j_castS dX11_digest_93 (z_w 1567 ((lwt_7_2 22).trans rfl) (by decide +kernel)) rfl ?_
                    refine j_callVB (v0 := .float _) (C := "java/lang/Integer") dX11_digest_96 kJ6_intValue_8abf5 lX11_99 inJ6_intValue_8abf5 seJ6_intValue_8abf5 rfl (c_intv hl w17 x936) (Nat.le_of_ble_eq_true rfl) ⟨(by show _ ≤ 56; omega), (by show _ ≤ 1349; omega)⟩ rfl (Nat.le_of_ble_eq_true rfl) rfl rfl (fun _ _ h => h.elim) ?_
                    rintro _ _ ⟨rfl, hw938⟩
                    refine j_w w17 hw938 ?_
                    refine j_istore (lo' := [(5, _), (0, _), (1, _), (3, _), (4, _)]) dX11_digest_99 (by decide) rfl ?_
                    refine j_lload_n dX11_digest_101 rfl ?_
                    refine j_iload dX11_digest_102 rfl ?_
                    refine j_i2l dX11_digest_104 ?_
                    refine j_callS dX11_digest_105 kX11_add lX11_247 stX11_add (cy_add hl w17 _ _) (Nat.le_of_ble_eq_true rfl) ⟨(by show _ ≤ 56; omega), (by show _ ≤ 1349; omega)⟩ rfl (Nat.le_of_ble_eq_true rfl) rfl rfl (fun _ _ h => h.elim) ?_
                    rintro _ _ ⟨rfl, hw939⟩
                    refine j_w w17 hw939 ?_
                    refine j_lstore_n (lo' := [(1, _), (5, _), (0, _), (3, _), (4, _)]) dX11_digest_108 (by decide) rfl ?_
                    refine j_goto (tgt := 76) dX11_digest_109 (by decide) ?_
                    refine j_widen (kc' := 11 + ro) (ks' := 49 + 4 * ro) (by omega) (by omega) ?_
                    exact j_lo2 (ih3 w17 _ (k + 1) _ _ (by omega) (by omega) (by rw [hd3, sp_tkx hx936, sp_mxl_s] <;> rfl) hR h17 (hfm.tr fm17) git17) (z_q1 rfl (z_q1 rfl (z_q1 rfl (z_q1 rfl z_q0))))
              refine j_widen (kc' := 11 + ro) (ks' := 49 + 4 * ro) (by omega) (by omega) ?_
              exact j_lo2 (loop76 13 w14 _ 0 _ _ (by omega) (Nat.zero_le _) sp_mxl_nil.symm hR h14 (hfm.tr fm14) git928) (z_q1 rfl (z_q1 rfl (z_q1 rfl (z_q1 rfl z_q0))))
        refine j_widen (kc' := 10 + 0) (ks' := 45 + 4 * 0) (by omega) (by omega) ?_
        exact j_lo2 (loop35 3 w2 _ 0 _ (by omega) (by omega) (by have e9 : q = 5 := (by omega); rw [hd1, e9]; exact sp_e1) hR hm hfm) (z_q1 rfl (z_q1 rfl (z_q1 rfl z_q0)))
      · have hb13 : q < 5 := Nat.not_le.mp (fun z => c_13_22 ((nI_leI (a := 5) (b := q) (by omega) (by omega)).mpr z))
        refine j_lload_n dX11_digest_16 rfl ?_
        refine j_aload_n dX11_digest_17 rfl rfl ?_
        refine j_iload_n dX11_digest_18 rfl ?_
        refine j_callV (q := (RX11, TX11, 8)) dX11_digest_19 kX11_houseTold lX11_237 inX11_houseTold seX11_houseTold hm.m rfl (cx_houseTold hl w2 S _ (q) hm hR (by omega)) (Nat.le_of_ble_eq_true rfl) ⟨(by show _ ≤ 56; omega), (by show _ ≤ 1349; omega)⟩ rfl (Nat.le_of_ble_eq_true rfl) rfl rfl (fun _ _ h => h.elim) ?_
        rintro _ w18 ⟨s18, rfl, fm18, h18, R18, -⟩
        refine j_i2l dX11_digest_22 ?_
        refine j_callS dX11_digest_23 kX11_add lX11_247 stX11_add (cy_add hl w18 _ _) (Nat.le_of_ble_eq_true rfl) ⟨(by show _ ≤ 56; omega), (by show _ ≤ 1349; omega)⟩ rfl (Nat.le_of_ble_eq_true rfl) rfl rfl (fun _ _ h => h.elim) ?_
        rintro _ _ ⟨rfl, hw940⟩
        refine j_w w18 hw940 ?_
        refine j_lstore_n (lo' := [(1, _), (0, _), (3, _)]) dX11_digest_26 (by decide) rfl ?_
        refine j_iinc (lo' := [(3, _), (1, _), (0, _)]) dX11_digest_27 rfl (z_inc _) (by decide) rfl ?_
        refine j_goto (tgt := 11) dX11_digest_30 (by decide) ?_
        refine j_widen (kc' := 2 * (q + 1)) (ks' := 9 * (q + 1)) (by omega) (by omega) ?_
        exact j_lo2 (ih1 w18 _ (q + 1) _ (by omega) (by omega) (by rw [hd1, sp_rg, sp_mxl_s] <;> rfl) R18 h18 (hfm.tr (fm18.le (q' := 59) (by decide)))) (z_q1 rfl (z_q1 rfl (z_q1 rfl z_q0)))
  refine j_widen (kc' := 2 * 0) (ks' := 9 * 0) (by omega) (by omega) ?_
  exact j_lo2 (loop11 6 w1 _ 0 _ (by omega) (by omega) sp_mxl_nil.symm R1 h1 (fw1.fm (q := 59) (by omega))) (z_q1 rfl (z_q1 rfl (z_q1 rfl z_q0)))
end ZMe9
end ZM0
section ZM1
section ZMtL
variable {G : z_G} {l : Launch}
theorem sd_apK (hl : l.stackTraces = false) (w : z_W) (ρ a N : Nat) (L : List Int32) (i k : Nat) (t : String × Nat × String) (M : List Int32) (hi9 : z_strs[i]? = some t) (ht9 : t.1 = "LoopdefaultsModel" ∨ t.1 = "LoopdefaultsModel$Hearer") (hM : tx_cs t.2.2 = M) (hk : t.2.2.length = k) (h : z_sbL w ρ a L N) (hq : L.length + k ≤ 2 * N + 2) (hN : z_gr N (L.length + k) ≤ 5000) (hρ : ρ < 64) (hf : z_fn w) : z_Con G l mJ4_append_15ec4 17 (z_gr N (L.length + k) / 16 - N / 16) (2 * (z_gr N (L.length + k) - N)) w [.ref a, .retAddr (10 + i)] (fun v w9 => v = some (.ref a) ∧ z_fw ρ w w9 ∧ z_sbL w9 ρ a (L ++ M) (z_gr N (L.length + k))) (fun _ _ => False) := by
  subst hk hM
  exact sd_apS hl w ρ a N L i t hi9 ht9 h hq hN hρ hf
theorem tx_jt_n {L M : List Int32} (h : M = tx_jt L) : (M.length = 0 ↔ L = []) := by
  subst h
  cases L with
  | nil => exact ⟨fun _ => rfl, fun _ => rfl⟩
  | cons x t =>
    refine ⟨fun h => absurd h ?_, fun h => by cases h⟩
    have h1 := z_sz_in x
    show ¬ (tx_dg x ++ _).length = 0
    rw [List.length_append, tx_dl]
    omega
theorem tx_pt_n {L : List (Nat × Int32)} {M : List Int32} (h : M = tx_pt L) : (M.length = 0 ↔ L = []) := by
  subst h
  cases L with
  | nil => exact ⟨fun _ => rfl, fun _ => rfl⟩
  | cons x t =>
    refine ⟨fun h => absurd h ?_, fun h => by cases h⟩
    have h1 := z_sz_in (nI x.1)
    show ¬ ((tx_dg (nI x.1) ++ 61 :: tx_dg x.2) ++ _).length = 0
    rw [List.length_append, List.length_append, tx_dl]
    omega
theorem tx_jt_g {L M : List Int32} {x : Int32} (h : M = tx_jt L) (P : Prop) (hp : P ↔ M.length = 0) : (P → (M ++ []) ++ tx_dg x = tx_jt (L ++ [x])) ∧ (¬ P → (M ++ [32]) ++ tx_dg x = tx_jt (L ++ [x])) := by
  have h0 := tx_jt_n h
  subst h
  rw [tx_jt_s]
  refine ⟨fun hP => ?_, fun hP => ?_⟩
  · rw [if_pos (by rw [h0.mp (hp.mp hP)]; rfl), List.append_nil]; rfl
  · rw [if_neg (fun z => hP (hp.mpr (h0.mpr (List.eq_nil_of_length_eq_zero z)))), List.append_assoc]
theorem tx_pt_g {L : List (Nat × Int32)} {M : List Int32} {p : Nat × Int32} (h : M = tx_pt L) (P : Prop) (hp : P ↔ M.length = 0) : (P → ((M ++ []) ++ tx_dg (nI p.1)) ++ [61] ++ tx_dg p.2 = tx_pt (L ++ [p])) ∧ (¬ P → ((M ++ [32]) ++ tx_dg (nI p.1)) ++ [61] ++ tx_dg p.2 = tx_pt (L ++ [p])) := by
  have h0 := tx_pt_n h
  subst h
  rw [tx_pt_s]
  refine ⟨fun hP => ?_, fun hP => ?_⟩
  · rw [if_pos (by rw [h0.mp (hp.mp hP)]; rfl), List.append_nil]; simp only [List.append_assoc, List.nil_append, List.singleton_append]
  · rw [if_neg (fun z => hP (hp.mpr (h0.mpr (List.eq_nil_of_length_eq_zero z)))), List.append_assoc]; simp only [List.append_assoc, List.singleton_append, List.cons_append, List.nil_append]
set_option maxRecDepth 100000 in
set_option maxHeartbeats 8000000 in
theorem cz_textH (hl : l.stackTraces = false) (w : z_W) (S : sp_S) (s : z_Z) (i : Nat) (h : z_mst w s) (R : sp_MR S s) (hi : i < 2) : z_Con G l mX10_text 18 20 640 w [.ref (1009 + i)] (fun v w9 => ∃ (r : Nat) (s9 : z_Z), v = some (.ref r) ∧ z_fm 59 w w9 ∧ z_mst w9 s9 ∧ sp_MR S s9 ∧ s9.1.1 = s.1.1 ∧ z_txL w9 57 r (tx_jt (sp_E S i).2)) (fun _ _ => False) := by
  have hlm9 : (sp_E S i).2.length ≤ 10 := by have h9 := (h.hl (i := i) hi).2; rw [R.l hi, List.length_map] at h9; exact h9
  generalize hQ9 : (fun (v : Option Value) (w9 : z_W) => ∃ (r : Nat) (s9 : z_Z), v = some (.ref r) ∧ z_fm 59 w w9 ∧ z_mst w9 s9 ∧ sp_MR S s9 ∧ s9.1.1 = s.1.1 ∧ z_txL w9 57 r (tx_jt (sp_E S i).2)) = Q9
  refine z_body hl (by decide) rfl (Nat.le_of_ble_eq_true rfl) ?_
  show z_J G l mX10_text _ 0 [(0, _)] [] _ 0 0
  obtain ⟨x1, hx1a, hx1b, hx1c⟩ := z_fresh (56) (by decide) h.fn
  refine j_new (N := 4) (w' := _) (n := x1) dX10_text_0 nX10_52 rfl (z_alW hx1c hx1a) (Nat.le_of_ble_eq_true rfl) (Nat.le_of_ble_eq_true rfl) ?_
  refine j_seal hx1a ?_
  intro w1 u1
  have fw1 := u1.fw hx1a hx1b
  have g1_x1 := u1.1
  have h1 := h.gar fw1 (by omega)
  refine j_dup dX10_text_3 rfl ?_
  refine j_callI dX10_text_4 kJ4_init_da8c8 rfl lX10_54 inJ4_init_da8c8 rfl (sb_ini hl w1 56 x1 hx1a hx1b (by decide) h1.fn g1_x1) (Nat.le_of_ble_eq_true rfl) ⟨(by show _ ≤ 20; omega), (by show _ ≤ 640; omega)⟩ rfl (Nat.le_of_ble_eq_true rfl) rfl rfl (fun _ _ h => h.elim) ?_
  rintro _ w2 ⟨rfl, fw2, hs2⟩
  have hs2 := hs2.nil
  have fm2 := fw2.fm (q := 59) (by omega)
  have h2 := h1.gar fw2 (by omega)
  refine j_astore_n (lo' := [(1, _), (0, _)]) dX10_text_7 rfl (by decide) rfl ?_
  refine j_aload_n dX10_text_8 rfl rfl ?_
  refine j_getf dX10_text_9 fX10_21 (h2.hd (i := i) hi) rfl ?_
  obtain ⟨lv890, -, lg890⟩ := z_li.cell (h2.hl (i := i) hi).1
  refine j_callV (q := (RJx4a65c, TJx4a65c, 3)) dX10_text_12 kJx4a65c_iterator_32c93 lX10_55 inJx4a65c_iterator_32c93 seJx4a65c_iterator_32c93 lg890 rfl (cl_iter hl w2 58 (54 + i) _ _ _ (h2.hl (i := i) hi).1 (by decide) (by omega) h2.fn) (Nat.le_of_ble_eq_true rfl) ⟨(by show _ ≤ 20; omega), (by show _ ≤ 640; omega)⟩ rfl (Nat.le_of_ble_eq_true rfl) rfl rfl (fun _ _ h => h.elim) ?_
  rintro _ w3 ⟨it889, rfl, fw3, hita889, hitb889, hitc889, la889, git889⟩
  have hita889 : 1000 ≤ it889 := hita889
  have hitb889 : it889 % 64 = 58 := hitb889
  have fm3 := fw3.fm (q := 59) (by omega)
  have h3 := h2.gar fw3 (by omega)
  have hs3 := hs2.fw fw3 (by decide)
  refine j_astore_n (lo' := [(2, _), (1, _), (0, _)]) dX10_text_15 rfl (by decide) rfl ?_
  have loop16 : ∀ (n9 : Nat) (w4 : z_W) (s1 : z_Z) (k : Nat) (L : List Int32) (bN : Nat) (la : Int32), (k ≤ ((sp_E S i).2).length) → (10 < k + n9) → (((sp_E S i).2).length ≤ 10) → (sp_MR S s1) → (s1.1.1 = s.1.1) → (z_mst w4 s1) → (z_fm 59 w w4) → (z_g w4 it889 = some (.inr (3, [.int (nI k), .int la, .int (z_ql s1 i).1, .ref (1014 + i)]))) → (z_sbL w4 56 x1 L bN) → (L = tx_jt (((sp_E S i).2).take k)) → (L.length ≤ 12 * k) → (bN ≤ 2 * 120 + 16) → z_J G l mX10_text (18, 20, 640, w, Q9, (fun _ _ => False)) 16 [(0, .ref (1009 + i)), (1, .ref x1), (2, .ref it889)] [] w4 (2 + bN / 16) (2 * bN) := by
    intro n9
    induction n9 with
    | zero => intro w4 s1 k L bN la hj hf9 hlm hR hth hm hfm git hsb hL hbn hbN; exact absurd hf9 (by omega)
    | succ n9 ih =>
      intro w4 s1 k L bN la hj hf9 hlm hR hth hm hfm git hsb hL hbn hbN
      have hnN0 := hsb.sb.nN
      refine j_aload_n dX10_text_16 rfl rfl ?_
      refine j_callF (x := ⟨"java/util/Iterator", "hasNext", "()Z"⟩) (q := (RJx35411, TJx35411, 4)) dX10_text_17 kJx35411_hasNext_aae02 ⟨(z_w 1856 ((lwt_8_4 11).trans rfl) (by decide +kernel)), (z_w 1769 ((lwt_8_1 14).trans rfl) (by decide +kernel)), inJx35411_hasNext_aae02, ⟨by decide, by decide⟩, rfl, fun U h => h.2.1⟩ git rfl (cl_hasN hl w4 _ (54 + i) _ (k) _ _ (hm.hl (i := i) hi).1 ⟨_, git⟩ (by rw [z_bx_len, hR.l hi, List.length_map]; omega)) (Nat.le_of_ble_eq_true rfl) ⟨(by show _ ≤ 20; omega), (by show _ ≤ 640; omega)⟩ rfl (Nat.le_of_ble_eq_true rfl) rfl ?_
      rintro _ _ ⟨⟨x891, rfl, hz891, hp891⟩, hw891⟩
      refine j_w w4 hw891 ?_
      rw [z_bx_len, hR.l hi, List.length_map] at hz891 hp891
      refine j_if_eq (tgt := 64) dX10_text_22 (by decide) (fun c_22_39 => ?_) (fun c_22_39 => ?_)
      · have hk22 : k = (sp_E S (i)).2.length := hz891 c_22_39
        refine j_aload_n dX10_text_64 rfl rfl ?_
        have hnN := hsb.sb.nN
        obtain ⟨fs892, gs892⟩ := hsb.sb.cell
        refine j_callV (q := (RJ4, TJ4, 4)) dX10_text_65 kJ4_toString_0e30d lX10_86 inJ4_toString_0e30d seJ4_toString_0e30d gs892 rfl (sd_toS hl w4 57 56 x1 (bN) (L) hsb (by decide) (by decide) hm.fn) (Nat.le_of_ble_eq_true rfl) ⟨(by show _ ≤ 20; omega), (by show _ ≤ 640; omega)⟩ rfl (Nat.le_of_ble_eq_true rfl) rfl rfl (fun _ _ h => h.elim) ?_
        rintro _ w5 ⟨r5, rfl, fw5, ht5⟩
        have g5_it889 := fw5.g (Or.inr (by omega)) git
        have fm5 := fw5.fm (q := 59) (by omega)
        have h5 := hm.gar fw5 (by omega)
        refine j_aret dX10_text_68 rfl (Or.inl ⟨_, rfl⟩) rfl ?_ (by show _ ≤ 20; omega) (by show _ ≤ 640; omega)
        refine cast (congrFun (congrFun hQ9 _) _) ?_
        rw [hL, List.take_of_length_le (by omega)] at ht5
        exact ⟨_, _, rfl, (hfm.tr fm5), h5, hR, hth, ht5⟩
      · have hk22 : k < (sp_E S (i)).2.length := hp891 c_22_39
        refine j_aload_n dX10_text_25 rfl rfl ?_
        obtain ⟨x893, hx893⟩ : ∃ x, ((sp_E S (i)).2)[k]? = some x := ⟨_, List.getElem?_eq_getElem (show k < ((sp_E S (i)).2).length by omega)⟩
        refine j_callF (x := ⟨"java/util/Iterator", "next", "()Ljava/lang/Object;"⟩) (q := (RJx35411, TJx35411, 4)) dX10_text_26 kJx35411_next_0502b ⟨(z_w 1858 ((lwt_8_4 13).trans rfl) (by decide +kernel)), (z_w 1778 ((lwt_8_1 23).trans rfl) (by decide +kernel)), inJx35411_next_0502b, ⟨by decide, by decide⟩, rfl, fun U h => h.2.2.1⟩ git rfl (cl_next hl w4 58 it889 (54 + i) _ (k) _ _ _ (hm.hl (i := i) hi).1 ⟨_, git⟩ ((congrArg (fun z => (z_bx z)[k]?) (hR.l hi)).trans (sp_u_get hx893)) hita889 hitb889 (by omega)) (Nat.le_of_ble_eq_true rfl) ⟨(by show _ ≤ 20; omega), (by show _ ≤ 640; omega)⟩ rfl (Nat.le_of_ble_eq_true rfl) rfl ?_
        rintro _ w6 ⟨rfl, fw6, la6, git6⟩
        have fm6 := fw6.fm (q := 59) (by omega)
        have h6 := hm.gar fw6 (by omega)
        have hs6 := hsb.fw fw6 (by decide)
        refine j_castS dX10_text_31 (z_w 1859 ((lwt_8_4 14).trans rfl) (by decide +kernel)) rfl ?_
        refine j_callVB (v0 := .float _) (C := "java/lang/Integer") dX10_text_34 kJ6_intValue_8abf5 lX10_69 inJ6_intValue_8abf5 seJ6_intValue_8abf5 rfl (c_intv hl w6 x893) (Nat.le_of_ble_eq_true rfl) ⟨(by show _ ≤ 20; omega), (by show _ ≤ 640; omega)⟩ rfl (Nat.le_of_ble_eq_true rfl) rfl rfl (fun _ _ h => h.elim) ?_
        rintro _ _ ⟨rfl, hw895⟩
        refine j_w w6 hw895 ?_
        refine j_istore_n (lo' := [(3, _), (0, _), (1, _), (2, _)]) dX10_text_37 (by decide) rfl ?_
        refine j_aload_n dX10_text_38 rfl rfl ?_
        refine j_aload_n dX10_text_39 rfl rfl ?_
        obtain ⟨fs896, gs896⟩ := hs6.sb.cell
        refine j_callV (q := (RJ4, TJ4, 4)) dX10_text_40 kJ4_length_8abf5 lX10_72 inJ4_length_8abf5 seJ4_length_8abf5 gs896 rfl (sb_len hl w6 56 x1 (L).length (bN) hs6.sb) (Nat.le_of_ble_eq_true rfl) ⟨(by show _ ≤ 20; omega), (by show _ ≤ 640; omega)⟩ rfl (Nat.le_of_ble_eq_true rfl) rfl rfl (fun _ _ h => h.elim) ?_
        rintro _ _ ⟨rfl, hw897⟩
        refine j_w w6 hw897 ?_
        refine j_if_le (tgt := 51) dX10_text_43 (by decide) (fun c_43_72 => ?_) (fun c_43_72 => ?_)
        · have hb43 : (L).length ≤ 0 := (nI_leI (a := (L).length) (b := 0) (by omega) (by omega)).mp c_43_72
          refine j_ldcS (i := 12) dX10_text_51 rfl (Or.inr rfl) rfl rfl ?_
          have hnN898 := hs6.sb.nN
          have hle898 := z_gr_le (N := bN) (m := ((L).length + 0))
          have hmx898 := z_gr_mx (N := bN) (m := ((L).length + 0)) (M := 120) (by omega) (by omega)
          obtain ⟨fs899, gs899⟩ := hs6.sb.cell
          refine j_callV (q := (RJ4, TJ4, 4)) dX10_text_53 kJ4_append_15ec4 lX10_79 inJ4_append_15ec4 seJ4_append_15ec4 gs899 rfl (sd_apK hl w6 56 x1 (bN) (L) 12 0 _ [] rfl (Or.inr rfl) (by decide +kernel) (by decide) hs6 (by omega) (by omega) (by decide) h6.fn) (Nat.le_of_ble_eq_true rfl) ⟨(by show _ ≤ 20; omega), (by show _ ≤ 640; omega)⟩ rfl (Nat.le_of_ble_eq_true rfl) rfl rfl (fun _ _ h => h.elim) ?_
          rintro _ w7 ⟨rfl, fw7, hs7⟩
          have ln7 : ((L ++ ([] : List Int32))).length = (L).length + 0 := by rw [List.length_append]; try rfl
          have g7_it889 := fw7.g (Or.inr (by omega)) git6
          have fm7 := fw7.fm (q := 59) (by omega)
          have h7 := h6.gar fw7 (by omega)
          refine j_iload_n dX10_text_56 rfl ?_
          have hzs900 := z_sz_in (x893)
          have hnN901 := hs7.sb.nN
          have hle901 := z_gr_le (N := (z_gr (bN) ((L).length + 0))) (m := (((L ++ ([] : List Int32))).length + z_sz (x893)))
          have hmx901 := z_gr_mx (N := (z_gr (bN) ((L).length + 0))) (m := (((L ++ ([] : List Int32))).length + z_sz (x893))) (M := 120) (by omega) (by omega)
          obtain ⟨fs902, gs902⟩ := hs7.sb.cell
          refine j_callV (q := (RJ4, TJ4, 4)) dX10_text_57 kJ4_append_bf812 lX10_83 inJ4_append_bf812 seJ4_append_bf812 gs902 rfl (sc_apI hl w7 56 x1 ((z_gr (bN) ((L).length + 0))) ((L ++ ([] : List Int32))) (x893) hs7 (by omega) (by omega) (by decide) h7.fn) (Nat.le_of_ble_eq_true rfl) ⟨(by show _ ≤ 20; omega), (by show _ ≤ 640; omega)⟩ rfl (Nat.le_of_ble_eq_true rfl) rfl rfl (fun _ _ h => h.elim) ?_
          rintro _ w8 ⟨rfl, fw8, hs8⟩
          have ln8 : (((L ++ ([] : List Int32)) ++ tx_dg (x893))).length = ((L ++ ([] : List Int32))).length + z_sz (x893) := by rw [List.length_append, tx_dl]; try rfl
          have g8_it889 := fw8.g (Or.inr (by omega)) g7_it889
          have fm8 := fw8.fm (q := 59) (by omega)
          have h8 := h7.gar fw8 (by omega)
          refine j_pop dX10_text_60 rfl ?_
          refine j_goto (tgt := 16) dX10_text_61 (by decide) ?_
          refine j_widen (kc' := 2 + (z_gr ((z_gr (bN) ((L).length + 0))) (((L ++ ([] : List Int32))).length + z_sz (x893))) / 16) (ks' := 2 * (z_gr ((z_gr (bN) ((L).length + 0))) (((L ++ ([] : List Int32))).length + z_sz (x893)))) (by omega) (by omega) ?_
          exact j_lo2 (ih w8 _ (k + 1) ((L ++ ([] : List Int32)) ++ tx_dg (x893)) (z_gr ((z_gr (bN) ((L).length + 0))) (((L ++ ([] : List Int32))).length + z_sz (x893))) _ (by omega) (by omega) hlm hR (by exact hth) h8 (((hfm.tr fm6).tr fm7).tr fm8) g8_it889 hs8 (by rw [sp_tkx hx893]; exact (tx_jt_g hL (L.length ≤ 0) (by omega)).1 (by omega)) (by omega) (by omega)) (z_q1 rfl (z_q1 rfl (z_q1 rfl z_q0)))
        · have hb43 : 0 < (L).length := Nat.not_le.mp (fun z => c_43_72 ((nI_leI (a := (L).length) (b := 0) (by omega) (by omega)).mpr z))
          refine j_ldcS (i := 11) dX10_text_46 rfl (Or.inr rfl) rfl rfl ?_
          refine j_goto (tgt := 53) dX10_text_48 (by decide) ?_
          have hnN903 := hs6.sb.nN
          have hle903 := z_gr_le (N := bN) (m := ((L).length + 1))
          have hmx903 := z_gr_mx (N := bN) (m := ((L).length + 1)) (M := 120) (by omega) (by omega)
          obtain ⟨fs904, gs904⟩ := hs6.sb.cell
          refine j_callV (q := (RJ4, TJ4, 4)) dX10_text_53 kJ4_append_15ec4 lX10_79 inJ4_append_15ec4 seJ4_append_15ec4 gs904 rfl (sd_apK hl w6 56 x1 (bN) (L) 11 1 _ [32] rfl (Or.inr rfl) (by decide +kernel) (by decide) hs6 (by omega) (by omega) (by decide) h6.fn) (Nat.le_of_ble_eq_true rfl) ⟨(by show _ ≤ 20; omega), (by show _ ≤ 640; omega)⟩ rfl (Nat.le_of_ble_eq_true rfl) rfl rfl (fun _ _ h => h.elim) ?_
          rintro _ w9 ⟨rfl, fw9, hs9⟩
          have ln9 : ((L ++ ([32] : List Int32))).length = (L).length + 1 := by rw [List.length_append]; try rfl
          have g9_it889 := fw9.g (Or.inr (by omega)) git6
          have fm9 := fw9.fm (q := 59) (by omega)
          have h9 := h6.gar fw9 (by omega)
          refine j_iload_n dX10_text_56 rfl ?_
          have hzs905 := z_sz_in (x893)
          have hnN906 := hs9.sb.nN
          have hle906 := z_gr_le (N := (z_gr (bN) ((L).length + 1))) (m := (((L ++ ([32] : List Int32))).length + z_sz (x893)))
          have hmx906 := z_gr_mx (N := (z_gr (bN) ((L).length + 1))) (m := (((L ++ ([32] : List Int32))).length + z_sz (x893))) (M := 120) (by omega) (by omega)
          obtain ⟨fs907, gs907⟩ := hs9.sb.cell
          refine j_callV (q := (RJ4, TJ4, 4)) dX10_text_57 kJ4_append_bf812 lX10_83 inJ4_append_bf812 seJ4_append_bf812 gs907 rfl (sc_apI hl w9 56 x1 ((z_gr (bN) ((L).length + 1))) ((L ++ ([32] : List Int32))) (x893) hs9 (by omega) (by omega) (by decide) h9.fn) (Nat.le_of_ble_eq_true rfl) ⟨(by show _ ≤ 20; omega), (by show _ ≤ 640; omega)⟩ rfl (Nat.le_of_ble_eq_true rfl) rfl rfl (fun _ _ h => h.elim) ?_
          rintro _ w10 ⟨rfl, fw10, hs10⟩
          have ln10 : (((L ++ ([32] : List Int32)) ++ tx_dg (x893))).length = ((L ++ ([32] : List Int32))).length + z_sz (x893) := by rw [List.length_append, tx_dl]; try rfl
          have g10_it889 := fw10.g (Or.inr (by omega)) g9_it889
          have fm10 := fw10.fm (q := 59) (by omega)
          have h10 := h9.gar fw10 (by omega)
          refine j_pop dX10_text_60 rfl ?_
          refine j_goto (tgt := 16) dX10_text_61 (by decide) ?_
          refine j_widen (kc' := 2 + (z_gr ((z_gr (bN) ((L).length + 1))) (((L ++ ([32] : List Int32))).length + z_sz (x893))) / 16) (ks' := 2 * (z_gr ((z_gr (bN) ((L).length + 1))) (((L ++ ([32] : List Int32))).length + z_sz (x893)))) (by omega) (by omega) ?_
          exact j_lo2 (ih w10 _ (k + 1) ((L ++ ([32] : List Int32)) ++ tx_dg (x893)) (z_gr ((z_gr (bN) ((L).length + 1))) (((L ++ ([32] : List Int32))).length + z_sz (x893))) _ (by omega) (by omega) hlm hR (by exact hth) h10 (((hfm.tr fm6).tr fm9).tr fm10) g10_it889 hs10 (by rw [sp_tkx hx893]; exact (tx_jt_g hL (L.length ≤ 0) (by omega)).2 (by omega)) (by omega) (by omega)) (z_q1 rfl (z_q1 rfl (z_q1 rfl z_q0)))
  refine j_widen (kc' := 2 + 16 / 16) (ks' := 2 * 16) (by decide) (by decide) ?_
  exact j_lo2 (loop16 (10 + 1) w3 _ 0 [] 16 _ (Nat.zero_le _) (by omega) hlm9 R (by exact rfl) h3 (((fw1.fm (q := 59) (by omega)).tr fm2).tr fm3) git889 hs3 rfl (Nat.zero_le _) (by omega)) (z_q1 rfl (z_q1 rfl (z_q1 rfl z_q0)))
set_option maxRecDepth 100000 in
set_option maxHeartbeats 8000000 in
theorem cz_heardText (hl : l.stackTraces = false) (w : z_W) (S : sp_S) (s : z_Z) (x : Int32) (h : z_mst w s) (R : sp_MR S s)  : z_Con G l mX11_heardText 20 20 640 w [.ref 1000, .int x] (fun v w9 => ∃ (r9 : Value) (s9 : z_Z), v = some r9 ∧ z_ir r9 = true ∧ z_fm 59 w w9 ∧ z_mst w9 s9 ∧ s9.1.1 = q_k2 x ∧ sp_MR S s9 ∧ (q_k2 x = 0 → ∃ q, r9 = .ref q ∧ z_txL w9 57 q (tx_jt (sp_E S (sp_i x)).2))) (fun _ _ => False) := by
  generalize hQ9 : (fun (v : Option Value) (w9 : z_W) => ∃ (r9 : Value) (s9 : z_Z), v = some r9 ∧ z_ir r9 = true ∧ z_fm 59 w w9 ∧ z_mst w9 s9 ∧ s9.1.1 = q_k2 x ∧ sp_MR S s9 ∧ (q_k2 x = 0 → ∃ q, r9 = .ref q ∧ z_txL w9 57 q (tx_jt (sp_E S (sp_i x)).2))) = Q9
  refine z_body hl (by decide) rfl (Nat.le_of_ble_eq_true rfl) ?_
  show z_J G l mX11_heardText _ 0 [(0, _), (1, _)] [] _ 0 0
  refine j_aload_n dX11_heardText_0 rfl rfl ?_
  refine j_iload_n dX11_heardText_1 rfl ?_
  refine j_callS dX11_heardText_2 kX11_isNoTwo lX11_72 stX11_isNoTwo (cm_isNoTwo_r hl w _) (Nat.le_of_ble_eq_true rfl) ⟨(by show _ ≤ 20; omega), (by show _ ≤ 640; omega)⟩ rfl (Nat.le_of_ble_eq_true rfl) rfl rfl (fun _ _ h => h.elim) ?_
  rintro _ _ ⟨⟨rfl, hno908⟩ | ⟨rfl, i908, hi908, ht908, rfl⟩, hw908⟩
  · refine j_w w hw908 ?_
    refine j_iconst (v := 1) dX11_heardText_5 (by decide) ?_
    refine j_callV (q := (RX11, TX11, 8)) dX11_heardText_6 kX11_start lX11_76 inX11_start seX11_start h.m rfl (cm_start1 hl w _ _ h (by decide)) (Nat.le_of_ble_eq_true rfl) ⟨(by show _ ≤ 20; omega), (by show _ ≤ 640; omega)⟩ rfl (Nat.le_of_ble_eq_true rfl) rfl rfl (fun _ _ h => h.elim) ?_
    rintro _ w1 ⟨rfl, fm1, h1⟩
    have R1 := R.th (k := 1)
    refine j_if_eq (tgt := 17) dX11_heardText_9 (by decide) (fun c_9_11 => ?_) (fun c_9_11 => ?_)
    · exact absurd c_9_11 (by decide)
    · refine j_ldcS (i := 10) dX11_heardText_12 rfl (Or.inl rfl) rfl rfl ?_
      refine j_goto (tgt := 26) dX11_heardText_14 (by decide) ?_
      refine j_aret dX11_heardText_26 rfl (Or.inl ⟨_, rfl⟩) rfl ?_ (by show _ ≤ 20; omega) (by show _ ≤ 640; omega)
      refine cast (congrFun (congrFun hQ9 _) _) ?_
      have hT9 : q_k2 x = 1 := by
        first | (first | (refine sp_k2_1 ?_ <;> (first | (with_reducible assumption) | (refine Or.inl ?_; (with_reducible assumption)) | (refine Or.inr ?_; (with_reducible assumption)) | (refine Or.inr (Or.inl ?_); (with_reducible assumption)) | (refine Or.inr (Or.inr ?_); (with_reducible assumption)) | (refine Or.inr (Or.inr (Or.inl ?_)); (with_reducible assumption)) | (refine Or.inr (Or.inr (Or.inr ?_)); (with_reducible assumption)) | (refine fun z => Or.elim z ?_ ?_ <;> (with_reducible assumption)) | (refine fun z => Or.elim z ?_ (fun z => Or.elim z ?_ ?_) <;> (with_reducible assumption)) | (refine fun z => Or.elim z ?_ (fun z => Or.elim z ?_ (fun z => Or.elim z ?_ ?_)) <;> (with_reducible assumption)) | (refine fun z => Or.elim z (fun z9 => z9 ?_) ?_ <;> (first | (with_reducible assumption) | (refine Or.inl ?_; (with_reducible assumption)) | (refine Or.inr (Or.inl ?_); (with_reducible assumption)) | (refine Or.inr (Or.inr ?_); (with_reducible assumption)) | (refine Or.inr (Or.inr (Or.inl ?_)); (with_reducible assumption)) | (refine Or.inr (Or.inr (Or.inr ?_)); (with_reducible assumption)))) | (refine Or.inl (fun z => Or.elim z ?_ (fun z => Or.elim z ?_ ?_)) <;> (with_reducible assumption)) | (refine Or.inl (fun z => Or.elim z ?_ (fun z => Or.elim z ?_ (fun z => Or.elim z ?_ ?_))) <;> (with_reducible assumption))))) | (first | (refine sp_k2_1 ?_ <;> (first | assumption | (refine Or.inl ?_; assumption) | (refine Or.inr ?_; assumption) | (refine Or.inr (Or.inl ?_); assumption) | (refine Or.inr (Or.inr ?_); assumption) | (refine Or.inr (Or.inr (Or.inl ?_)); assumption) | (refine Or.inr (Or.inr (Or.inr ?_)); assumption) | (refine fun z => Or.elim z ?_ ?_ <;> assumption) | (refine fun z => Or.elim z ?_ (fun z => Or.elim z ?_ ?_) <;> assumption) | (refine fun z => Or.elim z ?_ (fun z => Or.elim z ?_ (fun z => Or.elim z ?_ ?_)) <;> assumption) | (refine fun z => Or.elim z (fun z9 => z9 ?_) ?_ <;> (first | assumption | (refine Or.inl ?_; assumption) | (refine Or.inr (Or.inl ?_); assumption) | (refine Or.inr (Or.inr ?_); assumption) | (refine Or.inr (Or.inr (Or.inl ?_)); assumption) | (refine Or.inr (Or.inr (Or.inr ?_)); assumption))) | (refine Or.inl (fun z => Or.elim z ?_ (fun z => Or.elim z ?_ ?_)) <;> assumption) | (refine Or.inl (fun z => Or.elim z ?_ (fun z => Or.elim z ?_ (fun z => Or.elim z ?_ ?_))) <;> assumption))))
      exact ⟨_, _, rfl, rfl, (fm1.le (q' := 59) (by decide)), h1, hT9.symm, R1, fun z9 => absurd (hT9.symm.trans z9) (by decide)⟩
  · refine j_w w hw908 ?_
    have ei908 : sp_i (nI i908) = i908 := sp_in' (by omega)
    refine j_iconst (v := 1) dX11_heardText_5 (by decide) ?_
    refine j_callV (q := (RX11, TX11, 8)) dX11_heardText_6 kX11_start lX11_76 inX11_start seX11_start h.m rfl (cm_start0 hl w _ _ h) (Nat.le_of_ble_eq_true rfl) ⟨(by show _ ≤ 20; omega), (by show _ ≤ 640; omega)⟩ rfl (Nat.le_of_ble_eq_true rfl) rfl rfl (fun _ _ h => h.elim) ?_
    rintro _ w2 ⟨rfl, fm2, h2⟩
    have R2 := R.th (k := 0)
    refine j_if_eq (tgt := 17) dX11_heardText_9 (by decide) (fun c_9_26 => ?_) (fun c_9_26 => ?_)
    · refine j_aload_n dX11_heardText_17 rfl rfl ?_
      refine j_getf dX11_heardText_18 fX11_40 h2.m rfl ?_
      refine j_iload_n dX11_heardText_21 rfl ?_
      obtain ⟨fz909, gz909, hz909⟩ := h2.hs
      refine j_aald (v := .ref (1009 + i908)) dX11_heardText_22 gz909 rfl rfl (vp_in_nI (by omega) (by omega)) (by rw [z_cla (by omega)]; exact hz909 _ (by omega)) ?_
      refine j_callVN (q := (RX10, TX10, 5)) dX11_heardText_23 kX10_text lX11_210 inX10_text seX10_text (h2.hd (i := i908) (by omega)) rfl (cz_textH hl w2 S _ (i908) h2 R2 (by omega)) (Nat.le_of_ble_eq_true rfl) ⟨(by show _ ≤ 20; omega), (by show _ ≤ 640; omega)⟩ rfl (Nat.le_of_ble_eq_true rfl) rfl rfl (fun _ _ h => h.elim) ?_
      rintro _ w3 ⟨r3, s3, rfl, fm3, h3, R3, th3, ht3⟩
      have tq3 := th3.trans rfl
      refine j_aret dX11_heardText_26 rfl (Or.inl ⟨_, rfl⟩) rfl ?_ (by show _ ≤ 20; omega) (by show _ ≤ 640; omega)
      refine cast (congrFun (congrFun hQ9 _) _) ?_
      try rw [ei908]
      have hT9 : q_k2 (nI i908) = 0 := by
        first | (first | (refine sp_k2_0 ?_ <;> (first | (with_reducible assumption) | (refine Or.inl ?_; (with_reducible assumption)) | (refine Or.inr ?_; (with_reducible assumption)) | (refine Or.inr (Or.inl ?_); (with_reducible assumption)) | (refine Or.inr (Or.inr ?_); (with_reducible assumption)) | (refine Or.inr (Or.inr (Or.inl ?_)); (with_reducible assumption)) | (refine Or.inr (Or.inr (Or.inr ?_)); (with_reducible assumption)) | (refine fun z => Or.elim z ?_ ?_ <;> (with_reducible assumption)) | (refine fun z => Or.elim z ?_ (fun z => Or.elim z ?_ ?_) <;> (with_reducible assumption)) | (refine fun z => Or.elim z ?_ (fun z => Or.elim z ?_ (fun z => Or.elim z ?_ ?_)) <;> (with_reducible assumption)) | (refine fun z => Or.elim z (fun z9 => z9 ?_) ?_ <;> (first | (with_reducible assumption) | (refine Or.inl ?_; (with_reducible assumption)) | (refine Or.inr (Or.inl ?_); (with_reducible assumption)) | (refine Or.inr (Or.inr ?_); (with_reducible assumption)) | (refine Or.inr (Or.inr (Or.inl ?_)); (with_reducible assumption)) | (refine Or.inr (Or.inr (Or.inr ?_)); (with_reducible assumption)))) | (refine Or.inl (fun z => Or.elim z ?_ (fun z => Or.elim z ?_ ?_)) <;> (with_reducible assumption)) | (refine Or.inl (fun z => Or.elim z ?_ (fun z => Or.elim z ?_ (fun z => Or.elim z ?_ ?_))) <;> (with_reducible assumption))))) | (first | (refine sp_k2_0 ?_ <;> (first | assumption | (refine Or.inl ?_; assumption) | (refine Or.inr ?_; assumption) | (refine Or.inr (Or.inl ?_); assumption) | (refine Or.inr (Or.inr ?_); assumption) | (refine Or.inr (Or.inr (Or.inl ?_)); assumption) | (refine Or.inr (Or.inr (Or.inr ?_)); assumption) | (refine fun z => Or.elim z ?_ ?_ <;> assumption) | (refine fun z => Or.elim z ?_ (fun z => Or.elim z ?_ ?_) <;> assumption) | (refine fun z => Or.elim z ?_ (fun z => Or.elim z ?_ (fun z => Or.elim z ?_ ?_)) <;> assumption) | (refine fun z => Or.elim z (fun z9 => z9 ?_) ?_ <;> (first | assumption | (refine Or.inl ?_; assumption) | (refine Or.inr (Or.inl ?_); assumption) | (refine Or.inr (Or.inr ?_); assumption) | (refine Or.inr (Or.inr (Or.inl ?_)); assumption) | (refine Or.inr (Or.inr (Or.inr ?_)); assumption))) | (refine Or.inl (fun z => Or.elim z ?_ (fun z => Or.elim z ?_ ?_)) <;> assumption) | (refine Or.inl (fun z => Or.elim z ?_ (fun z => Or.elim z ?_ (fun z => Or.elim z ?_ ?_))) <;> assumption))))
      exact ⟨_, _, rfl, rfl, ((fm2.le (q' := 59) (by decide)).tr (fm3.le (q' := 59) (by decide))), h3, Eq.trans tq3 hT9.symm, R3, fun _ => ⟨_, rfl, ht3⟩⟩
    · exact absurd c_9_26 (by decide)
set_option maxRecDepth 100000 in
set_option maxHeartbeats 8000000 in
theorem cz_rowText (hl : l.stackTraces = false) (w : z_W) (S : sp_S) (s : z_Z) (x : Int32) (h : z_mst w s) (R : sp_MR S s)  : z_Con G l mX11_rowText 20 24 800 w [.ref 1000, .int x] (fun v w9 => ∃ (r9 : Value) (s9 : z_Z), v = some r9 ∧ z_ir r9 = true ∧ z_fm 59 w w9 ∧ z_mst w9 s9 ∧ s9.1.1 = q_k2 x ∧ sp_MR S s9 ∧ (q_k2 x = 0 → ∃ q, r9 = .ref q ∧ z_txL w9 57 q (tx_jt (sp_R S (sp_i x))))) (fun _ _ => False) := by
  generalize hQ9 : (fun (v : Option Value) (w9 : z_W) => ∃ (r9 : Value) (s9 : z_Z), v = some r9 ∧ z_ir r9 = true ∧ z_fm 59 w w9 ∧ z_mst w9 s9 ∧ s9.1.1 = q_k2 x ∧ sp_MR S s9 ∧ (q_k2 x = 0 → ∃ q, r9 = .ref q ∧ z_txL w9 57 q (tx_jt (sp_R S (sp_i x))))) = Q9
  refine z_body hl (by decide) rfl (Nat.le_of_ble_eq_true rfl) ?_
  show z_J G l mX11_rowText _ 0 [(0, _), (1, _)] [] _ 0 0
  refine j_aload_n dX11_rowText_0 rfl rfl ?_
  refine j_iload_n dX11_rowText_1 rfl ?_
  refine j_callS dX11_rowText_2 kX11_isNoTwo lX11_72 stX11_isNoTwo (cm_isNoTwo_r hl w _) (Nat.le_of_ble_eq_true rfl) ⟨(by show _ ≤ 24; omega), (by show _ ≤ 800; omega)⟩ rfl (Nat.le_of_ble_eq_true rfl) rfl rfl (fun _ _ h => h.elim) ?_
  rintro _ _ ⟨⟨rfl, hno910⟩ | ⟨rfl, i910, hi910, ht910, rfl⟩, hw910⟩
  · refine j_w w hw910 ?_
    refine j_iconst (v := 1) dX11_rowText_5 (by decide) ?_
    refine j_callV (q := (RX11, TX11, 8)) dX11_rowText_6 kX11_start lX11_76 inX11_start seX11_start h.m rfl (cm_start1 hl w _ _ h (by decide)) (Nat.le_of_ble_eq_true rfl) ⟨(by show _ ≤ 24; omega), (by show _ ≤ 800; omega)⟩ rfl (Nat.le_of_ble_eq_true rfl) rfl rfl (fun _ _ h => h.elim) ?_
    rintro _ w1 ⟨rfl, fm1, h1⟩
    have R1 := R.th (k := 1)
    refine j_if_eq (tgt := 15) dX11_rowText_9 (by decide) (fun c_9_11 => ?_) (fun c_9_11 => ?_)
    · exact absurd c_9_11 (by decide)
    · refine j_ldcS (i := 10) dX11_rowText_12 rfl (Or.inl rfl) rfl rfl ?_
      refine j_aret dX11_rowText_14 rfl (Or.inl ⟨_, rfl⟩) rfl ?_ (by show _ ≤ 24; omega) (by show _ ≤ 800; omega)
      refine cast (congrFun (congrFun hQ9 _) _) ?_
      have hT9 : q_k2 x = 1 := by
        first | (first | (refine sp_k2_1 ?_ <;> (first | (with_reducible assumption) | (refine Or.inl ?_; (with_reducible assumption)) | (refine Or.inr ?_; (with_reducible assumption)) | (refine Or.inr (Or.inl ?_); (with_reducible assumption)) | (refine Or.inr (Or.inr ?_); (with_reducible assumption)) | (refine Or.inr (Or.inr (Or.inl ?_)); (with_reducible assumption)) | (refine Or.inr (Or.inr (Or.inr ?_)); (with_reducible assumption)) | (refine fun z => Or.elim z ?_ ?_ <;> (with_reducible assumption)) | (refine fun z => Or.elim z ?_ (fun z => Or.elim z ?_ ?_) <;> (with_reducible assumption)) | (refine fun z => Or.elim z ?_ (fun z => Or.elim z ?_ (fun z => Or.elim z ?_ ?_)) <;> (with_reducible assumption)) | (refine fun z => Or.elim z (fun z9 => z9 ?_) ?_ <;> (first | (with_reducible assumption) | (refine Or.inl ?_; (with_reducible assumption)) | (refine Or.inr (Or.inl ?_); (with_reducible assumption)) | (refine Or.inr (Or.inr ?_); (with_reducible assumption)) | (refine Or.inr (Or.inr (Or.inl ?_)); (with_reducible assumption)) | (refine Or.inr (Or.inr (Or.inr ?_)); (with_reducible assumption)))) | (refine Or.inl (fun z => Or.elim z ?_ (fun z => Or.elim z ?_ ?_)) <;> (with_reducible assumption)) | (refine Or.inl (fun z => Or.elim z ?_ (fun z => Or.elim z ?_ (fun z => Or.elim z ?_ ?_))) <;> (with_reducible assumption))))) | (first | (refine sp_k2_1 ?_ <;> (first | assumption | (refine Or.inl ?_; assumption) | (refine Or.inr ?_; assumption) | (refine Or.inr (Or.inl ?_); assumption) | (refine Or.inr (Or.inr ?_); assumption) | (refine Or.inr (Or.inr (Or.inl ?_)); assumption) | (refine Or.inr (Or.inr (Or.inr ?_)); assumption) | (refine fun z => Or.elim z ?_ ?_ <;> assumption) | (refine fun z => Or.elim z ?_ (fun z => Or.elim z ?_ ?_) <;> assumption) | (refine fun z => Or.elim z ?_ (fun z => Or.elim z ?_ (fun z => Or.elim z ?_ ?_)) <;> assumption) | (refine fun z => Or.elim z (fun z9 => z9 ?_) ?_ <;> (first | assumption | (refine Or.inl ?_; assumption) | (refine Or.inr (Or.inl ?_); assumption) | (refine Or.inr (Or.inr ?_); assumption) | (refine Or.inr (Or.inr (Or.inl ?_)); assumption) | (refine Or.inr (Or.inr (Or.inr ?_)); assumption))) | (refine Or.inl (fun z => Or.elim z ?_ (fun z => Or.elim z ?_ ?_)) <;> assumption) | (refine Or.inl (fun z => Or.elim z ?_ (fun z => Or.elim z ?_ (fun z => Or.elim z ?_ ?_))) <;> assumption))))
      exact ⟨_, _, rfl, rfl, (fm1.le (q' := 59) (by decide)), h1, hT9.symm, R1, fun z9 => absurd (hT9.symm.trans z9) (by decide)⟩
  · refine j_w w hw910 ?_
    have ei910 : sp_i (nI i910) = i910 := sp_in' (by omega)
    refine j_iconst (v := 1) dX11_rowText_5 (by decide) ?_
    refine j_callV (q := (RX11, TX11, 8)) dX11_rowText_6 kX11_start lX11_76 inX11_start seX11_start h.m rfl (cm_start0 hl w _ _ h) (Nat.le_of_ble_eq_true rfl) ⟨(by show _ ≤ 24; omega), (by show _ ≤ 800; omega)⟩ rfl (Nat.le_of_ble_eq_true rfl) rfl rfl (fun _ _ h => h.elim) ?_
    rintro _ w2 ⟨rfl, fm2, h2⟩
    have R2 := R.th (k := 0)
    refine j_if_eq (tgt := 15) dX11_rowText_9 (by decide) (fun c_9_25 => ?_) (fun c_9_25 => ?_)
    · obtain ⟨x1, hx1a, hx1b, hx1c⟩ := z_fresh (56) (by decide) h2.fn
      refine j_new (N := 4) (w' := _) (n := x1) dX11_rowText_15 nX11_214 rfl (z_alW hx1c hx1a) (Nat.le_of_ble_eq_true rfl) (Nat.le_of_ble_eq_true rfl) ?_
      refine j_seal hx1a ?_
      intro w3 u3
      have fw3 := u3.fw hx1a hx1b
      have g3_x1 := u3.1
      have h3 := h2.gar fw3 (by omega)
      refine j_dup dX11_rowText_18 rfl ?_
      refine j_callI dX11_rowText_19 kJ4_init_da8c8 rfl lX11_216 inJ4_init_da8c8 rfl (sb_ini hl w3 56 x1 hx1a hx1b (by decide) h3.fn g3_x1) (Nat.le_of_ble_eq_true rfl) ⟨(by show _ ≤ 24; omega), (by show _ ≤ 800; omega)⟩ rfl (Nat.le_of_ble_eq_true rfl) rfl rfl (fun _ _ h => h.elim) ?_
      rintro _ w4 ⟨rfl, fw4, hs4⟩
      have hs4 := hs4.nil
      have fm4 := fw4.fm (q := 59) (by omega)
      have h4 := h3.gar fw4 (by omega)
      refine j_astore_n (lo' := [(2, _), (0, _), (1, _)]) dX11_rowText_22 rfl (by decide) rfl ?_
      refine j_aload_n dX11_rowText_23 rfl rfl ?_
      refine j_getf dX11_rowText_24 fX11_21 h4.m rfl ?_
      refine j_iload_n dX11_rowText_27 rfl ?_
      obtain ⟨lv912, -, lg912⟩ := z_li.cell h4.rows
      refine j_callV (q := (RJx4a65c, TJx4a65c, 3)) dX11_rowText_28 kJx4a65c_get_915e3 lX11_82 inJx4a65c_get_915e3 seJx4a65c_get_915e3 lg912 rfl (cl_get hl w4 41 1001 _ _ (i910) _ h4.rows (z_two2 (i := i910) (by omega))) (Nat.le_of_ble_eq_true rfl) ⟨(by show _ ≤ 24; omega), (by show _ ≤ 800; omega)⟩ rfl (Nat.le_of_ble_eq_true rfl) rfl rfl (fun _ _ h => h.elim) ?_
      rintro _ _ ⟨rfl, hw913⟩
      refine j_w w4 hw913 ?_
      refine j_castS dX11_rowText_31 (z_w 1341 ((lwt_6_3 6).trans rfl) (by decide +kernel)) (z_li.is (h4.rw (i := i910) (by omega)).1) ?_
      obtain ⟨lv916, -, lg916⟩ := z_li.cell (h4.rw (i := i910) (by omega)).1
      refine j_callV (q := (RJx4a65c, TJx4a65c, 3)) dX11_rowText_34 kJx4a65c_iterator_32c93 lX11_162 inJx4a65c_iterator_32c93 seJx4a65c_iterator_32c93 lg916 rfl (cl_iter hl w4 58 (11 + i910) _ _ _ (h4.rw (i := i910) (by omega)).1 (by decide) (by omega) h4.fn) (Nat.le_of_ble_eq_true rfl) ⟨(by show _ ≤ 24; omega), (by show _ ≤ 800; omega)⟩ rfl (Nat.le_of_ble_eq_true rfl) rfl rfl (fun _ _ h => h.elim) ?_
      rintro _ w5 ⟨it915, rfl, fw5, hita915, hitb915, hitc915, la915, git915⟩
      have hita915 : 1000 ≤ it915 := hita915
      have hitb915 : it915 % 64 = 58 := hitb915
      have fm5 := fw5.fm (q := 59) (by omega)
      have h5 := h4.gar fw5 (by omega)
      have hs5 := hs4.fw fw5 (by decide)
      refine j_astore_n (lo' := [(3, _), (2, _), (0, _), (1, _)]) dX11_rowText_37 rfl (by decide) rfl ?_
      have hlm9 : (sp_R S i910).length ≤ 12 := R2.l12 h5 (i := i910) (by omega) rfl
      have loop38 : ∀ (n9 : Nat) (w6 : z_W) (s1 : z_Z) (k : Nat) (L : List Int32) (bN : Nat) (la : Int32), (k ≤ (sp_R S i910).length) → (12 < k + n9) → ((sp_R S i910).length ≤ 12) → (sp_MR S s1) → (s1.1.1 = 0) → (z_mst w6 s1) → (z_fm 59 w w6) → (z_g w6 it915 = some (.inr (3, [.int (nI k), .int la, .int (z_qw s1 (i910)).1, .ref ((z_qr s1).2 (i910))]))) → (z_sbL w6 56 x1 L bN) → (L = tx_jt ((sp_R S i910).take k)) → (L.length ≤ 12 * k) → (bN ≤ 2 * 144 + 16) → z_J G l mX11_rowText (20, 24, 800, w, Q9, (fun _ _ => False)) 38 [(0, .ref 1000), (1, .int (nI i910)), (2, .ref x1), (3, .ref it915)] [] w6 (2 + bN / 16) (2 * bN) := by
        intro n9
        induction n9 with
        | zero => intro w6 s1 k L bN la hj hf9 hlm hR hth hm hfm git hsb hL hbn hbN; exact absurd hf9 (by omega)
        | succ n9 ih =>
          intro w6 s1 k L bN la hj hf9 hlm hR hth hm hfm git hsb hL hbn hbN
          have hnN0 := hsb.sb.nN
          refine j_aload_n dX11_rowText_38 rfl rfl ?_
          refine j_callF (x := ⟨"java/util/Iterator", "hasNext", "()Z"⟩) (q := (RJx35411, TJx35411, 4)) dX11_rowText_39 kJx35411_hasNext_aae02 ⟨(z_w 1765 ((lwt_8_1 10).trans rfl) (by decide +kernel)), (z_w 1769 ((lwt_8_1 14).trans rfl) (by decide +kernel)), inJx35411_hasNext_aae02, ⟨by decide, by decide⟩, rfl, fun U h => h.2.1⟩ git rfl (cl_hasN hl w6 _ (11 + i910) _ (k) _ _ (hm.rw (i := i910) (by omega)).1 ⟨_, git⟩ (by rw [z_bx_len, hR.wlB (by omega) rfl]; omega)) (Nat.le_of_ble_eq_true rfl) ⟨(by show _ ≤ 24; omega), (by show _ ≤ 800; omega)⟩ rfl (Nat.le_of_ble_eq_true rfl) rfl ?_
          rintro _ _ ⟨⟨x917, rfl, hz917, hp917⟩, hw917⟩
          refine j_w w6 hw917 ?_
          rw [z_bx_len, hR.wlB (by omega) rfl] at hz917 hp917
          refine j_if_eq (tgt := 88) dX11_rowText_44 (by decide) (fun c_44_70 => ?_) (fun c_44_70 => ?_)
          · have hk44 : k = (sp_R S (i910)).length := hz917 c_44_70
            refine j_aload_n dX11_rowText_88 rfl rfl ?_
            have hnN := hsb.sb.nN
            obtain ⟨fs918, gs918⟩ := hsb.sb.cell
            refine j_callV (q := (RJ4, TJ4, 4)) dX11_rowText_89 kJ4_toString_0e30d lX11_229 inJ4_toString_0e30d seJ4_toString_0e30d gs918 rfl (sd_toS hl w6 57 56 x1 (bN) (L) hsb (by decide) (by decide) hm.fn) (Nat.le_of_ble_eq_true rfl) ⟨(by show _ ≤ 24; omega), (by show _ ≤ 800; omega)⟩ rfl (Nat.le_of_ble_eq_true rfl) rfl rfl (fun _ _ h => h.elim) ?_
            rintro _ w7 ⟨r7, rfl, fw7, ht7⟩
            have g7_it915 := fw7.g (Or.inr (by omega)) git
            have fm7 := fw7.fm (q := 59) (by omega)
            have h7 := hm.gar fw7 (by omega)
            refine j_aret dX11_rowText_92 rfl (Or.inl ⟨_, rfl⟩) rfl ?_ (by show _ ≤ 24; omega) (by show _ ≤ 800; omega)
            refine cast (congrFun (congrFun hQ9 _) _) ?_
            try rw [ei910]
            have hT9 : q_k2 (nI i910) = 0 := by
              first | (first | (refine sp_k2_0 ?_ <;> (first | (with_reducible assumption) | (refine Or.inl ?_; (with_reducible assumption)) | (refine Or.inr ?_; (with_reducible assumption)) | (refine Or.inr (Or.inl ?_); (with_reducible assumption)) | (refine Or.inr (Or.inr ?_); (with_reducible assumption)) | (refine Or.inr (Or.inr (Or.inl ?_)); (with_reducible assumption)) | (refine Or.inr (Or.inr (Or.inr ?_)); (with_reducible assumption)) | (refine fun z => Or.elim z ?_ ?_ <;> (with_reducible assumption)) | (refine fun z => Or.elim z ?_ (fun z => Or.elim z ?_ ?_) <;> (with_reducible assumption)) | (refine fun z => Or.elim z ?_ (fun z => Or.elim z ?_ (fun z => Or.elim z ?_ ?_)) <;> (with_reducible assumption)) | (refine fun z => Or.elim z (fun z9 => z9 ?_) ?_ <;> (first | (with_reducible assumption) | (refine Or.inl ?_; (with_reducible assumption)) | (refine Or.inr (Or.inl ?_); (with_reducible assumption)) | (refine Or.inr (Or.inr ?_); (with_reducible assumption)) | (refine Or.inr (Or.inr (Or.inl ?_)); (with_reducible assumption)) | (refine Or.inr (Or.inr (Or.inr ?_)); (with_reducible assumption)))) | (refine Or.inl (fun z => Or.elim z ?_ (fun z => Or.elim z ?_ ?_)) <;> (with_reducible assumption)) | (refine Or.inl (fun z => Or.elim z ?_ (fun z => Or.elim z ?_ (fun z => Or.elim z ?_ ?_))) <;> (with_reducible assumption))))) | (first | (refine sp_k2_0 ?_ <;> (first | assumption | (refine Or.inl ?_; assumption) | (refine Or.inr ?_; assumption) | (refine Or.inr (Or.inl ?_); assumption) | (refine Or.inr (Or.inr ?_); assumption) | (refine Or.inr (Or.inr (Or.inl ?_)); assumption) | (refine Or.inr (Or.inr (Or.inr ?_)); assumption) | (refine fun z => Or.elim z ?_ ?_ <;> assumption) | (refine fun z => Or.elim z ?_ (fun z => Or.elim z ?_ ?_) <;> assumption) | (refine fun z => Or.elim z ?_ (fun z => Or.elim z ?_ (fun z => Or.elim z ?_ ?_)) <;> assumption) | (refine fun z => Or.elim z (fun z9 => z9 ?_) ?_ <;> (first | assumption | (refine Or.inl ?_; assumption) | (refine Or.inr (Or.inl ?_); assumption) | (refine Or.inr (Or.inr ?_); assumption) | (refine Or.inr (Or.inr (Or.inl ?_)); assumption) | (refine Or.inr (Or.inr (Or.inr ?_)); assumption))) | (refine Or.inl (fun z => Or.elim z ?_ (fun z => Or.elim z ?_ ?_)) <;> assumption) | (refine Or.inl (fun z => Or.elim z ?_ (fun z => Or.elim z ?_ (fun z => Or.elim z ?_ ?_))) <;> assumption))))
            rw [hL, List.take_of_length_le (by omega)] at ht7
            exact ⟨_, _, rfl, rfl, (hfm.tr fm7), h7, Eq.trans hth hT9.symm, hR, fun _ => ⟨_, rfl, ht7⟩⟩
          · have hk44 : k < (sp_R S (i910)).length := hp917 c_44_70
            refine j_aload_n dX11_rowText_47 rfl rfl ?_
            obtain ⟨x919, hx919⟩ : ∃ x, (sp_R S (i910))[k]? = some x := ⟨_, List.getElem?_eq_getElem (show k < (sp_R S (i910)).length by omega)⟩
            refine j_callF (x := ⟨"java/util/Iterator", "next", "()Ljava/lang/Object;"⟩) (q := (RJx35411, TJx35411, 4)) dX11_rowText_48 kJx35411_next_0502b ⟨(z_w 1775 ((lwt_8_1 20).trans rfl) (by decide +kernel)), (z_w 1778 ((lwt_8_1 23).trans rfl) (by decide +kernel)), inJx35411_next_0502b, ⟨by decide, by decide⟩, rfl, fun U h => h.2.2.1⟩ git rfl (cl_next hl w6 58 it915 (11 + i910) _ (k) _ _ _ (hm.rw (i := i910) (by omega)).1 ⟨_, git⟩ ((congrArg (fun z => (z_bx z)[k]?) (hR.w (by omega))).trans (sp_u_get hx919)) hita915 hitb915 (by omega)) (Nat.le_of_ble_eq_true rfl) ⟨(by show _ ≤ 24; omega), (by show _ ≤ 800; omega)⟩ rfl (Nat.le_of_ble_eq_true rfl) rfl ?_
            rintro _ w8 ⟨rfl, fw8, la8, git8⟩
            have fm8 := fw8.fm (q := 59) (by omega)
            have h8 := hm.gar fw8 (by omega)
            have hs8 := hsb.fw fw8 (by decide)
            refine j_castS dX11_rowText_53 (z_w 1567 ((lwt_7_2 22).trans rfl) (by decide +kernel)) rfl ?_
            refine j_callVB (v0 := .float _) (C := "java/lang/Integer") dX11_rowText_56 kJ6_intValue_8abf5 lX11_99 inJ6_intValue_8abf5 seJ6_intValue_8abf5 rfl (c_intv hl w8 x919) (Nat.le_of_ble_eq_true rfl) ⟨(by show _ ≤ 24; omega), (by show _ ≤ 800; omega)⟩ rfl (Nat.le_of_ble_eq_true rfl) rfl rfl (fun _ _ h => h.elim) ?_
            rintro _ _ ⟨rfl, hw921⟩
            refine j_w w8 hw921 ?_
            refine j_istore (lo' := [(4, _), (0, _), (1, _), (2, _), (3, _)]) dX11_rowText_59 (by decide) rfl ?_
            refine j_aload_n dX11_rowText_61 rfl rfl ?_
            refine j_aload_n dX11_rowText_62 rfl rfl ?_
            obtain ⟨fs922, gs922⟩ := hs8.sb.cell
            refine j_callV (q := (RJ4, TJ4, 4)) dX11_rowText_63 kJ4_length_8abf5 lX11_217 inJ4_length_8abf5 seJ4_length_8abf5 gs922 rfl (sb_len hl w8 56 x1 (L).length (bN) hs8.sb) (Nat.le_of_ble_eq_true rfl) ⟨(by show _ ≤ 24; omega), (by show _ ≤ 800; omega)⟩ rfl (Nat.le_of_ble_eq_true rfl) rfl rfl (fun _ _ h => h.elim) ?_
            rintro _ _ ⟨rfl, hw923⟩
            refine j_w w8 hw923 ?_
            refine j_if_le (tgt := 74) dX11_rowText_66 (by decide) (fun c_66_106 => ?_) (fun c_66_106 => ?_)
            · have hb66 : (L).length ≤ 0 := (nI_leI (a := (L).length) (b := 0) (by omega) (by omega)).mp c_66_106
              refine j_ldcS (i := 10) dX11_rowText_74 rfl (Or.inl rfl) rfl rfl ?_
              have hnN924 := hs8.sb.nN
              have hle924 := z_gr_le (N := bN) (m := ((L).length + 0))
              have hmx924 := z_gr_mx (N := bN) (m := ((L).length + 0)) (M := 144) (by omega) (by omega)
              obtain ⟨fs925, gs925⟩ := hs8.sb.cell
              refine j_callV (q := (RJ4, TJ4, 4)) dX11_rowText_76 kJ4_append_15ec4 lX11_222 inJ4_append_15ec4 seJ4_append_15ec4 gs925 rfl (sd_apK hl w8 56 x1 (bN) (L) 10 0 _ [] rfl (Or.inl rfl) (by decide +kernel) (by decide) hs8 (by omega) (by omega) (by decide) h8.fn) (Nat.le_of_ble_eq_true rfl) ⟨(by show _ ≤ 24; omega), (by show _ ≤ 800; omega)⟩ rfl (Nat.le_of_ble_eq_true rfl) rfl rfl (fun _ _ h => h.elim) ?_
              rintro _ w9 ⟨rfl, fw9, hs9⟩
              have ln9 : ((L ++ ([] : List Int32))).length = (L).length + 0 := by rw [List.length_append]; try rfl
              have g9_it915 := fw9.g (Or.inr (by omega)) git8
              have fm9 := fw9.fm (q := 59) (by omega)
              have h9 := h8.gar fw9 (by omega)
              refine j_iload dX11_rowText_79 rfl ?_
              have hzs926 := z_sz_in (x919)
              have hnN927 := hs9.sb.nN
              have hle927 := z_gr_le (N := (z_gr (bN) ((L).length + 0))) (m := (((L ++ ([] : List Int32))).length + z_sz (x919)))
              have hmx927 := z_gr_mx (N := (z_gr (bN) ((L).length + 0))) (m := (((L ++ ([] : List Int32))).length + z_sz (x919))) (M := 144) (by omega) (by omega)
              obtain ⟨fs928, gs928⟩ := hs9.sb.cell
              refine j_callV (q := (RJ4, TJ4, 4)) dX11_rowText_81 kJ4_append_bf812 lX11_226 inJ4_append_bf812 seJ4_append_bf812 gs928 rfl (sc_apI hl w9 56 x1 ((z_gr (bN) ((L).length + 0))) ((L ++ ([] : List Int32))) (x919) hs9 (by omega) (by omega) (by decide) h9.fn) (Nat.le_of_ble_eq_true rfl) ⟨(by show _ ≤ 24; omega), (by show _ ≤ 800; omega)⟩ rfl (Nat.le_of_ble_eq_true rfl) rfl rfl (fun _ _ h => h.elim) ?_
              rintro _ w10 ⟨rfl, fw10, hs10⟩
              have ln10 : (((L ++ ([] : List Int32)) ++ tx_dg (x919))).length = ((L ++ ([] : List Int32))).length + z_sz (x919) := by rw [List.length_append, tx_dl]; try rfl
              have g10_it915 := fw10.g (Or.inr (by omega)) g9_it915
              have fm10 := fw10.fm (q := 59) (by omega)
              have h10 := h9.gar fw10 (by omega)
              refine j_pop dX11_rowText_84 rfl ?_
              refine j_goto (tgt := 38) dX11_rowText_85 (by decide) ?_
              refine j_widen (kc' := 2 + (z_gr ((z_gr (bN) ((L).length + 0))) (((L ++ ([] : List Int32))).length + z_sz (x919))) / 16) (ks' := 2 * (z_gr ((z_gr (bN) ((L).length + 0))) (((L ++ ([] : List Int32))).length + z_sz (x919)))) (by omega) (by omega) ?_
              exact j_lo2 (ih w10 _ (k + 1) ((L ++ ([] : List Int32)) ++ tx_dg (x919)) (z_gr ((z_gr (bN) ((L).length + 0))) (((L ++ ([] : List Int32))).length + z_sz (x919))) _ (by omega) (by omega) hlm hR (by exact hth) h10 (((hfm.tr fm8).tr fm9).tr fm10) g10_it915 hs10 (by rw [sp_tkx hx919]; exact (tx_jt_g hL (L.length ≤ 0) (by omega)).1 (by omega)) (by omega) (by omega)) (z_q1 rfl (z_q1 rfl (z_q1 rfl (z_q1 rfl z_q0))))
            · have hb66 : 0 < (L).length := Nat.not_le.mp (fun z => c_66_106 ((nI_leI (a := (L).length) (b := 0) (by omega) (by omega)).mpr z))
              refine j_ldcS (i := 13) dX11_rowText_69 rfl (Or.inl rfl) rfl rfl ?_
              refine j_goto (tgt := 76) dX11_rowText_71 (by decide) ?_
              have hnN929 := hs8.sb.nN
              have hle929 := z_gr_le (N := bN) (m := ((L).length + 1))
              have hmx929 := z_gr_mx (N := bN) (m := ((L).length + 1)) (M := 144) (by omega) (by omega)
              obtain ⟨fs930, gs930⟩ := hs8.sb.cell
              refine j_callV (q := (RJ4, TJ4, 4)) dX11_rowText_76 kJ4_append_15ec4 lX11_222 inJ4_append_15ec4 seJ4_append_15ec4 gs930 rfl (sd_apK hl w8 56 x1 (bN) (L) 13 1 _ [32] rfl (Or.inl rfl) (by decide +kernel) (by decide) hs8 (by omega) (by omega) (by decide) h8.fn) (Nat.le_of_ble_eq_true rfl) ⟨(by show _ ≤ 24; omega), (by show _ ≤ 800; omega)⟩ rfl (Nat.le_of_ble_eq_true rfl) rfl rfl (fun _ _ h => h.elim) ?_
              rintro _ w11 ⟨rfl, fw11, hs11⟩
              have ln11 : ((L ++ ([32] : List Int32))).length = (L).length + 1 := by rw [List.length_append]; try rfl
              have g11_it915 := fw11.g (Or.inr (by omega)) git8
              have fm11 := fw11.fm (q := 59) (by omega)
              have h11 := h8.gar fw11 (by omega)
              refine j_iload dX11_rowText_79 rfl ?_
              have hzs931 := z_sz_in (x919)
              have hnN932 := hs11.sb.nN
              have hle932 := z_gr_le (N := (z_gr (bN) ((L).length + 1))) (m := (((L ++ ([32] : List Int32))).length + z_sz (x919)))
              have hmx932 := z_gr_mx (N := (z_gr (bN) ((L).length + 1))) (m := (((L ++ ([32] : List Int32))).length + z_sz (x919))) (M := 144) (by omega) (by omega)
              obtain ⟨fs933, gs933⟩ := hs11.sb.cell
              refine j_callV (q := (RJ4, TJ4, 4)) dX11_rowText_81 kJ4_append_bf812 lX11_226 inJ4_append_bf812 seJ4_append_bf812 gs933 rfl (sc_apI hl w11 56 x1 ((z_gr (bN) ((L).length + 1))) ((L ++ ([32] : List Int32))) (x919) hs11 (by omega) (by omega) (by decide) h11.fn) (Nat.le_of_ble_eq_true rfl) ⟨(by show _ ≤ 24; omega), (by show _ ≤ 800; omega)⟩ rfl (Nat.le_of_ble_eq_true rfl) rfl rfl (fun _ _ h => h.elim) ?_
              rintro _ w12 ⟨rfl, fw12, hs12⟩
              have ln12 : (((L ++ ([32] : List Int32)) ++ tx_dg (x919))).length = ((L ++ ([32] : List Int32))).length + z_sz (x919) := by rw [List.length_append, tx_dl]; try rfl
              have g12_it915 := fw12.g (Or.inr (by omega)) g11_it915
              have fm12 := fw12.fm (q := 59) (by omega)
              have h12 := h11.gar fw12 (by omega)
              refine j_pop dX11_rowText_84 rfl ?_
              refine j_goto (tgt := 38) dX11_rowText_85 (by decide) ?_
              refine j_widen (kc' := 2 + (z_gr ((z_gr (bN) ((L).length + 1))) (((L ++ ([32] : List Int32))).length + z_sz (x919))) / 16) (ks' := 2 * (z_gr ((z_gr (bN) ((L).length + 1))) (((L ++ ([32] : List Int32))).length + z_sz (x919)))) (by omega) (by omega) ?_
              exact j_lo2 (ih w12 _ (k + 1) ((L ++ ([32] : List Int32)) ++ tx_dg (x919)) (z_gr ((z_gr (bN) ((L).length + 1))) (((L ++ ([32] : List Int32))).length + z_sz (x919))) _ (by omega) (by omega) hlm hR (by exact hth) h12 (((hfm.tr fm8).tr fm11).tr fm12) g12_it915 hs12 (by rw [sp_tkx hx919]; exact (tx_jt_g hL (L.length ≤ 0) (by omega)).2 (by omega)) (by omega) (by omega)) (z_q1 rfl (z_q1 rfl (z_q1 rfl (z_q1 rfl z_q0))))
      refine j_widen (kc' := 2 + 16 / 16) (ks' := 2 * 16) (by decide) (by decide) ?_
      exact j_lo2 (loop38 (12 + 1) w5 _ 0 [] 16 _ (Nat.zero_le _) (by omega) hlm9 R2 (by exact rfl) h5 ((((fm2.le (q' := 59) (by decide)).tr (fw3.fm (q := 59) (by omega))).tr fm4).tr fm5) git915 hs5 rfl (Nat.zero_le _) (by omega)) (z_q1 rfl (z_q1 rfl (z_q1 rfl (z_q1 rfl z_q0))))
    · exact absurd c_9_25 (by decide)
set_option maxRecDepth 100000 in
set_option maxHeartbeats 8000000 in
theorem cz_text (hl : l.stackTraces = false) (w : z_W) (S : sp_S) (s : z_Z) (x : Int32) (h : z_mst w s) (R : sp_MR S s)  : z_Con G l mX11_text 20 66 2450 w [.ref 1000, .int x] (fun v w9 => ∃ (r9 : Value) (s9 : z_Z), v = some r9 ∧ z_ir r9 = true ∧ z_fm 59 w w9 ∧ z_mst w9 s9 ∧ s9.1.1 = sp_k3 x ∧ sp_MR S s9 ∧ (sp_k3 x = 0 → ∃ q, r9 = .ref q ∧ z_txL w9 57 q (tx_pt (sp_T S (sp_i x))))) (fun _ _ => False) := by
  generalize hQ9 : (fun (v : Option Value) (w9 : z_W) => ∃ (r9 : Value) (s9 : z_Z), v = some r9 ∧ z_ir r9 = true ∧ z_fm 59 w w9 ∧ z_mst w9 s9 ∧ s9.1.1 = sp_k3 x ∧ sp_MR S s9 ∧ (sp_k3 x = 0 → ∃ q, r9 = .ref q ∧ z_txL w9 57 q (tx_pt (sp_T S (sp_i x))))) = Q9
  refine z_body hl (by decide) rfl (Nat.le_of_ble_eq_true rfl) ?_
  show z_J G l mX11_text _ 0 [(0, _), (1, _)] [] _ 0 0
  refine j_aload_n dX11_text_0 rfl rfl ?_
  refine j_iload_n dX11_text_1 rfl ?_
  refine j_callS dX11_text_2 kX11_isNoTable lX11_136 stX11_isNoTable (cm_isNoTable_r hl w _) (Nat.le_of_ble_eq_true rfl) ⟨(by show _ ≤ 66; omega), (by show _ ≤ 2450; omega)⟩ rfl (Nat.le_of_ble_eq_true rfl) rfl rfl (fun _ _ h => h.elim) ?_
  rintro _ _ ⟨⟨rfl, hno934⟩ | ⟨rfl, i934, hi934, ht934, rfl⟩, hw934⟩
  · refine j_w w hw934 ?_
    refine j_iconst (v := 1) dX11_text_5 (by decide) ?_
    refine j_callV (q := (RX11, TX11, 8)) dX11_text_6 kX11_start lX11_76 inX11_start seX11_start h.m rfl (cm_start1 hl w _ _ h (by decide)) (Nat.le_of_ble_eq_true rfl) ⟨(by show _ ≤ 66; omega), (by show _ ≤ 2450; omega)⟩ rfl (Nat.le_of_ble_eq_true rfl) rfl rfl (fun _ _ h => h.elim) ?_
    rintro _ w1 ⟨rfl, fm1, h1⟩
    have R1 := R.th (k := 1)
    refine j_if_eq (tgt := 15) dX11_text_9 (by decide) (fun c_9_11 => ?_) (fun c_9_11 => ?_)
    · exact absurd c_9_11 (by decide)
    · refine j_ldcS (i := 10) dX11_text_12 rfl (Or.inl rfl) rfl rfl ?_
      refine j_aret dX11_text_14 rfl (Or.inl ⟨_, rfl⟩) rfl ?_ (by show _ ≤ 66; omega) (by show _ ≤ 2450; omega)
      refine cast (congrFun (congrFun hQ9 _) _) ?_
      have hT9 : sp_k3 x = 1 := by
        first | (first | (refine sp_k3_1 ?_ <;> (first | (with_reducible assumption) | (refine Or.inl ?_; (with_reducible assumption)) | (refine Or.inr ?_; (with_reducible assumption)) | (refine Or.inr (Or.inl ?_); (with_reducible assumption)) | (refine Or.inr (Or.inr ?_); (with_reducible assumption)) | (refine Or.inr (Or.inr (Or.inl ?_)); (with_reducible assumption)) | (refine Or.inr (Or.inr (Or.inr ?_)); (with_reducible assumption)) | (refine fun z => Or.elim z ?_ ?_ <;> (with_reducible assumption)) | (refine fun z => Or.elim z ?_ (fun z => Or.elim z ?_ ?_) <;> (with_reducible assumption)) | (refine fun z => Or.elim z ?_ (fun z => Or.elim z ?_ (fun z => Or.elim z ?_ ?_)) <;> (with_reducible assumption)) | (refine fun z => Or.elim z (fun z9 => z9 ?_) ?_ <;> (first | (with_reducible assumption) | (refine Or.inl ?_; (with_reducible assumption)) | (refine Or.inr (Or.inl ?_); (with_reducible assumption)) | (refine Or.inr (Or.inr ?_); (with_reducible assumption)) | (refine Or.inr (Or.inr (Or.inl ?_)); (with_reducible assumption)) | (refine Or.inr (Or.inr (Or.inr ?_)); (with_reducible assumption)))) | (refine Or.inl (fun z => Or.elim z ?_ (fun z => Or.elim z ?_ ?_)) <;> (with_reducible assumption)) | (refine Or.inl (fun z => Or.elim z ?_ (fun z => Or.elim z ?_ (fun z => Or.elim z ?_ ?_))) <;> (with_reducible assumption))))) | (first | (refine sp_k3_1 ?_ <;> (first | assumption | (refine Or.inl ?_; assumption) | (refine Or.inr ?_; assumption) | (refine Or.inr (Or.inl ?_); assumption) | (refine Or.inr (Or.inr ?_); assumption) | (refine Or.inr (Or.inr (Or.inl ?_)); assumption) | (refine Or.inr (Or.inr (Or.inr ?_)); assumption) | (refine fun z => Or.elim z ?_ ?_ <;> assumption) | (refine fun z => Or.elim z ?_ (fun z => Or.elim z ?_ ?_) <;> assumption) | (refine fun z => Or.elim z ?_ (fun z => Or.elim z ?_ (fun z => Or.elim z ?_ ?_)) <;> assumption) | (refine fun z => Or.elim z (fun z9 => z9 ?_) ?_ <;> (first | assumption | (refine Or.inl ?_; assumption) | (refine Or.inr (Or.inl ?_); assumption) | (refine Or.inr (Or.inr ?_); assumption) | (refine Or.inr (Or.inr (Or.inl ?_)); assumption) | (refine Or.inr (Or.inr (Or.inr ?_)); assumption))) | (refine Or.inl (fun z => Or.elim z ?_ (fun z => Or.elim z ?_ ?_)) <;> assumption) | (refine Or.inl (fun z => Or.elim z ?_ (fun z => Or.elim z ?_ (fun z => Or.elim z ?_ ?_))) <;> assumption))))
      exact ⟨_, _, rfl, rfl, (fm1.le (q' := 59) (by decide)), h1, hT9.symm, R1, fun z9 => absurd (hT9.symm.trans z9) (by decide)⟩
  · refine j_w w hw934 ?_
    have ei934 : sp_i (nI i934) = i934 := sp_in' (by omega)
    refine j_iconst (v := 1) dX11_text_5 (by decide) ?_
    refine j_callV (q := (RX11, TX11, 8)) dX11_text_6 kX11_start lX11_76 inX11_start seX11_start h.m rfl (cm_start0 hl w _ _ h) (Nat.le_of_ble_eq_true rfl) ⟨(by show _ ≤ 66; omega), (by show _ ≤ 2450; omega)⟩ rfl (Nat.le_of_ble_eq_true rfl) rfl rfl (fun _ _ h => h.elim) ?_
    rintro _ w2 ⟨rfl, fm2, h2⟩
    have R2 := R.th (k := 0)
    refine j_if_eq (tgt := 15) dX11_text_9 (by decide) (fun c_9_25 => ?_) (fun c_9_25 => ?_)
    · obtain ⟨x1, hx1a, hx1b, hx1c⟩ := z_fresh (56) (by decide) h2.fn
      refine j_new (N := 4) (w' := _) (n := x1) dX11_text_15 nX11_214 rfl (z_alW hx1c hx1a) (Nat.le_of_ble_eq_true rfl) (Nat.le_of_ble_eq_true rfl) ?_
      refine j_seal hx1a ?_
      intro w3 u3
      have fw3 := u3.fw hx1a hx1b
      have g3_x1 := u3.1
      have h3 := h2.gar fw3 (by omega)
      refine j_dup dX11_text_18 rfl ?_
      refine j_callI dX11_text_19 kJ4_init_da8c8 rfl lX11_216 inJ4_init_da8c8 rfl (sb_ini hl w3 56 x1 hx1a hx1b (by decide) h3.fn g3_x1) (Nat.le_of_ble_eq_true rfl) ⟨(by show _ ≤ 66; omega), (by show _ ≤ 2450; omega)⟩ rfl (Nat.le_of_ble_eq_true rfl) rfl rfl (fun _ _ h => h.elim) ?_
      rintro _ w4 ⟨rfl, fw4, hs4⟩
      have hs4 := hs4.nil
      have fm4 := fw4.fm (q := 59) (by omega)
      have h4 := h3.gar fw4 (by omega)
      refine j_astore_n (lo' := [(2, _), (0, _), (1, _)]) dX11_text_22 rfl (by decide) rfl ?_
      refine j_aload_n dX11_text_23 rfl rfl ?_
      refine j_getf dX11_text_24 fX11_34 h4.m rfl ?_
      refine j_iload_n dX11_text_27 rfl ?_
      obtain ⟨lv936, -, lg936⟩ := z_li.cell h4.tabs
      refine j_callV (q := (RJx4a65c, TJx4a65c, 3)) dX11_text_28 kJx4a65c_get_915e3 lX11_82 inJx4a65c_get_915e3 seJx4a65c_get_915e3 lg936 rfl (cl_get hl w4 47 1007 _ _ (i934) _ h4.tabs (z_thr3 (t := i934) (by omega))) (Nat.le_of_ble_eq_true rfl) ⟨(by show _ ≤ 66; omega), (by show _ ≤ 2450; omega)⟩ rfl (Nat.le_of_ble_eq_true rfl) rfl rfl (fun _ _ h => h.elim) ?_
      rintro _ _ ⟨rfl, hw937⟩
      refine j_w w4 hw937 ?_
      refine j_castS dX11_text_31 (z_w 1341 ((lwt_6_3 6).trans rfl) (by decide +kernel)) (z_li.is (h4.tb (t := i934) (by omega))) ?_
      obtain ⟨lv940, -, lg940⟩ := z_li.cell (h4.tb (t := i934) (by omega))
      refine j_callV (q := (RJx4a65c, TJx4a65c, 3)) dX11_text_34 kJx4a65c_iterator_32c93 lX11_162 inJx4a65c_iterator_32c93 seJx4a65c_iterator_32c93 lg940 rfl (cl_iter hl w4 58 (51 + i934) _ _ _ (h4.tb (t := i934) (by omega)) (by decide) (by omega) h4.fn) (Nat.le_of_ble_eq_true rfl) ⟨(by show _ ≤ 66; omega), (by show _ ≤ 2450; omega)⟩ rfl (Nat.le_of_ble_eq_true rfl) rfl rfl (fun _ _ h => h.elim) ?_
      rintro _ w5 ⟨it939, rfl, fw5, hita939, hitb939, hitc939, la939, git939⟩
      have hita939 : 1000 ≤ it939 := hita939
      have hitb939 : it939 % 64 = 58 := hitb939
      have fm5 := fw5.fm (q := 59) (by omega)
      have h5 := h4.gar fw5 (by omega)
      have hs5 := hs4.fw fw5 (by decide)
      refine j_astore_n (lo' := [(3, _), (2, _), (0, _), (1, _)]) dX11_text_37 rfl (by decide) rfl ?_
      have hlm9 : (sp_T S i934).length ≤ 20 := R2.l20 h5 (t := i934) (by omega) rfl
      have loop38 : ∀ (n9 : Nat) (w6 : z_W) (s1 : z_Z) (k : Nat) (L : List Int32) (bN : Nat) (la : Int32), (k ≤ (sp_T S i934).length) → (20 < k + n9) → ((sp_T S i934).length ≤ 20) → (sp_MR S s1) → (s1.1.1 = 0) → (z_mst w6 s1) → (z_fm 59 w w6) → (z_g w6 it939 = some (.inr (3, [.int (nI k), .int la, .int (z_qp s1 (i934)).1, .ref (1011 + i934)]))) → (z_sbL w6 56 x1 L bN) → (L = tx_pt ((sp_T S i934).take k)) → (L.length ≤ 24 * k) → (bN ≤ 2 * 480 + 16) → z_J G l mX11_text (20, 66, 2450, w, Q9, (fun _ _ => False)) 38 [(0, .ref 1000), (1, .int (nI i934)), (2, .ref x1), (3, .ref it939)] [] w6 (2 + bN / 16) (2 * bN) := by
        intro n9
        induction n9 with
        | zero => intro w6 s1 k L bN la hj hf9 hlm hR hth hm hfm git hsb hL hbn hbN; exact absurd hf9 (by omega)
        | succ n9 ih =>
          intro w6 s1 k L bN la hj hf9 hlm hR hth hm hfm git hsb hL hbn hbN
          have hnN0 := hsb.sb.nN
          refine j_aload_n dX11_text_38 rfl rfl ?_
          refine j_callF (x := ⟨"java/util/Iterator", "hasNext", "()Z"⟩) (q := (RJx35411, TJx35411, 4)) dX11_text_39 kJx35411_hasNext_aae02 ⟨(z_w 1765 ((lwt_8_1 10).trans rfl) (by decide +kernel)), (z_w 1769 ((lwt_8_1 14).trans rfl) (by decide +kernel)), inJx35411_hasNext_aae02, ⟨by decide, by decide⟩, rfl, fun U h => h.2.1⟩ git rfl (cl_hasN hl w6 _ (51 + i934) _ (k) _ _ (hm.tb (t := i934) (by omega)) ⟨_, git⟩ (by rw [z_rs_len, hR.tlB (by omega) rfl]; omega)) (Nat.le_of_ble_eq_true rfl) ⟨(by show _ ≤ 66; omega), (by show _ ≤ 2450; omega)⟩ rfl (Nat.le_of_ble_eq_true rfl) rfl ?_
          rintro _ _ ⟨⟨x941, rfl, hz941, hp941⟩, hw941⟩
          refine j_w w6 hw941 ?_
          rw [z_rs_len, hR.tlB (by omega) rfl] at hz941 hp941
          refine j_if_eq (tgt := 99) dX11_text_44 (by decide) (fun c_44_70 => ?_) (fun c_44_70 => ?_)
          · have hk44 : k = (sp_T S (i934)).length := hz941 c_44_70
            refine j_aload_n dX11_text_99 rfl rfl ?_
            have hnN := hsb.sb.nN
            obtain ⟨fs942, gs942⟩ := hsb.sb.cell
            refine j_callV (q := (RJ4, TJ4, 4)) dX11_text_100 kJ4_toString_0e30d lX11_229 inJ4_toString_0e30d seJ4_toString_0e30d gs942 rfl (sd_toS hl w6 57 56 x1 (bN) (L) hsb (by decide) (by decide) hm.fn) (Nat.le_of_ble_eq_true rfl) ⟨(by show _ ≤ 66; omega), (by show _ ≤ 2450; omega)⟩ rfl (Nat.le_of_ble_eq_true rfl) rfl rfl (fun _ _ h => h.elim) ?_
            rintro _ w7 ⟨r7, rfl, fw7, ht7⟩
            have g7_it939 := fw7.g (Or.inr (by omega)) git
            have fm7 := fw7.fm (q := 59) (by omega)
            have h7 := hm.gar fw7 (by omega)
            refine j_aret dX11_text_103 rfl (Or.inl ⟨_, rfl⟩) rfl ?_ (by show _ ≤ 66; omega) (by show _ ≤ 2450; omega)
            refine cast (congrFun (congrFun hQ9 _) _) ?_
            try rw [ei934]
            have hT9 : sp_k3 (nI i934) = 0 := by
              first | (first | (refine sp_k3_0 ?_ <;> (first | (with_reducible assumption) | (refine Or.inl ?_; (with_reducible assumption)) | (refine Or.inr ?_; (with_reducible assumption)) | (refine Or.inr (Or.inl ?_); (with_reducible assumption)) | (refine Or.inr (Or.inr ?_); (with_reducible assumption)) | (refine Or.inr (Or.inr (Or.inl ?_)); (with_reducible assumption)) | (refine Or.inr (Or.inr (Or.inr ?_)); (with_reducible assumption)) | (refine fun z => Or.elim z ?_ ?_ <;> (with_reducible assumption)) | (refine fun z => Or.elim z ?_ (fun z => Or.elim z ?_ ?_) <;> (with_reducible assumption)) | (refine fun z => Or.elim z ?_ (fun z => Or.elim z ?_ (fun z => Or.elim z ?_ ?_)) <;> (with_reducible assumption)) | (refine fun z => Or.elim z (fun z9 => z9 ?_) ?_ <;> (first | (with_reducible assumption) | (refine Or.inl ?_; (with_reducible assumption)) | (refine Or.inr (Or.inl ?_); (with_reducible assumption)) | (refine Or.inr (Or.inr ?_); (with_reducible assumption)) | (refine Or.inr (Or.inr (Or.inl ?_)); (with_reducible assumption)) | (refine Or.inr (Or.inr (Or.inr ?_)); (with_reducible assumption)))) | (refine Or.inl (fun z => Or.elim z ?_ (fun z => Or.elim z ?_ ?_)) <;> (with_reducible assumption)) | (refine Or.inl (fun z => Or.elim z ?_ (fun z => Or.elim z ?_ (fun z => Or.elim z ?_ ?_))) <;> (with_reducible assumption))))) | (first | (refine sp_k3_0 ?_ <;> (first | assumption | (refine Or.inl ?_; assumption) | (refine Or.inr ?_; assumption) | (refine Or.inr (Or.inl ?_); assumption) | (refine Or.inr (Or.inr ?_); assumption) | (refine Or.inr (Or.inr (Or.inl ?_)); assumption) | (refine Or.inr (Or.inr (Or.inr ?_)); assumption) | (refine fun z => Or.elim z ?_ ?_ <;> assumption) | (refine fun z => Or.elim z ?_ (fun z => Or.elim z ?_ ?_) <;> assumption) | (refine fun z => Or.elim z ?_ (fun z => Or.elim z ?_ (fun z => Or.elim z ?_ ?_)) <;> assumption) | (refine fun z => Or.elim z (fun z9 => z9 ?_) ?_ <;> (first | assumption | (refine Or.inl ?_; assumption) | (refine Or.inr (Or.inl ?_); assumption) | (refine Or.inr (Or.inr ?_); assumption) | (refine Or.inr (Or.inr (Or.inl ?_)); assumption) | (refine Or.inr (Or.inr (Or.inr ?_)); assumption))) | (refine Or.inl (fun z => Or.elim z ?_ (fun z => Or.elim z ?_ ?_)) <;> assumption) | (refine Or.inl (fun z => Or.elim z ?_ (fun z => Or.elim z ?_ (fun z => Or.elim z ?_ ?_))) <;> assumption))))
            rw [hL, List.take_of_length_le (by omega)] at ht7
            exact ⟨_, _, rfl, rfl, (hfm.tr fm7), h7, Eq.trans hth hT9.symm, hR, fun _ => ⟨_, rfl, ht7⟩⟩
          · have hk44 : k < (sp_T S (i934)).length := hp941 c_44_70
            refine j_aload_n dX11_text_47 rfl rfl ?_
            obtain ⟨e943, he943⟩ : ∃ e, (sp_T S (i934))[k]? = some e := ⟨_, List.getElem?_eq_getElem (show k < (sp_T S (i934)).length by omega)⟩
            obtain ⟨p943, hp943, hq943, hk943, hv0943, hv1943, hv2943⟩ := hR.prB hm (t := i934) (k := k) (by omega) rfl he943
            refine j_callF (x := ⟨"java/util/Iterator", "next", "()Ljava/lang/Object;"⟩) (q := (RJx35411, TJx35411, 4)) dX11_text_48 kJx35411_next_0502b ⟨(z_w 1775 ((lwt_8_1 20).trans rfl) (by decide +kernel)), (z_w 1778 ((lwt_8_1 23).trans rfl) (by decide +kernel)), inJx35411_next_0502b, ⟨by decide, by decide⟩, rfl, fun U h => h.2.2.1⟩ git rfl (cl_next hl w6 58 it939 (51 + i934) _ (k) _ _ _ (hm.tb (t := i934) (by omega)) ⟨_, git⟩ hq943 hita939 hitb939 (by omega)) (Nat.le_of_ble_eq_true rfl) ⟨(by show _ ≤ 66; omega), (by show _ ≤ 2450; omega)⟩ rfl (Nat.le_of_ble_eq_true rfl) rfl ?_
            rintro _ w8 ⟨rfl, fw8, la8, git8⟩
            have fm8 := fw8.fm (q := 59) (by omega)
            have h8 := hm.gar fw8 (by omega)
            have hs8 := hsb.fw fw8 (by decide)
            refine j_castS dX11_text_53 (z_w 1663 ((lwt_7_5 28).trans rfl) (by decide +kernel)) (z_isA ((h8.pr (t := i934) (by omega)).1 p943 hp943).2) ?_
            refine j_astore (lo' := [(4, _), (0, _), (1, _), (2, _), (3, _)]) dX11_text_56 rfl (by decide) rfl ?_
            refine j_aload_n dX11_text_58 rfl rfl ?_
            refine j_aload_n dX11_text_59 rfl rfl ?_
            obtain ⟨fs945, gs945⟩ := hs8.sb.cell
            refine j_callV (q := (RJ4, TJ4, 4)) dX11_text_60 kJ4_length_8abf5 lX11_217 inJ4_length_8abf5 seJ4_length_8abf5 gs945 rfl (sb_len hl w8 56 x1 (L).length (bN) hs8.sb) (Nat.le_of_ble_eq_true rfl) ⟨(by show _ ≤ 66; omega), (by show _ ≤ 2450; omega)⟩ rfl (Nat.le_of_ble_eq_true rfl) rfl rfl (fun _ _ h => h.elim) ?_
            rintro _ _ ⟨rfl, hw946⟩
            refine j_w w8 hw946 ?_
            refine j_if_le (tgt := 71) dX11_text_63 (by decide) (fun c_63_104 => ?_) (fun c_63_104 => ?_)
            · have hb63 : (L).length ≤ 0 := (nI_leI (a := (L).length) (b := 0) (by omega) (by omega)).mp c_63_104
              refine j_ldcS (i := 10) dX11_text_71 rfl (Or.inl rfl) rfl rfl ?_
              have hnN947 := hs8.sb.nN
              have hle947 := z_gr_le (N := bN) (m := ((L).length + 0))
              have hmx947 := z_gr_mx (N := bN) (m := ((L).length + 0)) (M := 480) (by omega) (by omega)
              obtain ⟨fs948, gs948⟩ := hs8.sb.cell
              refine j_callV (q := (RJ4, TJ4, 4)) dX11_text_73 kJ4_append_15ec4 lX11_222 inJ4_append_15ec4 seJ4_append_15ec4 gs948 rfl (sd_apK hl w8 56 x1 (bN) (L) 10 0 _ [] rfl (Or.inl rfl) (by decide +kernel) (by decide) hs8 (by omega) (by omega) (by decide) h8.fn) (Nat.le_of_ble_eq_true rfl) ⟨(by show _ ≤ 66; omega), (by show _ ≤ 2450; omega)⟩ rfl (Nat.le_of_ble_eq_true rfl) rfl rfl (fun _ _ h => h.elim) ?_
              rintro _ w9 ⟨rfl, fw9, hs9⟩
              have ln9 : ((L ++ ([] : List Int32))).length = (L).length + 0 := by rw [List.length_append]; try rfl
              have g9_it939 := fw9.g (Or.inr (by omega)) git8
              have fm9 := fw9.fm (q := 59) (by omega)
              have h9 := h8.gar fw9 (by omega)
              refine j_aload dX11_text_76 rfl rfl ?_
              refine j_iconst (v := 0) dX11_text_78 (by decide) ?_
              refine j_ld dX11_text_79 ((h9.pr (t := i934) (by omega)).1 p943 hp943).2 (vp_in_nI (n := 0) (by decide) (by decide)) ?_
              refine j_top (congrArg Value.int (show _ = nI e943.1 from by rw [show (0 : Int32).toNatClampNeg = 0 from by decide]; exact hv0943)) ?_
              have hzs950 := z_sz_in (nI e943.1)
              have hnN951 := hs9.sb.nN
              have hle951 := z_gr_le (N := (z_gr (bN) ((L).length + 0))) (m := (((L ++ ([] : List Int32))).length + z_sz (nI e943.1)))
              have hmx951 := z_gr_mx (N := (z_gr (bN) ((L).length + 0))) (m := (((L ++ ([] : List Int32))).length + z_sz (nI e943.1))) (M := 480) (by omega) (by omega)
              obtain ⟨fs952, gs952⟩ := hs9.sb.cell
              refine j_callV (q := (RJ4, TJ4, 4)) dX11_text_80 kJ4_append_bf812 lX11_226 inJ4_append_bf812 seJ4_append_bf812 gs952 rfl (sc_apI hl w9 56 x1 ((z_gr (bN) ((L).length + 0))) ((L ++ ([] : List Int32))) (nI e943.1) hs9 (by omega) (by omega) (by decide) h9.fn) (Nat.le_of_ble_eq_true rfl) ⟨(by show _ ≤ 66; omega), (by show _ ≤ 2450; omega)⟩ rfl (Nat.le_of_ble_eq_true rfl) rfl rfl (fun _ _ h => h.elim) ?_
              rintro _ w10 ⟨rfl, fw10, hs10⟩
              have ln10 : (((L ++ ([] : List Int32)) ++ tx_dg (nI e943.1))).length = ((L ++ ([] : List Int32))).length + z_sz (nI e943.1) := by rw [List.length_append, tx_dl]; try rfl
              have g10_it939 := fw10.g (Or.inr (by omega)) g9_it939
              have fm10 := fw10.fm (q := 59) (by omega)
              have h10 := h9.gar fw10 (by omega)
              refine j_ldcS (i := 14) dX11_text_83 rfl (Or.inl rfl) rfl rfl ?_
              have hnN953 := hs10.sb.nN
              have hle953 := z_gr_le (N := (z_gr ((z_gr (bN) ((L).length + 0))) (((L ++ ([] : List Int32))).length + z_sz (nI e943.1)))) (m := ((((L ++ ([] : List Int32)) ++ tx_dg (nI e943.1))).length + 1))
              have hmx953 := z_gr_mx (N := (z_gr ((z_gr (bN) ((L).length + 0))) (((L ++ ([] : List Int32))).length + z_sz (nI e943.1)))) (m := ((((L ++ ([] : List Int32)) ++ tx_dg (nI e943.1))).length + 1)) (M := 480) (by omega) (by omega)
              obtain ⟨fs954, gs954⟩ := hs10.sb.cell
              refine j_callV (q := (RJ4, TJ4, 4)) dX11_text_85 kJ4_append_15ec4 lX11_222 inJ4_append_15ec4 seJ4_append_15ec4 gs954 rfl (sd_apK hl w10 56 x1 ((z_gr ((z_gr (bN) ((L).length + 0))) (((L ++ ([] : List Int32))).length + z_sz (nI e943.1)))) (((L ++ ([] : List Int32)) ++ tx_dg (nI e943.1))) 14 1 _ [61] rfl (Or.inl rfl) (by decide +kernel) (by decide) hs10 (by omega) (by omega) (by decide) h10.fn) (Nat.le_of_ble_eq_true rfl) ⟨(by show _ ≤ 66; omega), (by show _ ≤ 2450; omega)⟩ rfl (Nat.le_of_ble_eq_true rfl) rfl rfl (fun _ _ h => h.elim) ?_
              rintro _ w11 ⟨rfl, fw11, hs11⟩
              have ln11 : ((((L ++ ([] : List Int32)) ++ tx_dg (nI e943.1)) ++ ([61] : List Int32))).length = (((L ++ ([] : List Int32)) ++ tx_dg (nI e943.1))).length + 1 := by rw [List.length_append]; try rfl
              have g11_it939 := fw11.g (Or.inr (by omega)) g10_it939
              have fm11 := fw11.fm (q := 59) (by omega)
              have h11 := h10.gar fw11 (by omega)
              refine j_aload dX11_text_88 rfl rfl ?_
              refine j_iconst (v := 1) dX11_text_90 (by decide) ?_
              refine j_ld dX11_text_91 ((h11.pr (t := i934) (by omega)).1 p943 hp943).2 (vp_in_nI (n := 1) (by decide) (by decide)) ?_
              refine j_top (congrArg Value.int (show _ = e943.2 from by rw [show (1 : Int32).toNatClampNeg = 1 from by decide]; exact hv1943)) ?_
              have hzs956 := z_sz_in ((e943.2))
              have hnN957 := hs11.sb.nN
              have hle957 := z_gr_le (N := (z_gr ((z_gr ((z_gr (bN) ((L).length + 0))) (((L ++ ([] : List Int32))).length + z_sz (nI e943.1)))) ((((L ++ ([] : List Int32)) ++ tx_dg (nI e943.1))).length + 1))) (m := (((((L ++ ([] : List Int32)) ++ tx_dg (nI e943.1)) ++ ([61] : List Int32))).length + z_sz ((e943.2))))
              have hmx957 := z_gr_mx (N := (z_gr ((z_gr ((z_gr (bN) ((L).length + 0))) (((L ++ ([] : List Int32))).length + z_sz (nI e943.1)))) ((((L ++ ([] : List Int32)) ++ tx_dg (nI e943.1))).length + 1))) (m := (((((L ++ ([] : List Int32)) ++ tx_dg (nI e943.1)) ++ ([61] : List Int32))).length + z_sz ((e943.2)))) (M := 480) (by omega) (by omega)
              obtain ⟨fs958, gs958⟩ := hs11.sb.cell
              refine j_callV (q := (RJ4, TJ4, 4)) dX11_text_92 kJ4_append_bf812 lX11_226 inJ4_append_bf812 seJ4_append_bf812 gs958 rfl (sc_apI hl w11 56 x1 ((z_gr ((z_gr ((z_gr (bN) ((L).length + 0))) (((L ++ ([] : List Int32))).length + z_sz (nI e943.1)))) ((((L ++ ([] : List Int32)) ++ tx_dg (nI e943.1))).length + 1))) ((((L ++ ([] : List Int32)) ++ tx_dg (nI e943.1)) ++ ([61] : List Int32))) ((e943.2)) hs11 (by omega) (by omega) (by decide) h11.fn) (Nat.le_of_ble_eq_true rfl) ⟨(by show _ ≤ 66; omega), (by show _ ≤ 2450; omega)⟩ rfl (Nat.le_of_ble_eq_true rfl) rfl rfl (fun _ _ h => h.elim) ?_
              rintro _ w12 ⟨rfl, fw12, hs12⟩
              have ln12 : (((((L ++ ([] : List Int32)) ++ tx_dg (nI e943.1)) ++ ([61] : List Int32)) ++ tx_dg ((e943.2)))).length = ((((L ++ ([] : List Int32)) ++ tx_dg (nI e943.1)) ++ ([61] : List Int32))).length + z_sz ((e943.2)) := by rw [List.length_append, tx_dl]; try rfl
              have g12_it939 := fw12.g (Or.inr (by omega)) g11_it939
              have fm12 := fw12.fm (q := 59) (by omega)
              have h12 := h11.gar fw12 (by omega)
              refine j_pop dX11_text_95 rfl ?_
              refine j_goto (tgt := 38) dX11_text_96 (by decide) ?_
              refine j_widen (kc' := 2 + (z_gr ((z_gr ((z_gr ((z_gr (bN) ((L).length + 0))) (((L ++ ([] : List Int32))).length + z_sz (nI e943.1)))) ((((L ++ ([] : List Int32)) ++ tx_dg (nI e943.1))).length + 1))) (((((L ++ ([] : List Int32)) ++ tx_dg (nI e943.1)) ++ ([61] : List Int32))).length + z_sz ((e943.2)))) / 16) (ks' := 2 * (z_gr ((z_gr ((z_gr ((z_gr (bN) ((L).length + 0))) (((L ++ ([] : List Int32))).length + z_sz (nI e943.1)))) ((((L ++ ([] : List Int32)) ++ tx_dg (nI e943.1))).length + 1))) (((((L ++ ([] : List Int32)) ++ tx_dg (nI e943.1)) ++ ([61] : List Int32))).length + z_sz ((e943.2))))) (by omega) (by omega) ?_
              exact j_lo2 (ih w12 _ (k + 1) ((((L ++ ([] : List Int32)) ++ tx_dg (nI e943.1)) ++ ([61] : List Int32)) ++ tx_dg ((e943.2))) (z_gr ((z_gr ((z_gr ((z_gr (bN) ((L).length + 0))) (((L ++ ([] : List Int32))).length + z_sz (nI e943.1)))) ((((L ++ ([] : List Int32)) ++ tx_dg (nI e943.1))).length + 1))) (((((L ++ ([] : List Int32)) ++ tx_dg (nI e943.1)) ++ ([61] : List Int32))).length + z_sz ((e943.2)))) _ (by omega) (by omega) hlm hR (by exact hth) h12 (((((hfm.tr fm8).tr fm9).tr fm10).tr fm11).tr fm12) g12_it939 hs12 (by rw [sp_tkx he943]; exact (tx_pt_g hL (L.length ≤ 0) (by omega)).1 (by omega)) (by omega) (by omega)) (z_q1 rfl (z_q1 rfl (z_q1 rfl (z_q1 rfl z_q0))))
            · have hb63 : 0 < (L).length := Nat.not_le.mp (fun z => c_63_104 ((nI_leI (a := (L).length) (b := 0) (by omega) (by omega)).mpr z))
              refine j_ldcS (i := 13) dX11_text_66 rfl (Or.inl rfl) rfl rfl ?_
              refine j_goto (tgt := 73) dX11_text_68 (by decide) ?_
              have hnN959 := hs8.sb.nN
              have hle959 := z_gr_le (N := bN) (m := ((L).length + 1))
              have hmx959 := z_gr_mx (N := bN) (m := ((L).length + 1)) (M := 480) (by omega) (by omega)
              obtain ⟨fs960, gs960⟩ := hs8.sb.cell
              refine j_callV (q := (RJ4, TJ4, 4)) dX11_text_73 kJ4_append_15ec4 lX11_222 inJ4_append_15ec4 seJ4_append_15ec4 gs960 rfl (sd_apK hl w8 56 x1 (bN) (L) 13 1 _ [32] rfl (Or.inl rfl) (by decide +kernel) (by decide) hs8 (by omega) (by omega) (by decide) h8.fn) (Nat.le_of_ble_eq_true rfl) ⟨(by show _ ≤ 66; omega), (by show _ ≤ 2450; omega)⟩ rfl (Nat.le_of_ble_eq_true rfl) rfl rfl (fun _ _ h => h.elim) ?_
              rintro _ w13 ⟨rfl, fw13, hs13⟩
              have ln13 : ((L ++ ([32] : List Int32))).length = (L).length + 1 := by rw [List.length_append]; try rfl
              have g13_it939 := fw13.g (Or.inr (by omega)) git8
              have fm13 := fw13.fm (q := 59) (by omega)
              have h13 := h8.gar fw13 (by omega)
              refine j_aload dX11_text_76 rfl rfl ?_
              refine j_iconst (v := 0) dX11_text_78 (by decide) ?_
              refine j_ld dX11_text_79 ((h13.pr (t := i934) (by omega)).1 p943 hp943).2 (vp_in_nI (n := 0) (by decide) (by decide)) ?_
              refine j_top (congrArg Value.int (show _ = nI e943.1 from by rw [show (0 : Int32).toNatClampNeg = 0 from by decide]; exact hv0943)) ?_
              have hzs962 := z_sz_in (nI e943.1)
              have hnN963 := hs13.sb.nN
              have hle963 := z_gr_le (N := (z_gr (bN) ((L).length + 1))) (m := (((L ++ ([32] : List Int32))).length + z_sz (nI e943.1)))
              have hmx963 := z_gr_mx (N := (z_gr (bN) ((L).length + 1))) (m := (((L ++ ([32] : List Int32))).length + z_sz (nI e943.1))) (M := 480) (by omega) (by omega)
              obtain ⟨fs964, gs964⟩ := hs13.sb.cell
              refine j_callV (q := (RJ4, TJ4, 4)) dX11_text_80 kJ4_append_bf812 lX11_226 inJ4_append_bf812 seJ4_append_bf812 gs964 rfl (sc_apI hl w13 56 x1 ((z_gr (bN) ((L).length + 1))) ((L ++ ([32] : List Int32))) (nI e943.1) hs13 (by omega) (by omega) (by decide) h13.fn) (Nat.le_of_ble_eq_true rfl) ⟨(by show _ ≤ 66; omega), (by show _ ≤ 2450; omega)⟩ rfl (Nat.le_of_ble_eq_true rfl) rfl rfl (fun _ _ h => h.elim) ?_
              rintro _ w14 ⟨rfl, fw14, hs14⟩
              have ln14 : (((L ++ ([32] : List Int32)) ++ tx_dg (nI e943.1))).length = ((L ++ ([32] : List Int32))).length + z_sz (nI e943.1) := by rw [List.length_append, tx_dl]; try rfl
              have g14_it939 := fw14.g (Or.inr (by omega)) g13_it939
              have fm14 := fw14.fm (q := 59) (by omega)
              have h14 := h13.gar fw14 (by omega)
              refine j_ldcS (i := 14) dX11_text_83 rfl (Or.inl rfl) rfl rfl ?_
              have hnN965 := hs14.sb.nN
              have hle965 := z_gr_le (N := (z_gr ((z_gr (bN) ((L).length + 1))) (((L ++ ([32] : List Int32))).length + z_sz (nI e943.1)))) (m := ((((L ++ ([32] : List Int32)) ++ tx_dg (nI e943.1))).length + 1))
              have hmx965 := z_gr_mx (N := (z_gr ((z_gr (bN) ((L).length + 1))) (((L ++ ([32] : List Int32))).length + z_sz (nI e943.1)))) (m := ((((L ++ ([32] : List Int32)) ++ tx_dg (nI e943.1))).length + 1)) (M := 480) (by omega) (by omega)
              obtain ⟨fs966, gs966⟩ := hs14.sb.cell
              refine j_callV (q := (RJ4, TJ4, 4)) dX11_text_85 kJ4_append_15ec4 lX11_222 inJ4_append_15ec4 seJ4_append_15ec4 gs966 rfl (sd_apK hl w14 56 x1 ((z_gr ((z_gr (bN) ((L).length + 1))) (((L ++ ([32] : List Int32))).length + z_sz (nI e943.1)))) (((L ++ ([32] : List Int32)) ++ tx_dg (nI e943.1))) 14 1 _ [61] rfl (Or.inl rfl) (by decide +kernel) (by decide) hs14 (by omega) (by omega) (by decide) h14.fn) (Nat.le_of_ble_eq_true rfl) ⟨(by show _ ≤ 66; omega), (by show _ ≤ 2450; omega)⟩ rfl (Nat.le_of_ble_eq_true rfl) rfl rfl (fun _ _ h => h.elim) ?_
              rintro _ w15 ⟨rfl, fw15, hs15⟩
              have ln15 : ((((L ++ ([32] : List Int32)) ++ tx_dg (nI e943.1)) ++ ([61] : List Int32))).length = (((L ++ ([32] : List Int32)) ++ tx_dg (nI e943.1))).length + 1 := by rw [List.length_append]; try rfl
              have g15_it939 := fw15.g (Or.inr (by omega)) g14_it939
              have fm15 := fw15.fm (q := 59) (by omega)
              have h15 := h14.gar fw15 (by omega)
              refine j_aload dX11_text_88 rfl rfl ?_
              refine j_iconst (v := 1) dX11_text_90 (by decide) ?_
              refine j_ld dX11_text_91 ((h15.pr (t := i934) (by omega)).1 p943 hp943).2 (vp_in_nI (n := 1) (by decide) (by decide)) ?_
              refine j_top (congrArg Value.int (show _ = e943.2 from by rw [show (1 : Int32).toNatClampNeg = 1 from by decide]; exact hv1943)) ?_
              have hzs968 := z_sz_in ((e943.2))
              have hnN969 := hs15.sb.nN
              have hle969 := z_gr_le (N := (z_gr ((z_gr ((z_gr (bN) ((L).length + 1))) (((L ++ ([32] : List Int32))).length + z_sz (nI e943.1)))) ((((L ++ ([32] : List Int32)) ++ tx_dg (nI e943.1))).length + 1))) (m := (((((L ++ ([32] : List Int32)) ++ tx_dg (nI e943.1)) ++ ([61] : List Int32))).length + z_sz ((e943.2))))
              have hmx969 := z_gr_mx (N := (z_gr ((z_gr ((z_gr (bN) ((L).length + 1))) (((L ++ ([32] : List Int32))).length + z_sz (nI e943.1)))) ((((L ++ ([32] : List Int32)) ++ tx_dg (nI e943.1))).length + 1))) (m := (((((L ++ ([32] : List Int32)) ++ tx_dg (nI e943.1)) ++ ([61] : List Int32))).length + z_sz ((e943.2)))) (M := 480) (by omega) (by omega)
              obtain ⟨fs970, gs970⟩ := hs15.sb.cell
              refine j_callV (q := (RJ4, TJ4, 4)) dX11_text_92 kJ4_append_bf812 lX11_226 inJ4_append_bf812 seJ4_append_bf812 gs970 rfl (sc_apI hl w15 56 x1 ((z_gr ((z_gr ((z_gr (bN) ((L).length + 1))) (((L ++ ([32] : List Int32))).length + z_sz (nI e943.1)))) ((((L ++ ([32] : List Int32)) ++ tx_dg (nI e943.1))).length + 1))) ((((L ++ ([32] : List Int32)) ++ tx_dg (nI e943.1)) ++ ([61] : List Int32))) ((e943.2)) hs15 (by omega) (by omega) (by decide) h15.fn) (Nat.le_of_ble_eq_true rfl) ⟨(by show _ ≤ 66; omega), (by show _ ≤ 2450; omega)⟩ rfl (Nat.le_of_ble_eq_true rfl) rfl rfl (fun _ _ h => h.elim) ?_
              rintro _ w16 ⟨rfl, fw16, hs16⟩
              have ln16 : (((((L ++ ([32] : List Int32)) ++ tx_dg (nI e943.1)) ++ ([61] : List Int32)) ++ tx_dg ((e943.2)))).length = ((((L ++ ([32] : List Int32)) ++ tx_dg (nI e943.1)) ++ ([61] : List Int32))).length + z_sz ((e943.2)) := by rw [List.length_append, tx_dl]; try rfl
              have g16_it939 := fw16.g (Or.inr (by omega)) g15_it939
              have fm16 := fw16.fm (q := 59) (by omega)
              have h16 := h15.gar fw16 (by omega)
              refine j_pop dX11_text_95 rfl ?_
              refine j_goto (tgt := 38) dX11_text_96 (by decide) ?_
              refine j_widen (kc' := 2 + (z_gr ((z_gr ((z_gr ((z_gr (bN) ((L).length + 1))) (((L ++ ([32] : List Int32))).length + z_sz (nI e943.1)))) ((((L ++ ([32] : List Int32)) ++ tx_dg (nI e943.1))).length + 1))) (((((L ++ ([32] : List Int32)) ++ tx_dg (nI e943.1)) ++ ([61] : List Int32))).length + z_sz ((e943.2)))) / 16) (ks' := 2 * (z_gr ((z_gr ((z_gr ((z_gr (bN) ((L).length + 1))) (((L ++ ([32] : List Int32))).length + z_sz (nI e943.1)))) ((((L ++ ([32] : List Int32)) ++ tx_dg (nI e943.1))).length + 1))) (((((L ++ ([32] : List Int32)) ++ tx_dg (nI e943.1)) ++ ([61] : List Int32))).length + z_sz ((e943.2))))) (by omega) (by omega) ?_
              exact j_lo2 (ih w16 _ (k + 1) ((((L ++ ([32] : List Int32)) ++ tx_dg (nI e943.1)) ++ ([61] : List Int32)) ++ tx_dg ((e943.2))) (z_gr ((z_gr ((z_gr ((z_gr (bN) ((L).length + 1))) (((L ++ ([32] : List Int32))).length + z_sz (nI e943.1)))) ((((L ++ ([32] : List Int32)) ++ tx_dg (nI e943.1))).length + 1))) (((((L ++ ([32] : List Int32)) ++ tx_dg (nI e943.1)) ++ ([61] : List Int32))).length + z_sz ((e943.2)))) _ (by omega) (by omega) hlm hR (by exact hth) h16 (((((hfm.tr fm8).tr fm13).tr fm14).tr fm15).tr fm16) g16_it939 hs16 (by rw [sp_tkx he943]; exact (tx_pt_g hL (L.length ≤ 0) (by omega)).2 (by omega)) (by omega) (by omega)) (z_q1 rfl (z_q1 rfl (z_q1 rfl (z_q1 rfl z_q0))))
      refine j_widen (kc' := 2 + 16 / 16) (ks' := 2 * 16) (by decide) (by decide) ?_
      exact j_lo2 (loop38 (20 + 1) w5 _ 0 [] 16 _ (Nat.zero_le _) (by omega) hlm9 R2 (by exact rfl) h5 ((((fm2.le (q' := 59) (by decide)).tr (fw3.fm (q := 59) (by omega))).tr fm4).tr fm5) git939 hs5 rfl (Nat.zero_le _) (by omega)) (z_q1 rfl (z_q1 rfl (z_q1 rfl (z_q1 rfl z_q0))))
    · exact absurd c_9_25 (by decide)
end ZMtL
end ZM1
