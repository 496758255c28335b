section ZMs10
variable {G : z_G} {l : Launch}
theorem j_gen {y : z_M} {S : z_S} {pc : Nat} {lo : List (Nat × Value)} {st : List Value} {w : z_W} {kc ks : Nat} {x : Int32} (h : ∀ z : Int32, z_J G l y S pc lo (.int z :: st) w kc ks) : z_J G l y S pc lo (.int x :: st) w kc ks := h x
theorem z_sb.cell {w : z_W} {ρ a n N : Nat} (h : z_sb w ρ a n N) : ∃ fs, z_g w a = some (.inr (1, fs)) := by
  obtain ⟨-, -, -, -, -, m, f, ml, -, -, -, ga, -⟩ := h
  exact ⟨_, ga⟩
theorem z_tx.cell {w : z_W} {ρ a n : Nat} (h : z_tx w ρ a n) : ∃ fs, z_g w a = some (.inr (0, fs)) := by
  obtain ⟨-, -, b, f, -, -, -, ga, -⟩ := h
  exact ⟨_, ga⟩
theorem z_sb.nN {w : z_W} {ρ a n N : Nat} (h : z_sb w ρ a n N) : n ≤ N ∧ 16 ≤ N ∧ N ≤ 5000 := ⟨h.2.2.1, h.2.2.2.1, h.2.2.2.2.1⟩
theorem sb_apK (hl : l.stackTraces = false) (w : z_W) (ρ a n N i k : Nat) (t : String × Nat × String) (hi9 : z_strs[i]? = some t) (ht9 : t.1 = "LoopdefaultsModel" ∨ t.1 = "LoopdefaultsModel$Hearer") (hk : t.2.2.length = k) (h : z_sb w ρ a n N) (hq : n + k ≤ 2 * N + 2) (hN : z_gr N (n + k) ≤ 5000) (hρ : ρ < 64) (hf : z_fn w) : z_Con G l mJ4_append_15ec4 17 (z_gr N (n + k) / 16 - N / 16) (2 * (z_gr N (n + k) - N)) w [.ref a, .retAddr (10 + i)] (fun v w9 => v = some (.ref a) ∧ z_fw ρ w w9 ∧ z_sb w9 ρ a (n + k) (z_gr N (n + k))) (fun _ _ => False) := by
  subst hk
  exact sb_apS hl w ρ a n N i t hi9 ht9 h hq hN hρ hf
theorem cm_oneA (hl : l.stackTraces = false) (w : z_W) (x : Int32) : z_Con G l mX11_one 10 0 0 w [.int x] (fun v w9 => (∃ r : Int32, v = some (.int r)) ∧ w9 = w) (fun _ _ => False) := z_weak (cm_one hl w x) (fun v w' h => by rcases h with ⟨⟨h1, -⟩ | ⟨h1, -⟩, hw⟩ <;> exact ⟨⟨_, h1⟩, hw⟩) (fun _ _ h => h)
set_option maxRecDepth 100000 in
set_option maxHeartbeats 8000000 in
theorem cm_textH (hl : l.stackTraces = false) (w : z_W) (s : z_Z) (i : Nat) (h : z_mst w s) (hi : i < 2) : z_Con G l mX10_text 18 20 640 w [.ref (1009 + i)] (fun v w9 => ∃ (r n : Nat) (s9 : z_Z), v = some (.ref r) ∧ z_fm 59 w w9 ∧ z_mst w9 s9 ∧ z_key s9 = z_key s ∧ z_tx w9 57 r n) (fun _ _ => False) := by
  have ke0 : z_key s = z_key s := rfl
  refine z_body hl (by decide) rfl (Nat.le_of_ble_eq_true rfl) ?_
  show z_J G l mX10_text _ 0 [(0, _)] [] _ 0 0
  obtain ⟨x1, hx1a, hx1b, hx1c⟩ := z_fresh (56) (by decide) h.fn
  refine j_new (N := 4) (w' := _) (n := x1) dX10_text_0 nX10_52 rfl (z_alW hx1c hx1a) (Nat.le_of_ble_eq_true rfl) (Nat.le_of_ble_eq_true rfl) ?_
  refine j_seal hx1a ?_
  intro w1 u1
  have fw1 := u1.fw hx1a hx1b
  have g1_x1 := u1.1
  have h1 := h.gar fw1 (by omega)
  have ke1 := z_ke h1 ke0 rfl
  refine j_dup dX10_text_3 rfl ?_
  refine j_callI dX10_text_4 kJ4_init_da8c8 rfl lX10_54 inJ4_init_da8c8 rfl (sb_ini hl w1 56 x1 hx1a hx1b (by decide) h1.fn g1_x1) (Nat.le_of_ble_eq_true rfl) ⟨(by show _ ≤ 20; omega), (by show _ ≤ 640; omega)⟩ rfl (Nat.le_of_ble_eq_true rfl) rfl rfl (fun _ _ h => h.elim) ?_
  rintro _ w2 ⟨rfl, fw2, hs2⟩
  have fm2 := fw2.fm (q := 59) (by omega)
  have h2 := h1.gar fw2 (by omega)
  have ke2 := z_ke h2 ke1 rfl
  refine j_astore_n (lo' := [(1, _), (0, _)]) dX10_text_7 rfl (by decide) rfl ?_
  refine j_aload_n dX10_text_8 rfl rfl ?_
  refine j_getf dX10_text_9 fX10_21 (h2.hd (i := i) hi) rfl ?_
  obtain ⟨lv907, -, lg907⟩ := z_li.cell (h2.hl (i := i) hi).1
  refine j_callV (q := (RJx4a65c, TJx4a65c, 3)) dX10_text_12 kJx4a65c_iterator_32c93 lX10_55 inJx4a65c_iterator_32c93 seJx4a65c_iterator_32c93 lg907 rfl (cl_iter hl w2 58 (54 + i) _ _ _ (h2.hl (i := i) hi).1 (by decide) (by omega) h2.fn) (Nat.le_of_ble_eq_true rfl) ⟨(by show _ ≤ 20; omega), (by show _ ≤ 640; omega)⟩ rfl (Nat.le_of_ble_eq_true rfl) rfl rfl (fun _ _ h => h.elim) ?_
  rintro _ w3 ⟨it906, rfl, fw3, hita906, hitb906, hitc906, la906, git906⟩
  have hita906 : 1000 ≤ it906 := hita906
  have hitb906 : it906 % 64 = 58 := hitb906
  have fm3 := fw3.fm (q := 59) (by omega)
  have h3 := h2.gar fw3 (by omega)
  have hs3 := hs2.fw fw3 (by decide)
  have ke3 := z_ke h3 ke2 rfl
  refine j_astore_n (lo' := [(2, _), (1, _), (0, _)]) dX10_text_15 rfl (by decide) rfl ?_
  have loop16 : ∀ (n9 : Nat) (w4 : z_W) (s1 : z_Z) (k bn bN : Nat) (la : Int32), (k ≤ 10) → (10 < k + n9) → (z_mst w4 s1) → (z_fm 59 w w4) → (z_key s1 = z_key s) → (k ≤ (z_ql s1 i).2.length) → (z_g w4 it906 = some (.inr (3, [.int (nI k), .int la, .int (z_ql s1 i).1, .ref (1014 + i)]))) → (z_sb w4 56 x1 bn bN) → (bn ≤ 12 * k) → (bN ≤ 2 * 120 + 16) → z_J G l mX10_text (18, 20, 640, w, (fun v w9 => ∃ (r n : Nat) (s9 : z_Z), v = some (.ref r) ∧ z_fm 59 w w9 ∧ z_mst w9 s9 ∧ z_key s9 = z_key s ∧ z_tx w9 57 r n), (fun _ _ => False)) 16 [(0, .ref (1009 + i)), (1, .ref x1), (2, .ref it906)] [] w4 (2 + bN / 16) (2 * bN) := by
    intro n9
    induction n9 with
    | zero => intro w4 s1 k bn bN la hj hf9 hm hfm hke hkl git hsb hbn hbN; exact absurd hf9 (by omega)
    | succ n9 ih =>
      intro w4 s1 k bn bN la hj hf9 hm hfm hke hkl git hsb hbn hbN
      have hnN0 := hsb.nN
      refine j_aload_n dX10_text_16 rfl rfl ?_
      refine j_callF (x := ⟨"java/util/Iterator", "hasNext", "()Z"⟩) (q := (RJx35411, TJx35411, 4)) dX10_text_17 kJx35411_hasNext_aae02 ⟨(z_w 1856 ((lwg_8 131).trans (by decide +kernel)) (by decide +kernel)), (z_w 1769 ((lwg_8 44).trans (by decide +kernel)) (by decide +kernel)), inJx35411_hasNext_aae02, ⟨by decide, by decide⟩, rfl, fun U h => h.2.1⟩ git rfl (cl_hasN hl w4 _ (54 + i) _ (k) _ _ (hm.hl (i := i) hi).1 ⟨_, git⟩ (by rw [z_bx_len]; omega)) (Nat.le_of_ble_eq_true rfl) ⟨(by show _ ≤ 20; omega), (by show _ ≤ 640; omega)⟩ rfl (Nat.le_of_ble_eq_true rfl) rfl ?_
      rintro _ _ ⟨⟨x908, rfl, hz908, hp908⟩, hw908⟩
      refine j_w w4 hw908 ?_
      refine j_if_eq (tgt := 64) dX10_text_22 (by decide) (fun c_22_40 => ?_) (fun c_22_40 => ?_)
      · have hk22 : k = (z_ql s1 (i)).2.length := (z_bx_len ▸ hz908 c_22_40)
        refine j_aload_n dX10_text_64 rfl rfl ?_
        have hnN := hsb.nN
        obtain ⟨fs909, gs909⟩ := hsb.cell
        refine j_callV (q := (RJ4, TJ4, 4)) dX10_text_65 kJ4_toString_0e30d lX10_86 inJ4_toString_0e30d seJ4_toString_0e30d gs909 rfl (sb_toS hl w4 57 56 x1 (bn) (bN) hsb (by decide) (by decide) hm.fn) (Nat.le_of_ble_eq_true rfl) ⟨(by show _ ≤ 20; omega), (by show _ ≤ 640; omega)⟩ rfl (Nat.le_of_ble_eq_true rfl) rfl rfl (fun _ _ h => h.elim) ?_
        rintro _ w5 ⟨r5, rfl, fw5, ht5⟩
        have g5_it906 := fw5.g (Or.inr (by omega)) git
        have fm5 := fw5.fm (q := 59) (by omega)
        have h5 := hm.gar fw5 (by omega)
        have ke5 := z_ke h5 hke rfl
        refine j_aret dX10_text_68 rfl (Or.inl ⟨_, rfl⟩) rfl ?_ (by show _ ≤ 20; omega) (by show _ ≤ 640; omega)
        exact ⟨_, _, _, rfl, (hfm.tr fm5), h5, ke5, ht5⟩
      · have hk22 : k < (z_ql s1 (i)).2.length := (z_bx_len ▸ hp908 c_22_40)
        have hzk22 : (z_ql s1 (i)).2.length ≤ 10 := (hm.hl (i := i) (by omega)).2
        refine j_aload_n dX10_text_25 rfl rfl ?_
        refine j_callF (x := ⟨"java/util/Iterator", "next", "()Ljava/lang/Object;"⟩) (q := (RJx35411, TJx35411, 4)) dX10_text_26 kJx35411_next_0502b ⟨(z_w 1858 ((lwg_8 133).trans (by decide +kernel)) (by decide +kernel)), (z_w 1778 ((lwg_8 53).trans (by decide +kernel)) (by decide +kernel)), inJx35411_next_0502b, ⟨by decide, by decide⟩, rfl, fun U h => h.2.2.1⟩ git rfl (cl_next hl w4 58 it906 (54 + i) _ (k) _ _ _ (hm.hl (i := i) hi).1 ⟨_, git⟩ (z_bx_get (B := (z_ql s1 (i)).2) (by omega)) hita906 hitb906 (by omega)) (Nat.le_of_ble_eq_true rfl) ⟨(by show _ ≤ 20; omega), (by show _ ≤ 640; omega)⟩ rfl (Nat.le_of_ble_eq_true rfl) rfl ?_
        rintro _ w6 ⟨rfl, fw6, la6, git6⟩
        have fm6 := fw6.fm (q := 59) (by omega)
        have h6 := hm.gar fw6 (by omega)
        have hs6 := hsb.fw fw6 (by decide)
        have ke6 := z_ke h6 hke rfl
        refine j_castS dX10_text_31 (z_w 1859 ((lwg_8 134).trans (by decide +kernel)) (by decide +kernel)) rfl ?_
        refine j_callVB (v0 := .float _) (C := "java/lang/Integer") dX10_text_34 kJ6_intValue_8abf5 lX10_69 inJ6_intValue_8abf5 seJ6_intValue_8abf5 rfl (c_J6_intValue_8abf5 hl w6 _) (Nat.le_of_ble_eq_true rfl) ⟨(by show _ ≤ 20; omega), (by show _ ≤ 640; omega)⟩ rfl (Nat.le_of_ble_eq_true rfl) rfl rfl (fun _ _ h => h.elim) ?_
        rintro _ _ ⟨rfl, hw912⟩
        refine j_w w6 hw912 ?_
        refine j_gen ?_
        intro xv913
        refine j_istore_n (lo' := [(3, _), (0, _), (1, _), (2, _)]) dX10_text_37 (by decide) rfl ?_
        refine j_aload_n dX10_text_38 rfl rfl ?_
        refine j_aload_n dX10_text_39 rfl rfl ?_
        obtain ⟨fs914, gs914⟩ := hs6.cell
        refine j_callV (q := (RJ4, TJ4, 4)) dX10_text_40 kJ4_length_8abf5 lX10_72 inJ4_length_8abf5 seJ4_length_8abf5 gs914 rfl (sb_len hl w6 56 x1 (bn) (bN) hs6) (Nat.le_of_ble_eq_true rfl) ⟨(by show _ ≤ 20; omega), (by show _ ≤ 640; omega)⟩ rfl (Nat.le_of_ble_eq_true rfl) rfl rfl (fun _ _ h => h.elim) ?_
        rintro _ _ ⟨rfl, hw915⟩
        refine j_w w6 hw915 ?_
        refine j_if_le (tgt := 51) dX10_text_43 (by decide) (fun c_43_75 => ?_) (fun c_43_75 => ?_)
        · have hb43 : (bn) ≤ 0 := (nI_leI (a := (bn)) (b := 0) (by omega) (by omega)).mp c_43_75
          refine j_ldcS (i := 12) dX10_text_51 rfl (Or.inr rfl) rfl rfl ?_
          have hnN916 := hs6.nN
          have hle916 := z_gr_le (N := bN) (m := (bn + 0))
          have hmx916 := z_gr_mx (N := bN) (m := (bn + 0)) (M := 120) (by omega) (by omega)
          obtain ⟨fs917, gs917⟩ := hs6.cell
          refine j_callV (q := (RJ4, TJ4, 4)) dX10_text_53 kJ4_append_15ec4 lX10_79 inJ4_append_15ec4 seJ4_append_15ec4 gs917 rfl (sb_apK hl w6 56 x1 (bn) (bN) 12 0 _ rfl (Or.inr rfl) (by decide) hs6 (by omega) (by omega) (by decide) h6.fn) (Nat.le_of_ble_eq_true rfl) ⟨(by show _ ≤ 20; omega), (by show _ ≤ 640; omega)⟩ rfl (Nat.le_of_ble_eq_true rfl) rfl rfl (fun _ _ h => h.elim) ?_
          rintro _ w7 ⟨rfl, fw7, hs7⟩
          have g7_it906 := fw7.g (Or.inr (by omega)) git6
          have fm7 := fw7.fm (q := 59) (by omega)
          have h7 := h6.gar fw7 (by omega)
          have ke7 := z_ke h7 ke6 rfl
          refine j_iload_n dX10_text_56 rfl ?_
          have hzs57 := z_sz_in xv913
          have hnN918 := hs7.nN
          have hle918 := z_gr_le (N := (z_gr (bN) (bn + 0))) (m := ((bn + 0) + z_sz xv913))
          have hmx918 := z_gr_mx (N := (z_gr (bN) (bn + 0))) (m := ((bn + 0) + z_sz xv913)) (M := 120) (by omega) (by omega)
          obtain ⟨fs919, gs919⟩ := hs7.cell
          refine j_callV (q := (RJ4, TJ4, 4)) dX10_text_57 kJ4_append_bf812 lX10_83 inJ4_append_bf812 seJ4_append_bf812 gs919 rfl (sb_apI hl w7 56 x1 ((bn + 0)) ((z_gr (bN) (bn + 0))) xv913 hs7 (by omega) (by omega) (by decide) h7.fn) (Nat.le_of_ble_eq_true rfl) ⟨(by show _ ≤ 20; omega), (by show _ ≤ 640; omega)⟩ rfl (Nat.le_of_ble_eq_true rfl) rfl rfl (fun _ _ h => h.elim) ?_
          rintro _ w8 ⟨rfl, fw8, hs8⟩
          have g8_it906 := fw8.g (Or.inr (by omega)) g7_it906
          have fm8 := fw8.fm (q := 59) (by omega)
          have h8 := h7.gar fw8 (by omega)
          have ke8 := z_ke h8 ke7 rfl
          refine j_pop dX10_text_60 rfl ?_
          refine j_goto (tgt := 16) dX10_text_61 (by decide) ?_
          refine j_widen (kc' := 2 + (z_gr ((z_gr (bN) (bn + 0))) ((bn + 0) + z_sz xv913)) / 16) (ks' := 2 * (z_gr ((z_gr (bN) (bn + 0))) ((bn + 0) + z_sz xv913))) (by omega) (by omega) ?_
          exact j_lo2 (ih w8 _ (k + 1) ((bn + 0) + z_sz xv913) (z_gr ((z_gr (bN) (bn + 0))) ((bn + 0) + z_sz xv913)) _ (by omega) (by omega) h8 (((hfm.tr fm6).tr fm7).tr fm8) ke8 (by first | omega | (show _ ≤ (z_ql s1 i).2.length; omega)) g8_it906 hs8 (by omega) (by omega)) (z_q1 rfl (z_q1 rfl (z_q1 rfl z_q0)))
        · have hb43 : 0 < (bn) := Nat.not_le.mp (fun z => c_43_75 ((nI_leI (a := (bn)) (b := 0) (by omega) (by omega)).mpr z))
          refine j_ldcS (i := 11) dX10_text_46 rfl (Or.inr rfl) rfl rfl ?_
          refine j_goto (tgt := 53) dX10_text_48 (by decide) ?_
          have hnN920 := hs6.nN
          have hle920 := z_gr_le (N := bN) (m := (bn + 1))
          have hmx920 := z_gr_mx (N := bN) (m := (bn + 1)) (M := 120) (by omega) (by omega)
          obtain ⟨fs921, gs921⟩ := hs6.cell
          refine j_callV (q := (RJ4, TJ4, 4)) dX10_text_53 kJ4_append_15ec4 lX10_79 inJ4_append_15ec4 seJ4_append_15ec4 gs921 rfl (sb_apK hl w6 56 x1 (bn) (bN) 11 1 _ rfl (Or.inr rfl) (by decide) hs6 (by omega) (by omega) (by decide) h6.fn) (Nat.le_of_ble_eq_true rfl) ⟨(by show _ ≤ 20; omega), (by show _ ≤ 640; omega)⟩ rfl (Nat.le_of_ble_eq_true rfl) rfl rfl (fun _ _ h => h.elim) ?_
          rintro _ w9 ⟨rfl, fw9, hs9⟩
          have g9_it906 := fw9.g (Or.inr (by omega)) git6
          have fm9 := fw9.fm (q := 59) (by omega)
          have h9 := h6.gar fw9 (by omega)
          have ke9 := z_ke h9 ke6 rfl
          refine j_iload_n dX10_text_56 rfl ?_
          have hzs57 := z_sz_in xv913
          have hnN922 := hs9.nN
          have hle922 := z_gr_le (N := (z_gr (bN) (bn + 1))) (m := ((bn + 1) + z_sz xv913))
          have hmx922 := z_gr_mx (N := (z_gr (bN) (bn + 1))) (m := ((bn + 1) + z_sz xv913)) (M := 120) (by omega) (by omega)
          obtain ⟨fs923, gs923⟩ := hs9.cell
          refine j_callV (q := (RJ4, TJ4, 4)) dX10_text_57 kJ4_append_bf812 lX10_83 inJ4_append_bf812 seJ4_append_bf812 gs923 rfl (sb_apI hl w9 56 x1 ((bn + 1)) ((z_gr (bN) (bn + 1))) xv913 hs9 (by omega) (by omega) (by decide) h9.fn) (Nat.le_of_ble_eq_true rfl) ⟨(by show _ ≤ 20; omega), (by show _ ≤ 640; omega)⟩ rfl (Nat.le_of_ble_eq_true rfl) rfl rfl (fun _ _ h => h.elim) ?_
          rintro _ w10 ⟨rfl, fw10, hs10⟩
          have g10_it906 := fw10.g (Or.inr (by omega)) g9_it906
          have fm10 := fw10.fm (q := 59) (by omega)
          have h10 := h9.gar fw10 (by omega)
          have ke10 := z_ke h10 ke9 rfl
          refine j_pop dX10_text_60 rfl ?_
          refine j_goto (tgt := 16) dX10_text_61 (by decide) ?_
          refine j_widen (kc' := 2 + (z_gr ((z_gr (bN) (bn + 1))) ((bn + 1) + z_sz xv913)) / 16) (ks' := 2 * (z_gr ((z_gr (bN) (bn + 1))) ((bn + 1) + z_sz xv913))) (by omega) (by omega) ?_
          exact j_lo2 (ih w10 _ (k + 1) ((bn + 1) + z_sz xv913) (z_gr ((z_gr (bN) (bn + 1))) ((bn + 1) + z_sz xv913)) _ (by omega) (by omega) h10 (((hfm.tr fm6).tr fm9).tr fm10) ke10 (by first | omega | (show _ ≤ (z_ql s1 i).2.length; omega)) g10_it906 hs10 (by omega) (by omega)) (z_q1 rfl (z_q1 rfl (z_q1 rfl z_q0)))
  refine j_widen (kc' := 2 + 16 / 16) (ks' := 2 * 16) (by decide) (by decide) ?_
  exact j_lo2 (loop16 (10 + 1) w3 _ 0 0 16 _ (by omega) (by omega) h3 (((fw1.fm (q := 59) (by omega)).tr fm2).tr fm3) ke3 (Nat.zero_le _) git906 hs3 (by omega) (by omega)) (z_q1 rfl (z_q1 rfl (z_q1 rfl z_q0)))
set_option maxRecDepth 100000 in
set_option maxHeartbeats 8000000 in
theorem cm_heardText (hl : l.stackTraces = false) (w : z_W) (s : z_Z) (x : Int32) (h : z_mst w s)  : z_Con G l mX11_heardText 20 20 640 w [.ref 1000, .int x] (fun v w9 => ∃ (r : Value) (s9 : z_Z), v = some r ∧ z_ir r = true ∧ z_fm 59 w w9 ∧ z_mst w9 s9 ∧ z_key s9 = z_key s) (fun _ _ => False) := by
  have ke0 : z_key s = z_key s := rfl
  refine z_body hl (by decide) rfl (Nat.le_of_ble_eq_true rfl) ?_
  show z_J G l mX11_heardText _ 0 [(0, _), (1, _)] [] _ 0 0
  refine j_aload_n dX11_heardText_0 rfl rfl ?_
  refine j_iload_n dX11_heardText_1 rfl ?_
  refine j_callS dX11_heardText_2 kX11_isNoTwo lX11_72 stX11_isNoTwo (cm_isNoTwo hl w _) (Nat.le_of_ble_eq_true rfl) ⟨(by show _ ≤ 20; omega), (by show _ ≤ 640; omega)⟩ rfl (Nat.le_of_ble_eq_true rfl) rfl rfl (fun _ _ h => h.elim) ?_
  rintro _ _ ⟨⟨rfl, hno924⟩ | ⟨rfl, i924, hi924, rfl⟩, hw924⟩
  · refine j_w w hw924 ?_
    refine j_iconst (v := 1) dX11_heardText_5 (by decide) ?_
    refine j_callV (q := (RX11, TX11, 8)) dX11_heardText_6 kX11_start lX11_76 inX11_start seX11_start h.m rfl (cm_start1 hl w _ _ h (by decide)) (Nat.le_of_ble_eq_true rfl) ⟨(by show _ ≤ 20; omega), (by show _ ≤ 640; omega)⟩ rfl (Nat.le_of_ble_eq_true rfl) rfl rfl (fun _ _ h => h.elim) ?_
    rintro _ w1 ⟨rfl, fm1, h1⟩
    have ke1 := z_ke h1 ke0 rfl
    refine j_if_eq (tgt := 17) dX11_heardText_9 (by decide) (fun c_9_11 => ?_) (fun c_9_11 => ?_)
    · exact absurd c_9_11 (by decide)
    · refine j_ldcS (i := 10) dX11_heardText_12 rfl (Or.inl rfl) rfl rfl ?_
      refine j_goto (tgt := 26) dX11_heardText_14 (by decide) ?_
      refine j_aret dX11_heardText_26 rfl (Or.inl ⟨_, rfl⟩) rfl ?_ (by show _ ≤ 20; omega) (by show _ ≤ 640; omega)
      exact ⟨_, _, rfl, rfl, (fm1.le (q' := 59) (by decide)), h1, ke1⟩
  · refine j_w w hw924 ?_
    refine j_iconst (v := 1) dX11_heardText_5 (by decide) ?_
    refine j_callV (q := (RX11, TX11, 8)) dX11_heardText_6 kX11_start lX11_76 inX11_start seX11_start h.m rfl (cm_start0 hl w _ _ h) (Nat.le_of_ble_eq_true rfl) ⟨(by show _ ≤ 20; omega), (by show _ ≤ 640; omega)⟩ rfl (Nat.le_of_ble_eq_true rfl) rfl rfl (fun _ _ h => h.elim) ?_
    rintro _ w2 ⟨rfl, fm2, h2⟩
    have ke2 := z_ke h2 ke0 rfl
    refine j_if_eq (tgt := 17) dX11_heardText_9 (by decide) (fun c_9_22 => ?_) (fun c_9_22 => ?_)
    · refine j_aload_n dX11_heardText_17 rfl rfl ?_
      refine j_getf dX11_heardText_18 fX11_40 h2.m rfl ?_
      refine j_iload_n dX11_heardText_21 rfl ?_
      obtain ⟨fz925, gz925, hz925⟩ := h2.hs
      refine j_aald (v := .ref (1009 + i924)) dX11_heardText_22 gz925 rfl rfl (vp_in_nI (by omega) (by omega)) (by rw [z_cla (by omega)]; exact hz925 _ (by omega)) ?_
      refine j_callVN (q := (RX10, TX10, 5)) dX11_heardText_23 kX10_text lX11_210 inX10_text seX10_text (h2.hd (i := i924) (by omega)) rfl (cm_textH hl w2 _ (i924) h2 (by omega)) (Nat.le_of_ble_eq_true rfl) ⟨(by show _ ≤ 20; omega), (by show _ ≤ 640; omega)⟩ rfl (Nat.le_of_ble_eq_true rfl) rfl rfl (fun _ _ h => h.elim) ?_
      rintro _ w3 ⟨r3, m3, s3, rfl, fm3, h3, hk3, ht3⟩
      have ke3 := z_ke h3 ke2 hk3
      refine j_aret dX11_heardText_26 rfl (Or.inl ⟨_, rfl⟩) rfl ?_ (by show _ ≤ 20; omega) (by show _ ≤ 640; omega)
      exact ⟨_, _, rfl, rfl, ((fm2.le (q' := 59) (by decide)).tr (fm3.le (q' := 59) (by decide))), h3, ke3⟩
    · exact absurd c_9_22 (by decide)
set_option maxRecDepth 100000 in
set_option maxHeartbeats 8000000 in
theorem cm_rowText (hl : l.stackTraces = false) (w : z_W) (s : z_Z) (x : Int32) (h : z_mst w s)  : z_Con G l mX11_rowText 20 24 800 w [.ref 1000, .int x] (fun v w9 => ∃ (r : Value) (s9 : z_Z), v = some r ∧ z_ir r = true ∧ z_fm 59 w w9 ∧ z_mst w9 s9 ∧ z_key s9 = z_key s) (fun _ _ => False) := by
  have ke0 : z_key s = z_key s := rfl
  refine z_body hl (by decide) rfl (Nat.le_of_ble_eq_true rfl) ?_
  show z_J G l mX11_rowText _ 0 [(0, _), (1, _)] [] _ 0 0
  refine j_aload_n dX11_rowText_0 rfl rfl ?_
  refine j_iload_n dX11_rowText_1 rfl ?_
  refine j_callS dX11_rowText_2 kX11_isNoTwo lX11_72 stX11_isNoTwo (cm_isNoTwo hl w _) (Nat.le_of_ble_eq_true rfl) ⟨(by show _ ≤ 24; omega), (by show _ ≤ 800; omega)⟩ rfl (Nat.le_of_ble_eq_true rfl) rfl rfl (fun _ _ h => h.elim) ?_
  rintro _ _ ⟨⟨rfl, hno926⟩ | ⟨rfl, i926, hi926, rfl⟩, hw926⟩
  · refine j_w w hw926 ?_
    refine j_iconst (v := 1) dX11_rowText_5 (by decide) ?_
    refine j_callV (q := (RX11, TX11, 8)) dX11_rowText_6 kX11_start lX11_76 inX11_start seX11_start h.m rfl (cm_start1 hl w _ _ h (by decide)) (Nat.le_of_ble_eq_true rfl) ⟨(by show _ ≤ 24; omega), (by show _ ≤ 800; omega)⟩ rfl (Nat.le_of_ble_eq_true rfl) rfl rfl (fun _ _ h => h.elim) ?_
    rintro _ w1 ⟨rfl, fm1, h1⟩
    have ke1 := z_ke h1 ke0 rfl
    refine j_if_eq (tgt := 15) dX11_rowText_9 (by decide) (fun c_9_11 => ?_) (fun c_9_11 => ?_)
    · exact absurd c_9_11 (by decide)
    · refine j_ldcS (i := 10) dX11_rowText_12 rfl (Or.inl rfl) rfl rfl ?_
      refine j_aret dX11_rowText_14 rfl (Or.inl ⟨_, rfl⟩) rfl ?_ (by show _ ≤ 24; omega) (by show _ ≤ 800; omega)
      exact ⟨_, _, rfl, rfl, (fm1.le (q' := 59) (by decide)), h1, ke1⟩
  · refine j_w w hw926 ?_
    refine j_iconst (v := 1) dX11_rowText_5 (by decide) ?_
    refine j_callV (q := (RX11, TX11, 8)) dX11_rowText_6 kX11_start lX11_76 inX11_start seX11_start h.m rfl (cm_start0 hl w _ _ h) (Nat.le_of_ble_eq_true rfl) ⟨(by show _ ≤ 24; omega), (by show _ ≤ 800; omega)⟩ rfl (Nat.le_of_ble_eq_true rfl) rfl rfl (fun _ _ h => h.elim) ?_
    rintro _ w2 ⟨rfl, fm2, h2⟩
    have ke2 := z_ke h2 ke0 rfl
    refine j_if_eq (tgt := 15) dX11_rowText_9 (by decide) (fun c_9_21 => ?_) (fun c_9_21 => ?_)
    · obtain ⟨x1, hx1a, hx1b, hx1c⟩ := z_fresh (56) (by decide) h2.fn
      refine j_new (N := 4) (w' := _) (n := x1) dX11_rowText_15 nX11_214 rfl (z_alW hx1c hx1a) (Nat.le_of_ble_eq_true rfl) (Nat.le_of_ble_eq_true rfl) ?_
      refine j_seal hx1a ?_
      intro w3 u3
      have fw3 := u3.fw hx1a hx1b
      have g3_x1 := u3.1
      have h3 := h2.gar fw3 (by omega)
      have ke3 := z_ke h3 ke2 rfl
      refine j_dup dX11_rowText_18 rfl ?_
      refine j_callI dX11_rowText_19 kJ4_init_da8c8 rfl lX11_216 inJ4_init_da8c8 rfl (sb_ini hl w3 56 x1 hx1a hx1b (by decide) h3.fn g3_x1) (Nat.le_of_ble_eq_true rfl) ⟨(by show _ ≤ 24; omega), (by show _ ≤ 800; omega)⟩ rfl (Nat.le_of_ble_eq_true rfl) rfl rfl (fun _ _ h => h.elim) ?_
      rintro _ w4 ⟨rfl, fw4, hs4⟩
      have fm4 := fw4.fm (q := 59) (by omega)
      have h4 := h3.gar fw4 (by omega)
      have ke4 := z_ke h4 ke3 rfl
      refine j_astore_n (lo' := [(2, _), (0, _), (1, _)]) dX11_rowText_22 rfl (by decide) rfl ?_
      refine j_aload_n dX11_rowText_23 rfl rfl ?_
      refine j_getf dX11_rowText_24 fX11_21 h4.m rfl ?_
      refine j_iload_n dX11_rowText_27 rfl ?_
      obtain ⟨lv928, -, lg928⟩ := z_li.cell h4.rows
      refine j_callV (q := (RJx4a65c, TJx4a65c, 3)) dX11_rowText_28 kJx4a65c_get_915e3 lX11_82 inJx4a65c_get_915e3 seJx4a65c_get_915e3 lg928 rfl (cl_get hl w4 41 1001 _ _ (i926) _ h4.rows (z_two2 (i := i926) (by omega))) (Nat.le_of_ble_eq_true rfl) ⟨(by show _ ≤ 24; omega), (by show _ ≤ 800; omega)⟩ rfl (Nat.le_of_ble_eq_true rfl) rfl rfl (fun _ _ h => h.elim) ?_
      rintro _ _ ⟨rfl, hw929⟩
      refine j_w w4 hw929 ?_
      refine j_castS dX11_rowText_31 (z_w 1341 ((lwg_6 96).trans (by decide +kernel)) (by decide +kernel)) (z_li.is (h4.rw (i := i926) (by omega)).1) ?_
      obtain ⟨lv932, -, lg932⟩ := z_li.cell (h4.rw (i := i926) (by omega)).1
      refine j_callV (q := (RJx4a65c, TJx4a65c, 3)) dX11_rowText_34 kJx4a65c_iterator_32c93 lX11_162 inJx4a65c_iterator_32c93 seJx4a65c_iterator_32c93 lg932 rfl (cl_iter hl w4 58 (11 + i926) _ _ _ (h4.rw (i := i926) (by omega)).1 (by decide) (by omega) h4.fn) (Nat.le_of_ble_eq_true rfl) ⟨(by show _ ≤ 24; omega), (by show _ ≤ 800; omega)⟩ rfl (Nat.le_of_ble_eq_true rfl) rfl rfl (fun _ _ h => h.elim) ?_
      rintro _ w5 ⟨it931, rfl, fw5, hita931, hitb931, hitc931, la931, git931⟩
      have hita931 : 1000 ≤ it931 := hita931
      have hitb931 : it931 % 64 = 58 := hitb931
      have fm5 := fw5.fm (q := 59) (by omega)
      have h5 := h4.gar fw5 (by omega)
      have hs5 := hs4.fw fw5 (by decide)
      have ke5 := z_ke h5 ke4 rfl
      refine j_astore_n (lo' := [(3, _), (2, _), (0, _), (1, _)]) dX11_rowText_37 rfl (by decide) rfl ?_
      have loop38 : ∀ (n9 : Nat) (w6 : z_W) (s1 : z_Z) (k bn bN : Nat) (la : Int32), (k ≤ 12) → (12 < k + n9) → (z_mst w6 s1) → (z_fm 59 w w6) → (z_key s1 = z_key s) → (k ≤ (z_qw s1 (i926)).2.length) → (z_g w6 it931 = some (.inr (3, [.int (nI k), .int la, .int (z_qw s1 (i926)).1, .ref ((z_qr s1).2 (i926))]))) → (z_sb w6 56 x1 bn bN) → (bn ≤ 12 * k) → (bN ≤ 2 * 144 + 16) → z_J G l mX11_rowText (20, 24, 800, w, (fun v w9 => ∃ (r : Value) (s9 : z_Z), v = some r ∧ z_ir r = true ∧ z_fm 59 w w9 ∧ z_mst w9 s9 ∧ z_key s9 = z_key s), (fun _ _ => False)) 38 [(0, .ref 1000), (1, .int (nI i926)), (2, .ref x1), (3, .ref it931)] [] w6 (2 + bN / 16) (2 * bN) := by
        intro n9
        induction n9 with
        | zero => intro w6 s1 k bn bN la hj hf9 hm hfm hke hkl git hsb hbn hbN; exact absurd hf9 (by omega)
        | succ n9 ih =>
          intro w6 s1 k bn bN la hj hf9 hm hfm hke hkl git hsb hbn hbN
          have hnN0 := hsb.nN
          refine j_aload_n dX11_rowText_38 rfl rfl ?_
          refine j_callF (x := ⟨"java/util/Iterator", "hasNext", "()Z"⟩) (q := (RJx35411, TJx35411, 4)) dX11_rowText_39 kJx35411_hasNext_aae02 ⟨(z_w 1765 ((lwg_8 40).trans (by decide +kernel)) (by decide +kernel)), (z_w 1769 ((lwg_8 44).trans (by decide +kernel)) (by decide +kernel)), inJx35411_hasNext_aae02, ⟨by decide, by decide⟩, rfl, fun U h => h.2.1⟩ git rfl (cl_hasN hl w6 _ (11 + i926) _ (k) _ _ (hm.rw (i := i926) (by omega)).1 ⟨_, git⟩ (by rw [z_bx_len]; omega)) (Nat.le_of_ble_eq_true rfl) ⟨(by show _ ≤ 24; omega), (by show _ ≤ 800; omega)⟩ rfl (Nat.le_of_ble_eq_true rfl) rfl ?_
          rintro _ _ ⟨⟨x933, rfl, hz933, hp933⟩, hw933⟩
          refine j_w w6 hw933 ?_
          refine j_if_eq (tgt := 88) dX11_rowText_44 (by decide) (fun c_44_66 => ?_) (fun c_44_66 => ?_)
          · have hk44 : k = (z_qw s1 (i926)).2.length := (z_bx_len ▸ hz933 c_44_66)
            refine j_aload_n dX11_rowText_88 rfl rfl ?_
            have hnN := hsb.nN
            obtain ⟨fs934, gs934⟩ := hsb.cell
            refine j_callV (q := (RJ4, TJ4, 4)) dX11_rowText_89 kJ4_toString_0e30d lX11_229 inJ4_toString_0e30d seJ4_toString_0e30d gs934 rfl (sb_toS hl w6 57 56 x1 (bn) (bN) hsb (by decide) (by decide) hm.fn) (Nat.le_of_ble_eq_true rfl) ⟨(by show _ ≤ 24; omega), (by show _ ≤ 800; omega)⟩ rfl (Nat.le_of_ble_eq_true rfl) rfl rfl (fun _ _ h => h.elim) ?_
            rintro _ w7 ⟨r7, rfl, fw7, ht7⟩
            have g7_it931 := fw7.g (Or.inr (by omega)) git
            have fm7 := fw7.fm (q := 59) (by omega)
            have h7 := hm.gar fw7 (by omega)
            have ke7 := z_ke h7 hke rfl
            refine j_aret dX11_rowText_92 rfl (Or.inl ⟨_, rfl⟩) rfl ?_ (by show _ ≤ 24; omega) (by show _ ≤ 800; omega)
            exact ⟨_, _, rfl, rfl, (hfm.tr fm7), h7, ke7⟩
          · have hk44 : k < (z_qw s1 (i926)).2.length := (z_bx_len ▸ hp933 c_44_66)
            have hzk44 : (z_qw s1 (i926)).2.length ≤ 12 := (hm.rw (i := i926) (by omega)).2
            refine j_aload_n dX11_rowText_47 rfl rfl ?_
            refine j_callF (x := ⟨"java/util/Iterator", "next", "()Ljava/lang/Object;"⟩) (q := (RJx35411, TJx35411, 4)) dX11_rowText_48 kJx35411_next_0502b ⟨(z_w 1775 ((lwg_8 50).trans (by decide +kernel)) (by decide +kernel)), (z_w 1778 ((lwg_8 53).trans (by decide +kernel)) (by decide +kernel)), inJx35411_next_0502b, ⟨by decide, by decide⟩, rfl, fun U h => h.2.2.1⟩ git rfl (cl_next hl w6 58 it931 (11 + i926) _ (k) _ _ _ (hm.rw (i := i926) (by omega)).1 ⟨_, git⟩ (z_bx_get (B := (z_qw s1 (i926)).2) (by omega)) hita931 hitb931 (by omega)) (Nat.le_of_ble_eq_true rfl) ⟨(by show _ ≤ 24; omega), (by show _ ≤ 800; omega)⟩ rfl (Nat.le_of_ble_eq_true rfl) rfl ?_
            rintro _ w8 ⟨rfl, fw8, la8, git8⟩
            have fm8 := fw8.fm (q := 59) (by omega)
            have h8 := hm.gar fw8 (by omega)
            have hs8 := hsb.fw fw8 (by decide)
            have ke8 := z_ke h8 hke rfl
            refine j_castS dX11_rowText_53 (z_w 1567 ((lwg_7 82).trans (by decide +kernel)) (by decide +kernel)) rfl ?_
            refine j_callVB (v0 := .float _) (C := "java/lang/Integer") dX11_rowText_56 kJ6_intValue_8abf5 lX11_99 inJ6_intValue_8abf5 seJ6_intValue_8abf5 rfl (c_J6_intValue_8abf5 hl w8 _) (Nat.le_of_ble_eq_true rfl) ⟨(by show _ ≤ 24; omega), (by show _ ≤ 800; omega)⟩ rfl (Nat.le_of_ble_eq_true rfl) rfl rfl (fun _ _ h => h.elim) ?_
            rintro _ _ ⟨rfl, hw937⟩
            refine j_w w8 hw937 ?_
            refine j_gen ?_
            intro xv938
            refine j_istore (lo' := [(4, _), (0, _), (1, _), (2, _), (3, _)]) dX11_rowText_59 (by decide) rfl ?_
            refine j_aload_n dX11_rowText_61 rfl rfl ?_
            refine j_aload_n dX11_rowText_62 rfl rfl ?_
            obtain ⟨fs939, gs939⟩ := hs8.cell
            refine j_callV (q := (RJ4, TJ4, 4)) dX11_rowText_63 kJ4_length_8abf5 lX11_217 inJ4_length_8abf5 seJ4_length_8abf5 gs939 rfl (sb_len hl w8 56 x1 (bn) (bN) hs8) (Nat.le_of_ble_eq_true rfl) ⟨(by show _ ≤ 24; omega), (by show _ ≤ 800; omega)⟩ rfl (Nat.le_of_ble_eq_true rfl) rfl rfl (fun _ _ h => h.elim) ?_
            rintro _ _ ⟨rfl, hw940⟩
            refine j_w w8 hw940 ?_
            refine j_if_le (tgt := 74) dX11_rowText_66 (by decide) (fun c_66_101 => ?_) (fun c_66_101 => ?_)
            · have hb66 : (bn) ≤ 0 := (nI_leI (a := (bn)) (b := 0) (by omega) (by omega)).mp c_66_101
              refine j_ldcS (i := 10) dX11_rowText_74 rfl (Or.inl rfl) rfl rfl ?_
              have hnN941 := hs8.nN
              have hle941 := z_gr_le (N := bN) (m := (bn + 0))
              have hmx941 := z_gr_mx (N := bN) (m := (bn + 0)) (M := 144) (by omega) (by omega)
              obtain ⟨fs942, gs942⟩ := hs8.cell
              refine j_callV (q := (RJ4, TJ4, 4)) dX11_rowText_76 kJ4_append_15ec4 lX11_222 inJ4_append_15ec4 seJ4_append_15ec4 gs942 rfl (sb_apK hl w8 56 x1 (bn) (bN) 10 0 _ rfl (Or.inl rfl) (by decide) hs8 (by omega) (by omega) (by decide) h8.fn) (Nat.le_of_ble_eq_true rfl) ⟨(by show _ ≤ 24; omega), (by show _ ≤ 800; omega)⟩ rfl (Nat.le_of_ble_eq_true rfl) rfl rfl (fun _ _ h => h.elim) ?_
              rintro _ w9 ⟨rfl, fw9, hs9⟩
              have g9_it931 := fw9.g (Or.inr (by omega)) git8
              have fm9 := fw9.fm (q := 59) (by omega)
              have h9 := h8.gar fw9 (by omega)
              have ke9 := z_ke h9 ke8 rfl
              refine j_iload dX11_rowText_79 rfl ?_
              have hzs81 := z_sz_in xv938
              have hnN943 := hs9.nN
              have hle943 := z_gr_le (N := (z_gr (bN) (bn + 0))) (m := ((bn + 0) + z_sz xv938))
              have hmx943 := z_gr_mx (N := (z_gr (bN) (bn + 0))) (m := ((bn + 0) + z_sz xv938)) (M := 144) (by omega) (by omega)
              obtain ⟨fs944, gs944⟩ := hs9.cell
              refine j_callV (q := (RJ4, TJ4, 4)) dX11_rowText_81 kJ4_append_bf812 lX11_226 inJ4_append_bf812 seJ4_append_bf812 gs944 rfl (sb_apI hl w9 56 x1 ((bn + 0)) ((z_gr (bN) (bn + 0))) xv938 hs9 (by omega) (by omega) (by decide) h9.fn) (Nat.le_of_ble_eq_true rfl) ⟨(by show _ ≤ 24; omega), (by show _ ≤ 800; omega)⟩ rfl (Nat.le_of_ble_eq_true rfl) rfl rfl (fun _ _ h => h.elim) ?_
              rintro _ w10 ⟨rfl, fw10, hs10⟩
              have g10_it931 := fw10.g (Or.inr (by omega)) g9_it931
              have fm10 := fw10.fm (q := 59) (by omega)
              have h10 := h9.gar fw10 (by omega)
              have ke10 := z_ke h10 ke9 rfl
              refine j_pop dX11_rowText_84 rfl ?_
              refine j_goto (tgt := 38) dX11_rowText_85 (by decide) ?_
              refine j_widen (kc' := 2 + (z_gr ((z_gr (bN) (bn + 0))) ((bn + 0) + z_sz xv938)) / 16) (ks' := 2 * (z_gr ((z_gr (bN) (bn + 0))) ((bn + 0) + z_sz xv938))) (by omega) (by omega) ?_
              exact j_lo2 (ih w10 _ (k + 1) ((bn + 0) + z_sz xv938) (z_gr ((z_gr (bN) (bn + 0))) ((bn + 0) + z_sz xv938)) _ (by omega) (by omega) h10 (((hfm.tr fm8).tr fm9).tr fm10) ke10 (by first | omega | (show _ ≤ (z_qw s1 (i926)).2.length; omega)) g10_it931 hs10 (by omega) (by omega)) (z_q1 rfl (z_q1 rfl (z_q1 rfl (z_q1 rfl z_q0))))
            · have hb66 : 0 < (bn) := Nat.not_le.mp (fun z => c_66_101 ((nI_leI (a := (bn)) (b := 0) (by omega) (by omega)).mpr z))
              refine j_ldcS (i := 13) dX11_rowText_69 rfl (Or.inl rfl) rfl rfl ?_
              refine j_goto (tgt := 76) dX11_rowText_71 (by decide) ?_
              have hnN945 := hs8.nN
              have hle945 := z_gr_le (N := bN) (m := (bn + 1))
              have hmx945 := z_gr_mx (N := bN) (m := (bn + 1)) (M := 144) (by omega) (by omega)
              obtain ⟨fs946, gs946⟩ := hs8.cell
              refine j_callV (q := (RJ4, TJ4, 4)) dX11_rowText_76 kJ4_append_15ec4 lX11_222 inJ4_append_15ec4 seJ4_append_15ec4 gs946 rfl (sb_apK hl w8 56 x1 (bn) (bN) 13 1 _ rfl (Or.inl rfl) (by decide) hs8 (by omega) (by omega) (by decide) h8.fn) (Nat.le_of_ble_eq_true rfl) ⟨(by show _ ≤ 24; omega), (by show _ ≤ 800; omega)⟩ rfl (Nat.le_of_ble_eq_true rfl) rfl rfl (fun _ _ h => h.elim) ?_
              rintro _ w11 ⟨rfl, fw11, hs11⟩
              have g11_it931 := fw11.g (Or.inr (by omega)) git8
              have fm11 := fw11.fm (q := 59) (by omega)
              have h11 := h8.gar fw11 (by omega)
              have ke11 := z_ke h11 ke8 rfl
              refine j_iload dX11_rowText_79 rfl ?_
              have hzs81 := z_sz_in xv938
              have hnN947 := hs11.nN
              have hle947 := z_gr_le (N := (z_gr (bN) (bn + 1))) (m := ((bn + 1) + z_sz xv938))
              have hmx947 := z_gr_mx (N := (z_gr (bN) (bn + 1))) (m := ((bn + 1) + z_sz xv938)) (M := 144) (by omega) (by omega)
              obtain ⟨fs948, gs948⟩ := hs11.cell
              refine j_callV (q := (RJ4, TJ4, 4)) dX11_rowText_81 kJ4_append_bf812 lX11_226 inJ4_append_bf812 seJ4_append_bf812 gs948 rfl (sb_apI hl w11 56 x1 ((bn + 1)) ((z_gr (bN) (bn + 1))) xv938 hs11 (by omega) (by omega) (by decide) h11.fn) (Nat.le_of_ble_eq_true rfl) ⟨(by show _ ≤ 24; omega), (by show _ ≤ 800; omega)⟩ rfl (Nat.le_of_ble_eq_true rfl) rfl rfl (fun _ _ h => h.elim) ?_
              rintro _ w12 ⟨rfl, fw12, hs12⟩
              have g12_it931 := fw12.g (Or.inr (by omega)) g11_it931
              have fm12 := fw12.fm (q := 59) (by omega)
              have h12 := h11.gar fw12 (by omega)
              have ke12 := z_ke h12 ke11 rfl
              refine j_pop dX11_rowText_84 rfl ?_
              refine j_goto (tgt := 38) dX11_rowText_85 (by decide) ?_
              refine j_widen (kc' := 2 + (z_gr ((z_gr (bN) (bn + 1))) ((bn + 1) + z_sz xv938)) / 16) (ks' := 2 * (z_gr ((z_gr (bN) (bn + 1))) ((bn + 1) + z_sz xv938))) (by omega) (by omega) ?_
              exact j_lo2 (ih w12 _ (k + 1) ((bn + 1) + z_sz xv938) (z_gr ((z_gr (bN) (bn + 1))) ((bn + 1) + z_sz xv938)) _ (by omega) (by omega) h12 (((hfm.tr fm8).tr fm11).tr fm12) ke12 (by first | omega | (show _ ≤ (z_qw s1 (i926)).2.length; omega)) g12_it931 hs12 (by omega) (by omega)) (z_q1 rfl (z_q1 rfl (z_q1 rfl (z_q1 rfl z_q0))))
      refine j_widen (kc' := 2 + 16 / 16) (ks' := 2 * 16) (by decide) (by decide) ?_
      exact j_lo2 (loop38 (12 + 1) w5 _ 0 0 16 _ (by omega) (by omega) h5 ((((fm2.le (q' := 59) (by decide)).tr (fw3.fm (q := 59) (by omega))).tr fm4).tr fm5) ke5 (Nat.zero_le _) git931 hs5 (by omega) (by omega)) (z_q1 rfl (z_q1 rfl (z_q1 rfl (z_q1 rfl z_q0))))
    · exact absurd c_9_21 (by decide)
set_option maxRecDepth 100000 in
set_option maxHeartbeats 8000000 in
theorem cm_text (hl : l.stackTraces = false) (w : z_W) (s : z_Z) (x : Int32) (h : z_mst w s)  : z_Con G l mX11_text 20 66 2450 w [.ref 1000, .int x] (fun v w9 => ∃ (r : Value) (s9 : z_Z), v = some r ∧ z_ir r = true ∧ z_fm 59 w w9 ∧ z_mst w9 s9 ∧ z_key s9 = z_key s) (fun _ _ => False) := by
  have ke0 : z_key s = z_key s := rfl
  refine z_body hl (by decide) rfl (Nat.le_of_ble_eq_true rfl) ?_
  show z_J G l mX11_text _ 0 [(0, _), (1, _)] [] _ 0 0
  refine j_aload_n dX11_text_0 rfl rfl ?_
  refine j_iload_n dX11_text_1 rfl ?_
  refine j_callS dX11_text_2 kX11_isNoTable lX11_136 stX11_isNoTable (cm_isNoTable hl w _) (Nat.le_of_ble_eq_true rfl) ⟨(by show _ ≤ 66; omega), (by show _ ≤ 2450; omega)⟩ rfl (Nat.le_of_ble_eq_true rfl) rfl rfl (fun _ _ h => h.elim) ?_
  rintro _ _ ⟨⟨rfl, hno949⟩ | ⟨rfl, i949, hi949, rfl⟩, hw949⟩
  · refine j_w w hw949 ?_
    refine j_iconst (v := 1) dX11_text_5 (by decide) ?_
    refine j_callV (q := (RX11, TX11, 8)) dX11_text_6 kX11_start lX11_76 inX11_start seX11_start h.m rfl (cm_start1 hl w _ _ h (by decide)) (Nat.le_of_ble_eq_true rfl) ⟨(by show _ ≤ 66; omega), (by show _ ≤ 2450; omega)⟩ rfl (Nat.le_of_ble_eq_true rfl) rfl rfl (fun _ _ h => h.elim) ?_
    rintro _ w1 ⟨rfl, fm1, h1⟩
    have ke1 := z_ke h1 ke0 rfl
    refine j_if_eq (tgt := 15) dX11_text_9 (by decide) (fun c_9_11 => ?_) (fun c_9_11 => ?_)
    · exact absurd c_9_11 (by decide)
    · refine j_ldcS (i := 10) dX11_text_12 rfl (Or.inl rfl) rfl rfl ?_
      refine j_aret dX11_text_14 rfl (Or.inl ⟨_, rfl⟩) rfl ?_ (by show _ ≤ 66; omega) (by show _ ≤ 2450; omega)
      exact ⟨_, _, rfl, rfl, (fm1.le (q' := 59) (by decide)), h1, ke1⟩
  · refine j_w w hw949 ?_
    refine j_iconst (v := 1) dX11_text_5 (by decide) ?_
    refine j_callV (q := (RX11, TX11, 8)) dX11_text_6 kX11_start lX11_76 inX11_start seX11_start h.m rfl (cm_start0 hl w _ _ h) (Nat.le_of_ble_eq_true rfl) ⟨(by show _ ≤ 66; omega), (by show _ ≤ 2450; omega)⟩ rfl (Nat.le_of_ble_eq_true rfl) rfl rfl (fun _ _ h => h.elim) ?_
    rintro _ w2 ⟨rfl, fm2, h2⟩
    have ke2 := z_ke h2 ke0 rfl
    refine j_if_eq (tgt := 15) dX11_text_9 (by decide) (fun c_9_21 => ?_) (fun c_9_21 => ?_)
    · obtain ⟨x1, hx1a, hx1b, hx1c⟩ := z_fresh (56) (by decide) h2.fn
      refine j_new (N := 4) (w' := _) (n := x1) dX11_text_15 nX11_214 rfl (z_alW hx1c hx1a) (Nat.le_of_ble_eq_true rfl) (Nat.le_of_ble_eq_true rfl) ?_
      refine j_seal hx1a ?_
      intro w3 u3
      have fw3 := u3.fw hx1a hx1b
      have g3_x1 := u3.1
      have h3 := h2.gar fw3 (by omega)
      have ke3 := z_ke h3 ke2 rfl
      refine j_dup dX11_text_18 rfl ?_
      refine j_callI dX11_text_19 kJ4_init_da8c8 rfl lX11_216 inJ4_init_da8c8 rfl (sb_ini hl w3 56 x1 hx1a hx1b (by decide) h3.fn g3_x1) (Nat.le_of_ble_eq_true rfl) ⟨(by show _ ≤ 66; omega), (by show _ ≤ 2450; omega)⟩ rfl (Nat.le_of_ble_eq_true rfl) rfl rfl (fun _ _ h => h.elim) ?_
      rintro _ w4 ⟨rfl, fw4, hs4⟩
      have fm4 := fw4.fm (q := 59) (by omega)
      have h4 := h3.gar fw4 (by omega)
      have ke4 := z_ke h4 ke3 rfl
      refine j_astore_n (lo' := [(2, _), (0, _), (1, _)]) dX11_text_22 rfl (by decide) rfl ?_
      refine j_aload_n dX11_text_23 rfl rfl ?_
      refine j_getf dX11_text_24 fX11_34 h4.m rfl ?_
      refine j_iload_n dX11_text_27 rfl ?_
      obtain ⟨lv951, -, lg951⟩ := z_li.cell h4.tabs
      refine j_callV (q := (RJx4a65c, TJx4a65c, 3)) dX11_text_28 kJx4a65c_get_915e3 lX11_82 inJx4a65c_get_915e3 seJx4a65c_get_915e3 lg951 rfl (cl_get hl w4 47 1007 _ _ (i949) _ h4.tabs (z_thr3 (t := i949) (by omega))) (Nat.le_of_ble_eq_true rfl) ⟨(by show _ ≤ 66; omega), (by show _ ≤ 2450; omega)⟩ rfl (Nat.le_of_ble_eq_true rfl) rfl rfl (fun _ _ h => h.elim) ?_
      rintro _ _ ⟨rfl, hw952⟩
      refine j_w w4 hw952 ?_
      refine j_castS dX11_text_31 (z_w 1341 ((lwg_6 96).trans (by decide +kernel)) (by decide +kernel)) (z_li.is (h4.tb (t := i949) (by omega))) ?_
      obtain ⟨lv955, -, lg955⟩ := z_li.cell (h4.tb (t := i949) (by omega))
      refine j_callV (q := (RJx4a65c, TJx4a65c, 3)) dX11_text_34 kJx4a65c_iterator_32c93 lX11_162 inJx4a65c_iterator_32c93 seJx4a65c_iterator_32c93 lg955 rfl (cl_iter hl w4 58 (51 + i949) _ _ _ (h4.tb (t := i949) (by omega)) (by decide) (by omega) h4.fn) (Nat.le_of_ble_eq_true rfl) ⟨(by show _ ≤ 66; omega), (by show _ ≤ 2450; omega)⟩ rfl (Nat.le_of_ble_eq_true rfl) rfl rfl (fun _ _ h => h.elim) ?_
      rintro _ w5 ⟨it954, rfl, fw5, hita954, hitb954, hitc954, la954, git954⟩
      have hita954 : 1000 ≤ it954 := hita954
      have hitb954 : it954 % 64 = 58 := hitb954
      have fm5 := fw5.fm (q := 59) (by omega)
      have h5 := h4.gar fw5 (by omega)
      have hs5 := hs4.fw fw5 (by decide)
      have ke5 := z_ke h5 ke4 rfl
      refine j_astore_n (lo' := [(3, _), (2, _), (0, _), (1, _)]) dX11_text_37 rfl (by decide) rfl ?_
      have loop38 : ∀ (n9 : Nat) (w6 : z_W) (s1 : z_Z) (k bn bN : Nat) (la : Int32), (k ≤ 20) → (20 < k + n9) → (z_mst w6 s1) → (z_fm 59 w w6) → (z_key s1 = z_key s) → (k ≤ (z_qp s1 (i949)).2.length) → (z_g w6 it954 = some (.inr (3, [.int (nI k), .int la, .int (z_qp s1 (i949)).1, .ref (1011 + i949)]))) → (z_sb w6 56 x1 bn bN) → (bn ≤ 24 * k) → (bN ≤ 2 * 480 + 16) → z_J G l mX11_text (20, 66, 2450, w, (fun v w9 => ∃ (r : Value) (s9 : z_Z), v = some r ∧ z_ir r = true ∧ z_fm 59 w w9 ∧ z_mst w9 s9 ∧ z_key s9 = z_key s), (fun _ _ => False)) 38 [(0, .ref 1000), (1, .int (nI i949)), (2, .ref x1), (3, .ref it954)] [] w6 (2 + bN / 16) (2 * bN) := by
        intro n9
        induction n9 with
        | zero => intro w6 s1 k bn bN la hj hf9 hm hfm hke hkl git hsb hbn hbN; exact absurd hf9 (by omega)
        | succ n9 ih =>
          intro w6 s1 k bn bN la hj hf9 hm hfm hke hkl git hsb hbn hbN
          have hnN0 := hsb.nN
          refine j_aload_n dX11_text_38 rfl rfl ?_
          refine j_callF (x := ⟨"java/util/Iterator", "hasNext", "()Z"⟩) (q := (RJx35411, TJx35411, 4)) dX11_text_39 kJx35411_hasNext_aae02 ⟨(z_w 1765 ((lwg_8 40).trans (by decide +kernel)) (by decide +kernel)), (z_w 1769 ((lwg_8 44).trans (by decide +kernel)) (by decide +kernel)), inJx35411_hasNext_aae02, ⟨by decide, by decide⟩, rfl, fun U h => h.2.1⟩ git rfl (cl_hasN hl w6 _ (51 + i949) _ (k) _ _ (hm.tb (t := i949) (by omega)) ⟨_, git⟩ (by rw [z_rs_len]; omega)) (Nat.le_of_ble_eq_true rfl) ⟨(by show _ ≤ 66; omega), (by show _ ≤ 2450; omega)⟩ rfl (Nat.le_of_ble_eq_true rfl) rfl ?_
          rintro _ _ ⟨⟨x956, rfl, hz956, hp956⟩, hw956⟩
          refine j_w w6 hw956 ?_
          refine j_if_eq (tgt := 99) dX11_text_44 (by decide) (fun c_44_66 => ?_) (fun c_44_66 => ?_)
          · have hk44 : k = (z_qp s1 (i949)).2.length := (z_rs_len ▸ hz956 c_44_66)
            refine j_aload_n dX11_text_99 rfl rfl ?_
            have hnN := hsb.nN
            obtain ⟨fs957, gs957⟩ := hsb.cell
            refine j_callV (q := (RJ4, TJ4, 4)) dX11_text_100 kJ4_toString_0e30d lX11_229 inJ4_toString_0e30d seJ4_toString_0e30d gs957 rfl (sb_toS hl w6 57 56 x1 (bn) (bN) hsb (by decide) (by decide) hm.fn) (Nat.le_of_ble_eq_true rfl) ⟨(by show _ ≤ 66; omega), (by show _ ≤ 2450; omega)⟩ rfl (Nat.le_of_ble_eq_true rfl) rfl rfl (fun _ _ h => h.elim) ?_
            rintro _ w7 ⟨r7, rfl, fw7, ht7⟩
            have g7_it954 := fw7.g (Or.inr (by omega)) git
            have fm7 := fw7.fm (q := 59) (by omega)
            have h7 := hm.gar fw7 (by omega)
            have ke7 := z_ke h7 hke rfl
            refine j_aret dX11_text_103 rfl (Or.inl ⟨_, rfl⟩) rfl ?_ (by show _ ≤ 66; omega) (by show _ ≤ 2450; omega)
            exact ⟨_, _, rfl, rfl, (hfm.tr fm7), h7, ke7⟩
          · have hk44 : k < (z_qp s1 (i949)).2.length := (z_rs_len ▸ hp956 c_44_66)
            have hzk44 : (z_qp s1 (i949)).2.length ≤ 20 := (hm.pr (t := i949) (by omega)).len
            refine j_aload_n dX11_text_47 rfl rfl ?_
            obtain ⟨p958, hp958, hq958, hk958⟩ := z_rs_ex (P := (z_qp s1 (i949)).2) (k := k) (by omega)
            refine j_callF (x := ⟨"java/util/Iterator", "next", "()Ljava/lang/Object;"⟩) (q := (RJx35411, TJx35411, 4)) dX11_text_48 kJx35411_next_0502b ⟨(z_w 1775 ((lwg_8 50).trans (by decide +kernel)) (by decide +kernel)), (z_w 1778 ((lwg_8 53).trans (by decide +kernel)) (by decide +kernel)), inJx35411_next_0502b, ⟨by decide, by decide⟩, rfl, fun U h => h.2.2.1⟩ git rfl (cl_next hl w6 58 it954 (51 + i949) _ (k) _ _ _ (hm.tb (t := i949) (by omega)) ⟨_, git⟩ hq958 hita954 hitb954 (by omega)) (Nat.le_of_ble_eq_true rfl) ⟨(by show _ ≤ 66; omega), (by show _ ≤ 2450; omega)⟩ rfl (Nat.le_of_ble_eq_true rfl) rfl ?_
            rintro _ w8 ⟨rfl, fw8, la8, git8⟩
            have fm8 := fw8.fm (q := 59) (by omega)
            have h8 := hm.gar fw8 (by omega)
            have hs8 := hsb.fw fw8 (by decide)
            have ke8 := z_ke h8 hke rfl
            refine j_castS dX11_text_53 (z_w 1663 ((lwg_7 178).trans (by decide +kernel)) (by decide +kernel)) (z_isA ((h8.pr (t := i949) (by omega)).1 p958 hp958).2) ?_
            refine j_astore (lo' := [(4, _), (0, _), (1, _), (2, _), (3, _)]) dX11_text_56 rfl (by decide) rfl ?_
            refine j_aload_n dX11_text_58 rfl rfl ?_
            refine j_aload_n dX11_text_59 rfl rfl ?_
            obtain ⟨fs960, gs960⟩ := hs8.cell
            refine j_callV (q := (RJ4, TJ4, 4)) dX11_text_60 kJ4_length_8abf5 lX11_217 inJ4_length_8abf5 seJ4_length_8abf5 gs960 rfl (sb_len hl w8 56 x1 (bn) (bN) hs8) (Nat.le_of_ble_eq_true rfl) ⟨(by show _ ≤ 66; omega), (by show _ ≤ 2450; omega)⟩ rfl (Nat.le_of_ble_eq_true rfl) rfl rfl (fun _ _ h => h.elim) ?_
            rintro _ _ ⟨rfl, hw961⟩
            refine j_w w8 hw961 ?_
            refine j_if_le (tgt := 71) dX11_text_63 (by decide) (fun c_63_97 => ?_) (fun c_63_97 => ?_)
            · have hb63 : (bn) ≤ 0 := (nI_leI (a := (bn)) (b := 0) (by omega) (by omega)).mp c_63_97
              refine j_ldcS (i := 10) dX11_text_71 rfl (Or.inl rfl) rfl rfl ?_
              have hnN962 := hs8.nN
              have hle962 := z_gr_le (N := bN) (m := (bn + 0))
              have hmx962 := z_gr_mx (N := bN) (m := (bn + 0)) (M := 480) (by omega) (by omega)
              obtain ⟨fs963, gs963⟩ := hs8.cell
              refine j_callV (q := (RJ4, TJ4, 4)) dX11_text_73 kJ4_append_15ec4 lX11_222 inJ4_append_15ec4 seJ4_append_15ec4 gs963 rfl (sb_apK hl w8 56 x1 (bn) (bN) 10 0 _ rfl (Or.inl rfl) (by decide) hs8 (by omega) (by omega) (by decide) h8.fn) (Nat.le_of_ble_eq_true rfl) ⟨(by show _ ≤ 66; omega), (by show _ ≤ 2450; omega)⟩ rfl (Nat.le_of_ble_eq_true rfl) rfl rfl (fun _ _ h => h.elim) ?_
              rintro _ w9 ⟨rfl, fw9, hs9⟩
              have g9_it954 := fw9.g (Or.inr (by omega)) git8
              have fm9 := fw9.fm (q := 59) (by omega)
              have h9 := h8.gar fw9 (by omega)
              have ke9 := z_ke h9 ke8 rfl
              refine j_aload dX11_text_76 rfl rfl ?_
              refine j_iconst (v := 0) dX11_text_78 (by decide) ?_
              refine j_ld dX11_text_79 ((h9.pr (t := i949) (by omega)).1 p958 hp958).2 (vp_in_nI (n := 0) (by decide) (by decide)) ?_
              refine j_gen ?_
              intro xv965
              have hzs80 := z_sz_in xv965
              have hnN966 := hs9.nN
              have hle966 := z_gr_le (N := (z_gr (bN) (bn + 0))) (m := ((bn + 0) + z_sz xv965))
              have hmx966 := z_gr_mx (N := (z_gr (bN) (bn + 0))) (m := ((bn + 0) + z_sz xv965)) (M := 480) (by omega) (by omega)
              obtain ⟨fs967, gs967⟩ := hs9.cell
              refine j_callV (q := (RJ4, TJ4, 4)) dX11_text_80 kJ4_append_bf812 lX11_226 inJ4_append_bf812 seJ4_append_bf812 gs967 rfl (sb_apI hl w9 56 x1 ((bn + 0)) ((z_gr (bN) (bn + 0))) xv965 hs9 (by omega) (by omega) (by decide) h9.fn) (Nat.le_of_ble_eq_true rfl) ⟨(by show _ ≤ 66; omega), (by show _ ≤ 2450; omega)⟩ rfl (Nat.le_of_ble_eq_true rfl) rfl rfl (fun _ _ h => h.elim) ?_
              rintro _ w10 ⟨rfl, fw10, hs10⟩
              have g10_it954 := fw10.g (Or.inr (by omega)) g9_it954
              have fm10 := fw10.fm (q := 59) (by omega)
              have h10 := h9.gar fw10 (by omega)
              have ke10 := z_ke h10 ke9 rfl
              refine j_ldcS (i := 14) dX11_text_83 rfl (Or.inl rfl) rfl rfl ?_
              have hnN968 := hs10.nN
              have hle968 := z_gr_le (N := (z_gr ((z_gr (bN) (bn + 0))) ((bn + 0) + z_sz xv965))) (m := (((bn + 0) + z_sz xv965) + 1))
              have hmx968 := z_gr_mx (N := (z_gr ((z_gr (bN) (bn + 0))) ((bn + 0) + z_sz xv965))) (m := (((bn + 0) + z_sz xv965) + 1)) (M := 480) (by omega) (by omega)
              obtain ⟨fs969, gs969⟩ := hs10.cell
              refine j_callV (q := (RJ4, TJ4, 4)) dX11_text_85 kJ4_append_15ec4 lX11_222 inJ4_append_15ec4 seJ4_append_15ec4 gs969 rfl (sb_apK hl w10 56 x1 (((bn + 0) + z_sz xv965)) ((z_gr ((z_gr (bN) (bn + 0))) ((bn + 0) + z_sz xv965))) 14 1 _ rfl (Or.inl rfl) (by decide) hs10 (by omega) (by omega) (by decide) h10.fn) (Nat.le_of_ble_eq_true rfl) ⟨(by show _ ≤ 66; omega), (by show _ ≤ 2450; omega)⟩ rfl (Nat.le_of_ble_eq_true rfl) rfl rfl (fun _ _ h => h.elim) ?_
              rintro _ w11 ⟨rfl, fw11, hs11⟩
              have g11_it954 := fw11.g (Or.inr (by omega)) g10_it954
              have fm11 := fw11.fm (q := 59) (by omega)
              have h11 := h10.gar fw11 (by omega)
              have ke11 := z_ke h11 ke10 rfl
              refine j_aload dX11_text_88 rfl rfl ?_
              refine j_iconst (v := 1) dX11_text_90 (by decide) ?_
              refine j_ld dX11_text_91 ((h11.pr (t := i949) (by omega)).1 p958 hp958).2 (vp_in_nI (n := 1) (by decide) (by decide)) ?_
              refine j_gen ?_
              intro xv971
              have hzs92 := z_sz_in xv971
              have hnN972 := hs11.nN
              have hle972 := z_gr_le (N := (z_gr ((z_gr ((z_gr (bN) (bn + 0))) ((bn + 0) + z_sz xv965))) (((bn + 0) + z_sz xv965) + 1))) (m := ((((bn + 0) + z_sz xv965) + 1) + z_sz xv971))
              have hmx972 := z_gr_mx (N := (z_gr ((z_gr ((z_gr (bN) (bn + 0))) ((bn + 0) + z_sz xv965))) (((bn + 0) + z_sz xv965) + 1))) (m := ((((bn + 0) + z_sz xv965) + 1) + z_sz xv971)) (M := 480) (by omega) (by omega)
              obtain ⟨fs973, gs973⟩ := hs11.cell
              refine j_callV (q := (RJ4, TJ4, 4)) dX11_text_92 kJ4_append_bf812 lX11_226 inJ4_append_bf812 seJ4_append_bf812 gs973 rfl (sb_apI hl w11 56 x1 ((((bn + 0) + z_sz xv965) + 1)) ((z_gr ((z_gr ((z_gr (bN) (bn + 0))) ((bn + 0) + z_sz xv965))) (((bn + 0) + z_sz xv965) + 1))) xv971 hs11 (by omega) (by omega) (by decide) h11.fn) (Nat.le_of_ble_eq_true rfl) ⟨(by show _ ≤ 66; omega), (by show _ ≤ 2450; omega)⟩ rfl (Nat.le_of_ble_eq_true rfl) rfl rfl (fun _ _ h => h.elim) ?_
              rintro _ w12 ⟨rfl, fw12, hs12⟩
              have g12_it954 := fw12.g (Or.inr (by omega)) g11_it954
              have fm12 := fw12.fm (q := 59) (by omega)
              have h12 := h11.gar fw12 (by omega)
              have ke12 := z_ke h12 ke11 rfl
              refine j_pop dX11_text_95 rfl ?_
              refine j_goto (tgt := 38) dX11_text_96 (by decide) ?_
              refine j_widen (kc' := 2 + (z_gr ((z_gr ((z_gr ((z_gr (bN) (bn + 0))) ((bn + 0) + z_sz xv965))) (((bn + 0) + z_sz xv965) + 1))) ((((bn + 0) + z_sz xv965) + 1) + z_sz xv971)) / 16) (ks' := 2 * (z_gr ((z_gr ((z_gr ((z_gr (bN) (bn + 0))) ((bn + 0) + z_sz xv965))) (((bn + 0) + z_sz xv965) + 1))) ((((bn + 0) + z_sz xv965) + 1) + z_sz xv971))) (by omega) (by omega) ?_
              exact j_lo2 (ih w12 _ (k + 1) ((((bn + 0) + z_sz xv965) + 1) + z_sz xv971) (z_gr ((z_gr ((z_gr ((z_gr (bN) (bn + 0))) ((bn + 0) + z_sz xv965))) (((bn + 0) + z_sz xv965) + 1))) ((((bn + 0) + z_sz xv965) + 1) + z_sz xv971)) _ (by omega) (by omega) h12 (((((hfm.tr fm8).tr fm9).tr fm10).tr fm11).tr fm12) ke12 (by first | omega | (show _ ≤ (z_qp s1 (i949)).2.length; omega)) g12_it954 hs12 (by omega) (by omega)) (z_q1 rfl (z_q1 rfl (z_q1 rfl (z_q1 rfl z_q0))))
            · have hb63 : 0 < (bn) := Nat.not_le.mp (fun z => c_63_97 ((nI_leI (a := (bn)) (b := 0) (by omega) (by omega)).mpr z))
              refine j_ldcS (i := 13) dX11_text_66 rfl (Or.inl rfl) rfl rfl ?_
              refine j_goto (tgt := 73) dX11_text_68 (by decide) ?_
              have hnN974 := hs8.nN
              have hle974 := z_gr_le (N := bN) (m := (bn + 1))
              have hmx974 := z_gr_mx (N := bN) (m := (bn + 1)) (M := 480) (by omega) (by omega)
              obtain ⟨fs975, gs975⟩ := hs8.cell
              refine j_callV (q := (RJ4, TJ4, 4)) dX11_text_73 kJ4_append_15ec4 lX11_222 inJ4_append_15ec4 seJ4_append_15ec4 gs975 rfl (sb_apK hl w8 56 x1 (bn) (bN) 13 1 _ rfl (Or.inl rfl) (by decide) hs8 (by omega) (by omega) (by decide) h8.fn) (Nat.le_of_ble_eq_true rfl) ⟨(by show _ ≤ 66; omega), (by show _ ≤ 2450; omega)⟩ rfl (Nat.le_of_ble_eq_true rfl) rfl rfl (fun _ _ h => h.elim) ?_
              rintro _ w13 ⟨rfl, fw13, hs13⟩
              have g13_it954 := fw13.g (Or.inr (by omega)) git8
              have fm13 := fw13.fm (q := 59) (by omega)
              have h13 := h8.gar fw13 (by omega)
              have ke13 := z_ke h13 ke8 rfl
              refine j_aload dX11_text_76 rfl rfl ?_
              refine j_iconst (v := 0) dX11_text_78 (by decide) ?_
              refine j_ld dX11_text_79 ((h13.pr (t := i949) (by omega)).1 p958 hp958).2 (vp_in_nI (n := 0) (by decide) (by decide)) ?_
              refine j_gen ?_
              intro xv977
              have hzs80 := z_sz_in xv977
              have hnN978 := hs13.nN
              have hle978 := z_gr_le (N := (z_gr (bN) (bn + 1))) (m := ((bn + 1) + z_sz xv977))
              have hmx978 := z_gr_mx (N := (z_gr (bN) (bn + 1))) (m := ((bn + 1) + z_sz xv977)) (M := 480) (by omega) (by omega)
              obtain ⟨fs979, gs979⟩ := hs13.cell
              refine j_callV (q := (RJ4, TJ4, 4)) dX11_text_80 kJ4_append_bf812 lX11_226 inJ4_append_bf812 seJ4_append_bf812 gs979 rfl (sb_apI hl w13 56 x1 ((bn + 1)) ((z_gr (bN) (bn + 1))) xv977 hs13 (by omega) (by omega) (by decide) h13.fn) (Nat.le_of_ble_eq_true rfl) ⟨(by show _ ≤ 66; omega), (by show _ ≤ 2450; omega)⟩ rfl (Nat.le_of_ble_eq_true rfl) rfl rfl (fun _ _ h => h.elim) ?_
              rintro _ w14 ⟨rfl, fw14, hs14⟩
              have g14_it954 := fw14.g (Or.inr (by omega)) g13_it954
              have fm14 := fw14.fm (q := 59) (by omega)
              have h14 := h13.gar fw14 (by omega)
              have ke14 := z_ke h14 ke13 rfl
              refine j_ldcS (i := 14) dX11_text_83 rfl (Or.inl rfl) rfl rfl ?_
              have hnN980 := hs14.nN
              have hle980 := z_gr_le (N := (z_gr ((z_gr (bN) (bn + 1))) ((bn + 1) + z_sz xv977))) (m := (((bn + 1) + z_sz xv977) + 1))
              have hmx980 := z_gr_mx (N := (z_gr ((z_gr (bN) (bn + 1))) ((bn + 1) + z_sz xv977))) (m := (((bn + 1) + z_sz xv977) + 1)) (M := 480) (by omega) (by omega)
              obtain ⟨fs981, gs981⟩ := hs14.cell
              refine j_callV (q := (RJ4, TJ4, 4)) dX11_text_85 kJ4_append_15ec4 lX11_222 inJ4_append_15ec4 seJ4_append_15ec4 gs981 rfl (sb_apK hl w14 56 x1 (((bn + 1) + z_sz xv977)) ((z_gr ((z_gr (bN) (bn + 1))) ((bn + 1) + z_sz xv977))) 14 1 _ rfl (Or.inl rfl) (by decide) hs14 (by omega) (by omega) (by decide) h14.fn) (Nat.le_of_ble_eq_true rfl) ⟨(by show _ ≤ 66; omega), (by show _ ≤ 2450; omega)⟩ rfl (Nat.le_of_ble_eq_true rfl) rfl rfl (fun _ _ h => h.elim) ?_
              rintro _ w15 ⟨rfl, fw15, hs15⟩
              have g15_it954 := fw15.g (Or.inr (by omega)) g14_it954
              have fm15 := fw15.fm (q := 59) (by omega)
              have h15 := h14.gar fw15 (by omega)
              have ke15 := z_ke h15 ke14 rfl
              refine j_aload dX11_text_88 rfl rfl ?_
              refine j_iconst (v := 1) dX11_text_90 (by decide) ?_
              refine j_ld dX11_text_91 ((h15.pr (t := i949) (by omega)).1 p958 hp958).2 (vp_in_nI (n := 1) (by decide) (by decide)) ?_
              refine j_gen ?_
              intro xv983
              have hzs92 := z_sz_in xv983
              have hnN984 := hs15.nN
              have hle984 := z_gr_le (N := (z_gr ((z_gr ((z_gr (bN) (bn + 1))) ((bn + 1) + z_sz xv977))) (((bn + 1) + z_sz xv977) + 1))) (m := ((((bn + 1) + z_sz xv977) + 1) + z_sz xv983))
              have hmx984 := z_gr_mx (N := (z_gr ((z_gr ((z_gr (bN) (bn + 1))) ((bn + 1) + z_sz xv977))) (((bn + 1) + z_sz xv977) + 1))) (m := ((((bn + 1) + z_sz xv977) + 1) + z_sz xv983)) (M := 480) (by omega) (by omega)
              obtain ⟨fs985, gs985⟩ := hs15.cell
              refine j_callV (q := (RJ4, TJ4, 4)) dX11_text_92 kJ4_append_bf812 lX11_226 inJ4_append_bf812 seJ4_append_bf812 gs985 rfl (sb_apI hl w15 56 x1 ((((bn + 1) + z_sz xv977) + 1)) ((z_gr ((z_gr ((z_gr (bN) (bn + 1))) ((bn + 1) + z_sz xv977))) (((bn + 1) + z_sz xv977) + 1))) xv983 hs15 (by omega) (by omega) (by decide) h15.fn) (Nat.le_of_ble_eq_true rfl) ⟨(by show _ ≤ 66; omega), (by show _ ≤ 2450; omega)⟩ rfl (Nat.le_of_ble_eq_true rfl) rfl rfl (fun _ _ h => h.elim) ?_
              rintro _ w16 ⟨rfl, fw16, hs16⟩
              have g16_it954 := fw16.g (Or.inr (by omega)) g15_it954
              have fm16 := fw16.fm (q := 59) (by omega)
              have h16 := h15.gar fw16 (by omega)
              have ke16 := z_ke h16 ke15 rfl
              refine j_pop dX11_text_95 rfl ?_
              refine j_goto (tgt := 38) dX11_text_96 (by decide) ?_
              refine j_widen (kc' := 2 + (z_gr ((z_gr ((z_gr ((z_gr (bN) (bn + 1))) ((bn + 1) + z_sz xv977))) (((bn + 1) + z_sz xv977) + 1))) ((((bn + 1) + z_sz xv977) + 1) + z_sz xv983)) / 16) (ks' := 2 * (z_gr ((z_gr ((z_gr ((z_gr (bN) (bn + 1))) ((bn + 1) + z_sz xv977))) (((bn + 1) + z_sz xv977) + 1))) ((((bn + 1) + z_sz xv977) + 1) + z_sz xv983))) (by omega) (by omega) ?_
              exact j_lo2 (ih w16 _ (k + 1) ((((bn + 1) + z_sz xv977) + 1) + z_sz xv983) (z_gr ((z_gr ((z_gr ((z_gr (bN) (bn + 1))) ((bn + 1) + z_sz xv977))) (((bn + 1) + z_sz xv977) + 1))) ((((bn + 1) + z_sz xv977) + 1) + z_sz xv983)) _ (by omega) (by omega) h16 (((((hfm.tr fm8).tr fm13).tr fm14).tr fm15).tr fm16) ke16 (by first | omega | (show _ ≤ (z_qp s1 (i949)).2.length; omega)) g16_it954 hs16 (by omega) (by omega)) (z_q1 rfl (z_q1 rfl (z_q1 rfl (z_q1 rfl z_q0))))
      refine j_widen (kc' := 2 + 16 / 16) (ks' := 2 * 16) (by decide) (by decide) ?_
      exact j_lo2 (loop38 (20 + 1) w5 _ 0 0 16 _ (by omega) (by omega) h5 ((((fm2.le (q' := 59) (by decide)).tr (fw3.fm (q := 59) (by omega))).tr fm4).tr fm5) ke5 (Nat.zero_le _) git954 hs5 (by omega) (by omega)) (z_q1 rfl (z_q1 rfl (z_q1 rfl (z_q1 rfl z_q0))))
    · exact absurd c_9_21 (by decide)
end ZMs10
