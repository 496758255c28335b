section ZM0
section ZMe9
variable {G : z_G} {l : Launch}
theorem sp_tkx {α : Type} {L : List α} {k : Nat} {x : α} (h : L[k]? = some x) : L.take (k + 1) = L.take k ++ [x] := by
  rw [List.take_succ, h]
  rfl
end ZMe9
end ZM0
section ZM1
section ZMtL
variable {G : z_G} {l : Launch}
theorem sd_apK (hl : l.stackTraces = false) (w : z_W) (ρ a N : Nat) (L : List Int32) (i k : Nat) (t : String × Nat × String) (M : List Int32) (hi9 : z_strs[i]? = some t) (ht9 : t.1 = "LoopdefaultsModel" ∨ t.1 = "LoopdefaultsModel$Hearer") (hM : tx_cs t.2.2 = M) (hk : t.2.2.length = k) (h : z_sbL w ρ a L N) (hq : L.length + k ≤ 2 * N + 2) (hN : z_gr N (L.length + k) ≤ 5000) (hρ : ρ < 64) (hf : z_fn w) : z_Con G l mJ4_append_15ec4 17 (z_gr N (L.length + k) / 16 - N / 16) (2 * (z_gr N (L.length + k) - N)) w [.ref a, .retAddr (10 + i)] (fun v w9 => v = some (.ref a) ∧ z_fw ρ w w9 ∧ z_sbL w9 ρ a (L ++ M) (z_gr N (L.length + k))) (fun _ _ => False) := by
  subst hk hM
  exact sd_apS hl w ρ a N L i t hi9 ht9 h hq hN hρ hf
theorem tx_jt_n {L M : List Int32} (h : M = tx_jt L) : (M.length = 0 ↔ L = []) := by
  subst h
  cases L with
  | nil => exact ⟨fun _ => rfl, fun _ => rfl⟩
  | cons x t =>
    refine ⟨fun h => absurd h ?_, fun h => by cases h⟩
    have h1 := z_sz_in x
    show ¬ (tx_dg x ++ _).length = 0
    rw [List.length_append, tx_dl]
    omega
theorem tx_pt_n {L : List (Nat × Int32)} {M : List Int32} (h : M = tx_pt L) : (M.length = 0 ↔ L = []) := by
  subst h
  cases L with
  | nil => exact ⟨fun _ => rfl, fun _ => rfl⟩
  | cons x t =>
    refine ⟨fun h => absurd h ?_, fun h => by cases h⟩
    have h1 := z_sz_in (nI x.1)
    show ¬ ((tx_dg (nI x.1) ++ 61 :: tx_dg x.2) ++ _).length = 0
    rw [List.length_append, List.length_append, tx_dl]
    omega
theorem tx_jt_g {L M : List Int32} {x : Int32} (h : M = tx_jt L) (P : Prop) (hp : P ↔ M.length = 0) : (P → (M ++ []) ++ tx_dg x = tx_jt (L ++ [x])) ∧ (¬ P → (M ++ [32]) ++ tx_dg x = tx_jt (L ++ [x])) := by
  have h0 := tx_jt_n h
  subst h
  rw [tx_jt_s]
  refine ⟨fun hP => ?_, fun hP => ?_⟩
  · rw [if_pos (by rw [h0.mp (hp.mp hP)]; rfl), List.append_nil]; rfl
  · rw [if_neg (fun z => hP (hp.mpr (h0.mpr (List.eq_nil_of_length_eq_zero z)))), List.append_assoc]
theorem tx_pt_g {L : List (Nat × Int32)} {M : List Int32} {p : Nat × Int32} (h : M = tx_pt L) (P : Prop) (hp : P ↔ M.length = 0) : (P → ((M ++ []) ++ tx_dg (nI p.1)) ++ [61] ++ tx_dg p.2 = tx_pt (L ++ [p])) ∧ (¬ P → ((M ++ [32]) ++ tx_dg (nI p.1)) ++ [61] ++ tx_dg p.2 = tx_pt (L ++ [p])) := by
  have h0 := tx_pt_n h
  subst h
  rw [tx_pt_s]
  refine ⟨fun hP => ?_, fun hP => ?_⟩
  · rw [if_pos (by rw [h0.mp (hp.mp hP)]; rfl), List.append_nil]; simp only [List.append_assoc, List.nil_append, List.singleton_append]
  · rw [if_neg (fun z => hP (hp.mpr (h0.mpr (List.eq_nil_of_length_eq_zero z)))), List.append_assoc]; simp only [List.append_assoc, List.singleton_append, List.cons_append, List.nil_append]
set_option maxRecDepth 100000 in
set_option maxHeartbeats 8000000 in
theorem cz_textH (hl : l.stackTraces = false) (w : z_W) (S : sp_S) (s : z_Z) (i : Nat) (h : z_mst w s) (R : sp_MR S s) (hi : i < 2) : z_Con G l mX10_text 18 20 640 w [.ref (1009 + i)] (fun v w9 => ∃ (r : Nat) (s9 : z_Z), v = some (.ref r) ∧ z_fm 59 w w9 ∧ z_mst w9 s9 ∧ sp_MR S s9 ∧ s9.1.1 = s.1.1 ∧ z_txL w9 57 r (tx_jt (sp_E S i).2)) (fun _ _ => False) := by
  have hlm9 : (sp_E S i).2.length ≤ 10 := by have h9 := (h.hl (i := i) hi).2; rw [R.l hi, List.length_map] at h9; exact h9
  generalize hQ9 : (fun (v : Option Value) (w9 : z_W) => ∃ (r : Nat) (s9 : z_Z), v = some (.ref r) ∧ z_fm 59 w w9 ∧ z_mst w9 s9 ∧ sp_MR S s9 ∧ s9.1.1 = s.1.1 ∧ z_txL w9 57 r (tx_jt (sp_E S i).2)) = Q9
  refine z_body hl (by decide) rfl (Nat.le_of_ble_eq_true rfl) ?_
  show z_J G l mX10_text _ 0 [(0, _)] [] _ 0 0
  obtain ⟨x1, hx1a, hx1b, hx1c⟩ := z_fresh (56) (by decide) h.fn
  refine j_new (N := 4) (w' := _) (n := x1) dX10_text_0 nX10_52 rfl (z_alW hx1c hx1a) (Nat.le_of_ble_eq_true rfl) (Nat.le_of_ble_eq_true rfl) ?_
  refine j_seal hx1a ?_
  intro w1 u1
  have fw1 := u1.fw hx1a hx1b
  have g1_x1 := u1.1
  have h1 := h.gar fw1 (by omega)
  refine j_dup dX10_text_3 rfl ?_
  refine j_callI dX10_text_4 kJ4_init_da8c8 rfl lX10_54 inJ4_init_da8c8 rfl (sb_ini hl w1 56 x1 hx1a hx1b (by decide) h1.fn g1_x1) (Nat.le_of_ble_eq_true rfl) ⟨(by show _ ≤ 20; omega), (by show _ ≤ 640; omega)⟩ rfl (Nat.le_of_ble_eq_true rfl) rfl rfl (fun _ _ h => h.elim) ?_
  rintro _ w2 ⟨rfl, fw2, hs2⟩
  have hs2 := hs2.nil
  have fm2 := fw2.fm (q := 59) (by omega)
  have h2 := h1.gar fw2 (by omega)
  refine j_astore_n (lo' := [(1, _), (0, _)]) dX10_text_7 rfl (by decide) rfl ?_
  refine j_aload_n dX10_text_8 rfl rfl ?_
  refine j_getf dX10_text_9 fX10_21 (h2.hd (i := i) hi) rfl ?_
  obtain ⟨lv890, -, lg890⟩ := z_li.cell (h2.hl (i := i) hi).1
  refine j_callV (q := (RJx4a65c, TJx4a65c, 3)) dX10_text_12 kJx4a65c_iterator_32c93 lX10_55 inJx4a65c_iterator_32c93 seJx4a65c_iterator_32c93 lg890 rfl (cl_iter hl w2 58 (54 + i) _ _ _ (h2.hl (i := i) hi).1 (by decide) (by omega) h2.fn) (Nat.le_of_ble_eq_true rfl) ⟨(by show _ ≤ 20; omega), (by show _ ≤ 640; omega)⟩ rfl (Nat.le_of_ble_eq_true rfl) rfl rfl (fun _ _ h => h.elim) ?_
  rintro _ w3 ⟨it889, rfl, fw3, hita889, hitb889, hitc889, la889, git889⟩
  have hita889 : 1000 ≤ it889 := hita889
  have hitb889 : it889 % 64 = 58 := hitb889
  have fm3 := fw3.fm (q := 59) (by omega)
  have h3 := h2.gar fw3 (by omega)
  have hs3 := hs2.fw fw3 (by decide)
  refine j_astore_n (lo' := [(2, _), (1, _), (0, _)]) dX10_text_15 rfl (by decide) rfl ?_
  have loop16 : ∀ (n9 : Nat) (w4 : z_W) (s1 : z_Z) (k : Nat) (L : List Int32) (bN : Nat) (la : Int32), (k ≤ ((sp_E S i).2).length) → (10 < k + n9) → (((sp_E S i).2).length ≤ 10) → (sp_MR S s1) → (s1.1.1 = s.1.1) → (z_mst w4 s1) → (z_fm 59 w w4) → (z_g w4 it889 = some (.inr (3, [.int (nI k), .int la, .int (z_ql s1 i).1, .ref (1014 + i)]))) → (z_sbL w4 56 x1 L bN) → (L = tx_jt (((sp_E S i).2).take k)) → (L.length ≤ 12 * k) → (bN ≤ 2 * 120 + 16) → z_J G l mX10_text (18, 20, 640, w, Q9, (fun _ _ => False)) 16 [(0, .ref (1009 + i)), (1, .ref x1), (2, .ref it889)] [] w4 (2 + bN / 16) (2 * bN) := by
    intro n9
    induction n9 with
    | zero => intro w4 s1 k L bN la hj hf9 hlm hR hth hm hfm git hsb hL hbn hbN; exact absurd hf9 (by omega)
    | succ n9 ih =>
      intro w4 s1 k L bN la hj hf9 hlm hR hth hm hfm git hsb hL hbn hbN
      have hnN0 := hsb.sb.nN
      refine j_aload_n dX10_text_16 rfl rfl ?_
      refine j_callF (x := ⟨"java/util/Iterator", "hasNext", "()Z"⟩) (q := (RJx35411, TJx35411, 4)) dX10_text_17 kJx35411_hasNext_aae02 ⟨(z_w 1856 ((lwt_8_4 11).trans rfl) (by decide +kernel)), (z_w 1769 ((lwt_8_1 14).trans rfl) (by decide +kernel)), inJx35411_hasNext_aae02, ⟨by decide, by decide⟩, rfl, fun U h => h.2.1⟩ git rfl (cl_hasN hl w4 _ (54 + i) _ (k) _ _ (hm.hl (i := i) hi).1 ⟨_, git⟩ (by rw [z_bx_len, hR.l hi, List.length_map]; omega)) (Nat.le_of_ble_eq_true rfl) ⟨(by show _ ≤ 20; omega), (by show _ ≤ 640; omega)⟩ rfl (Nat.le_of_ble_eq_true rfl) rfl ?_
      rintro _ _ ⟨⟨x891, rfl, hz891, hp891⟩, hw891⟩
      refine j_w w4 hw891 ?_
      rw [z_bx_len, hR.l hi, List.length_map] at hz891 hp891
      refine j_if_eq (tgt := 64) dX10_text_22 (by decide) (fun c_22_39 => ?_) (fun c_22_39 => ?_)
      · have hk22 : k = (sp_E S (i)).2.length := hz891 c_22_39
        refine j_aload_n dX10_text_64 rfl rfl ?_
        have hnN := hsb.sb.nN
        obtain ⟨fs892, gs892⟩ := hsb.sb.cell
        refine j_callV (q := (RJ4, TJ4, 4)) dX10_text_65 kJ4_toString_0e30d lX10_86 inJ4_toString_0e30d seJ4_toString_0e30d gs892 rfl (sd_toS hl w4 57 56 x1 (bN) (L) hsb (by decide) (by decide) hm.fn) (Nat.le_of_ble_eq_true rfl) ⟨(by show _ ≤ 20; omega), (by show _ ≤ 640; omega)⟩ rfl (Nat.le_of_ble_eq_true rfl) rfl rfl (fun _ _ h => h.elim) ?_
        rintro _ w5 ⟨r5, rfl, fw5, ht5⟩
        have g5_it889 := fw5.g (Or.inr (by omega)) git
        have fm5 := fw5.fm (q := 59) (by omega)
        have h5 := hm.gar fw5 (by omega)
        refine j_aret dX10_text_68 rfl (Or.inl ⟨_, rfl⟩) rfl ?_ (by show _ ≤ 20; omega) (by show _ ≤ 640; omega)
        refine cast (congrFun (congrFun hQ9 _) _) ?_
        rw [hL, List.take_of_length_le (by omega)] at ht5
        exact ⟨_, _, rfl, (hfm.tr fm5), h5, hR, hth, ht5⟩
      · have hk22 : k < (sp_E S (i)).2.length := hp891 c_22_39
        refine j_aload_n dX10_text_25 rfl rfl ?_
        obtain ⟨x893, hx893⟩ : ∃ x, ((sp_E S (i)).2)[k]? = some x := ⟨_, List.getElem?_eq_getElem (show k < ((sp_E S (i)).2).length by omega)⟩
        refine j_callF (x := ⟨"java/util/Iterator", "next", "()Ljava/lang/Object;"⟩) (q := (RJx35411, TJx35411, 4)) dX10_text_26 kJx35411_next_0502b ⟨(z_w 1858 ((lwt_8_4 13).trans rfl) (by decide +kernel)), (z_w 1778 ((lwt_8_1 23).trans rfl) (by decide +kernel)), inJx35411_next_0502b, ⟨by decide, by decide⟩, rfl, fun U h => h.2.2.1⟩ git rfl (cl_next hl w4 58 it889 (54 + i) _ (k) _ _ _ (hm.hl (i := i) hi).1 ⟨_, git⟩ ((congrArg (fun z => (z_bx z)[k]?) (hR.l hi)).trans (sp_u_get hx893)) hita889 hitb889 (by omega)) (Nat.le_of_ble_eq_true rfl) ⟨(by show _ ≤ 20; omega), (by show _ ≤ 640; omega)⟩ rfl (Nat.le_of_ble_eq_true rfl) rfl ?_
        rintro _ w6 ⟨rfl, fw6, la6, git6⟩
        have fm6 := fw6.fm (q := 59) (by omega)
        have h6 := hm.gar fw6 (by omega)
        have hs6 := hsb.fw fw6 (by decide)
        refine j_castS dX10_text_31 (z_w 1859 ((lwt_8_4 14).trans rfl) (by decide +kernel)) rfl ?_
        refine j_callVB (v0 := .float _) (C := "java/lang/Integer") dX10_text_34 kJ6_intValue_8abf5 lX10_69 inJ6_intValue_8abf5 seJ6_intValue_8abf5 rfl (c_intv hl w6 x893) (Nat.le_of_ble_eq_true rfl) ⟨(by show _ ≤ 20; omega), (by show _ ≤ 640; omega)⟩ rfl (Nat.le_of_ble_eq_true rfl) rfl rfl (fun _ _ h => h.elim) ?_
        rintro _ _ ⟨rfl, hw895⟩
        refine j_w w6 hw895 ?_
        refine j_istore_n (lo' := [(3, _), (0, _), (1, _), (2, _)]) dX10_text_37 (by decide) rfl ?_
        refine j_aload_n dX10_text_38 rfl rfl ?_
        refine j_aload_n dX10_text_39 rfl rfl ?_
        obtain ⟨fs896, gs896⟩ := hs6.sb.cell
        refine j_callV (q := (RJ4, TJ4, 4)) dX10_text_40 kJ4_length_8abf5 lX10_72 inJ4_length_8abf5 seJ4_length_8abf5 gs896 rfl (sb_len hl w6 56 x1 (L).length (bN) hs6.sb) (Nat.le_of_ble_eq_true rfl) ⟨(by show _ ≤ 20; omega), (by show _ ≤ 640; omega)⟩ rfl (Nat.le_of_ble_eq_true rfl) rfl rfl (fun _ _ h => h.elim) ?_
        rintro _ _ ⟨rfl, hw897⟩
        refine j_w w6 hw897 ?_
        refine j_if_le (tgt := 51) dX10_text_43 (by decide) (fun c_43_72 => ?_) (fun c_43_72 => ?_)
        · have hb43 : (L).length ≤ 0 := (nI_leI (a := (L).length) (b := 0) (by omega) (by omega)).mp c_43_72
          refine j_ldcS (i := 12) dX10_text_51 rfl (Or.inr rfl) rfl rfl ?_
          have hnN898 := hs6.sb.nN
          have hle898 := z_gr_le (N := bN) (m := ((L).length + 0))
          have hmx898 := z_gr_mx (N := bN) (m := ((L).length + 0)) (M := 120) (by omega) (by omega)
          obtain ⟨fs899, gs899⟩ := hs6.sb.cell
          refine j_callV (q := (RJ4, TJ4, 4)) dX10_text_53 kJ4_append_15ec4 lX10_79 inJ4_append_15ec4 seJ4_append_15ec4 gs899 rfl (sd_apK hl w6 56 x1 (bN) (L) 12 0 _ [] rfl (Or.inr rfl) (by decide +kernel) (by decide) hs6 (by omega) (by omega) (by decide) h6.fn) (Nat.le_of_ble_eq_true rfl) ⟨(by show _ ≤ 20; omega), (by show _ ≤ 640; omega)⟩ rfl (Nat.le_of_ble_eq_true rfl) rfl rfl (fun _ _ h => h.elim) ?_
          rintro _ w7 ⟨rfl, fw7, hs7⟩
          have ln7 : ((L ++ ([] : List Int32))).length = (L).length + 0 := by rw [List.length_append]; try rfl
          have g7_it889 := fw7.g (Or.inr (by omega)) git6
          have fm7 := fw7.fm (q := 59) (by omega)
          have h7 := h6.gar fw7 (by omega)
          refine j_iload_n dX10_text_56 rfl ?_
          have hzs900 := z_sz_in (x893)
          have hnN901 := hs7.sb.nN
          have hle901 := z_gr_le (N := (z_gr (bN) ((L).length + 0))) (m := (((L ++ ([] : List Int32))).length + z_sz (x893)))
          have hmx901 := z_gr_mx (N := (z_gr (bN) ((L).length + 0))) (m := (((L ++ ([] : List Int32))).length + z_sz (x893))) (M := 120) (by omega) (by omega)
          obtain ⟨fs902, gs902⟩ := hs7.sb.cell
          refine j_callV (q := (RJ4, TJ4, 4)) dX10_text_57 kJ4_append_bf812 lX10_83 inJ4_append_bf812 seJ4_append_bf812 gs902 rfl (sc_apI hl w7 56 x1 ((z_gr (bN) ((L).length + 0))) ((L ++ ([] : List Int32))) (x893) hs7 (by omega) (by omega) (by decide) h7.fn) (Nat.le_of_ble_eq_true rfl) ⟨(by show _ ≤ 20; omega), (by show _ ≤ 640; omega)⟩ rfl (Nat.le_of_ble_eq_true rfl) rfl rfl (fun _ _ h => h.elim) ?_
          rintro _ w8 ⟨rfl, fw8, hs8⟩
          have ln8 : (((L ++ ([] : List Int32)) ++ tx_dg (x893))).length = ((L ++ ([] : List Int32))).length + z_sz (x893) := by rw [List.length_append, tx_dl]; try rfl
          have g8_it889 := fw8.g (Or.inr (by omega)) g7_it889
          have fm8 := fw8.fm (q := 59) (by omega)
          have h8 := h7.gar fw8 (by omega)
          refine j_pop dX10_text_60 rfl ?_
          refine j_goto (tgt := 16) dX10_text_61 (by decide) ?_
          refine j_widen (kc' := 2 + (z_gr ((z_gr (bN) ((L).length + 0))) (((L ++ ([] : List Int32))).length + z_sz (x893))) / 16) (ks' := 2 * (z_gr ((z_gr (bN) ((L).length + 0))) (((L ++ ([] : List Int32))).length + z_sz (x893)))) (by omega) (by omega) ?_
          exact j_lo2 (ih w8 _ (k + 1) ((L ++ ([] : List Int32)) ++ tx_dg (x893)) (z_gr ((z_gr (bN) ((L).length + 0))) (((L ++ ([] : List Int32))).length + z_sz (x893))) _ (by omega) (by omega) hlm hR (by exact hth) h8 (((hfm.tr fm6).tr fm7).tr fm8) g8_it889 hs8 (by rw [sp_tkx hx893]; exact (tx_jt_g hL (L.length ≤ 0) (by omega)).1 (by omega)) (by omega) (by omega)) (z_q1 rfl (z_q1 rfl (z_q1 rfl z_q0)))
        · have hb43 : 0 < (L).length := Nat.not_le.mp (fun z => c_43_72 ((nI_leI (a := (L).length) (b := 0) (by omega) (by omega)).mpr z))
          refine j_ldcS (i := 11) dX10_text_46 rfl (Or.inr rfl) rfl rfl ?_
          refine j_goto (tgt := 53) dX10_text_48 (by decide) ?_
          have hnN903 := hs6.sb.nN
          have hle903 := z_gr_le (N := bN) (m := ((L).length + 1))
          have hmx903 := z_gr_mx (N := bN) (m := ((L).length + 1)) (M := 120) (by omega) (by omega)
          obtain ⟨fs904, gs904⟩ := hs6.sb.cell
          refine j_callV (q := (RJ4, TJ4, 4)) dX10_text_53 kJ4_append_15ec4 lX10_79 inJ4_append_15ec4 seJ4_append_15ec4 gs904 rfl (sd_apK hl w6 56 x1 (bN) (L) 11 1 _ [32] rfl (Or.inr rfl) (by decide +kernel) (by decide) hs6 (by omega) (by omega) (by decide) h6.fn) (Nat.le_of_ble_eq_true rfl) ⟨(by show _ ≤ 20; omega), (by show _ ≤ 640; omega)⟩ rfl (Nat.le_of_ble_eq_true rfl) rfl rfl (fun _ _ h => h.elim) ?_
          rintro _ w9 ⟨rfl, fw9, hs9⟩
          have ln9 : ((L ++ ([32] : List Int32))).length = (L).length + 1 := by rw [List.length_append]; try rfl
          have g9_it889 := fw9.g (Or.inr (by omega)) git6
          have fm9 := fw9.fm (q := 59) (by omega)
          have h9 := h6.gar fw9 (by omega)
          refine j_iload_n dX10_text_56 rfl ?_
          have hzs905 := z_sz_in (x893)
          have hnN906 := hs9.sb.nN
          have hle906 := z_gr_le (N := (z_gr (bN) ((L).length + 1))) (m := (((L ++ ([32] : List Int32))).length + z_sz (x893)))
          have hmx906 := z_gr_mx (N := (z_gr (bN) ((L).length + 1))) (m := (((L ++ ([32] : List Int32))).length + z_sz (x893))) (M := 120) (by omega) (by omega)
          obtain ⟨fs907, gs907⟩ := hs9.sb.cell
          refine j_callV (q := (RJ4, TJ4, 4)) dX10_text_57 kJ4_append_bf812 lX10_83 inJ4_append_bf812 seJ4_append_bf812 gs907 rfl (sc_apI hl w9 56 x1 ((z_gr (bN) ((L).length + 1))) ((L ++ ([32] : List Int32))) (x893) hs9 (by omega) (by omega) (by decide) h9.fn) (Nat.le_of_ble_eq_true rfl) ⟨(by show _ ≤ 20; omega), (by show _ ≤ 640; omega)⟩ rfl (Nat.le_of_ble_eq_true rfl) rfl rfl (fun _ _ h => h.elim) ?_
          rintro _ w10 ⟨rfl, fw10, hs10⟩
          have ln10 : (((L ++ ([32] : List Int32)) ++ tx_dg (x893))).length = ((L ++ ([32] : List Int32))).length + z_sz (x893) := by rw [List.length_append, tx_dl]; try rfl
          have g10_it889 := fw10.g (Or.inr (by omega)) g9_it889
          have fm10 := fw10.fm (q := 59) (by omega)
          have h10 := h9.gar fw10 (by omega)
          refine j_pop dX10_text_60 rfl ?_
          refine j_goto (tgt := 16) dX10_text_61 (by decide) ?_
          refine j_widen (kc' := 2 + (z_gr ((z_gr (bN) ((L).length + 1))) (((L ++ ([32] : List Int32))).length + z_sz (x893))) / 16) (ks' := 2 * (z_gr ((z_gr (bN) ((L).length + 1))) (((L ++ ([32] : List Int32))).length + z_sz (x893)))) (by omega) (by omega) ?_
          exact j_lo2 (ih w10 _ (k + 1) ((L ++ ([32] : List Int32)) ++ tx_dg (x893)) (z_gr ((z_gr (bN) ((L).length + 1))) (((L ++ ([32] : List Int32))).length + z_sz (x893))) _ (by omega) (by omega) hlm hR (by exact hth) h10 (((hfm.tr fm6).tr fm9).tr fm10) g10_it889 hs10 (by rw [sp_tkx hx893]; exact (tx_jt_g hL (L.length ≤ 0) (by omega)).2 (by omega)) (by omega) (by omega)) (z_q1 rfl (z_q1 rfl (z_q1 rfl z_q0)))
  refine j_widen (kc' := 2 + 16 / 16) (ks' := 2 * 16) (by decide) (by decide) ?_
  exact j_lo2 (loop16 (10 + 1) w3 _ 0 [] 16 _ (Nat.zero_le _) (by omega) hlm9 R (by exact rfl) h3 (((fw1.fm (q := 59) (by omega)).tr fm2).tr fm3) git889 hs3 rfl (Nat.zero_le _) (by omega)) (z_q1 rfl (z_q1 rfl (z_q1 rfl z_q0)))
set_option maxRecDepth 100000 in
set_option maxHeartbeats 8000000 in
theorem cz_heardText (hl : l.stackTraces = false) (w : z_W) (S : sp_S) (s : z_Z) (x : Int32) (h : z_mst w s) (R : sp_MR S s)  : z_Con G l mX11_heardText 20 20 640 w [.ref 1000, .int x] (fun v w9 => ∃ (r9 : Value) (s9 : z_Z), v = some r9 ∧ z_ir r9 = true ∧ z_fm 59 w w9 ∧ z_mst w9 s9 ∧ s9.1.1 = q_k2 x ∧ sp_MR S s9 ∧ (q_k2 x = 0 → ∃ q, r9 = .ref q ∧ z_txL w9 57 q (tx_jt (sp_E S (sp_i x)).2))) (fun _ _ => False) := by
  generalize hQ9 : (fun (v : Option Value) (w9 : z_W) => ∃ (r9 : Value) (s9 : z_Z), v = some r9 ∧ z_ir r9 = true ∧ z_fm 59 w w9 ∧ z_mst w9 s9 ∧ s9.1.1 = q_k2 x ∧ sp_MR S s9 ∧ (q_k2 x = 0 → ∃ q, r9 = .ref q ∧ z_txL w9 57 q (tx_jt (sp_E S (sp_i x)).2))) = Q9
  refine z_body hl (by decide) rfl (Nat.le_of_ble_eq_true rfl) ?_
  show z_J G l mX11_heardText _ 0 [(0, _), (1, _)] [] _ 0 0
  refine j_aload_n dX11_heardText_0 rfl rfl ?_
  refine j_iload_n dX11_heardText_1 rfl ?_
  refine j_callS dX11_heardText_2 kX11_isNoTwo lX11_72 stX11_isNoTwo (cm_isNoTwo_r hl w _) (Nat.le_of_ble_eq_true rfl) ⟨(by show _ ≤ 20; omega), (by show _ ≤ 640; omega)⟩ rfl (Nat.le_of_ble_eq_true rfl) rfl rfl (fun _ _ h => h.elim) ?_
  rintro _ _ ⟨⟨rfl, hno908⟩ | ⟨rfl, i908, hi908, ht908, rfl⟩, hw908⟩
  · refine j_w w hw908 ?_
    refine j_iconst (v := 1) dX11_heardText_5 (by decide) ?_
    refine j_callV (q := (RX11, TX11, 8)) dX11_heardText_6 kX11_start lX11_76 inX11_start seX11_start h.m rfl (cm_start1 hl w _ _ h (by decide)) (Nat.le_of_ble_eq_true rfl) ⟨(by show _ ≤ 20; omega), (by show _ ≤ 640; omega)⟩ rfl (Nat.le_of_ble_eq_true rfl) rfl rfl (fun _ _ h => h.elim) ?_
    rintro _ w1 ⟨rfl, fm1, h1⟩
    have R1 := R.th (k := 1)
    refine j_if_eq (tgt := 17) dX11_heardText_9 (by decide) (fun c_9_11 => ?_) (fun c_9_11 => ?_)
    · exact absurd c_9_11 (by decide)
    · refine j_ldcS (i := 10) dX11_heardText_12 rfl (Or.inl rfl) rfl rfl ?_
      refine j_goto (tgt := 26) dX11_heardText_14 (by decide) ?_
      refine j_aret dX11_heardText_26 rfl (Or.inl ⟨_, rfl⟩) rfl ?_ (by show _ ≤ 20; omega) (by show _ ≤ 640; omega)
      refine cast (congrFun (congrFun hQ9 _) _) ?_
      have hT9 : q_k2 x = 1 := by
        first | (first | (refine sp_k2_1 ?_ <;> (first | (with_reducible assumption) | (refine Or.inl ?_; (with_reducible assumption)) | (refine Or.inr ?_; (with_reducible assumption)) | (refine Or.inr (Or.inl ?_); (with_reducible assumption)) | (refine Or.inr (Or.inr ?_); (with_reducible assumption)) | (refine Or.inr (Or.inr (Or.inl ?_)); (with_reducible assumption)) | (refine Or.inr (Or.inr (Or.inr ?_)); (with_reducible assumption)) | (refine fun z => Or.elim z ?_ ?_ <;> (with_reducible assumption)) | (refine fun z => Or.elim z ?_ (fun z => Or.elim z ?_ ?_) <;> (with_reducible assumption)) | (refine fun z => Or.elim z ?_ (fun z => Or.elim z ?_ (fun z => Or.elim z ?_ ?_)) <;> (with_reducible assumption)) | (refine fun z => Or.elim z (fun z9 => z9 ?_) ?_ <;> (first | (with_reducible assumption) | (refine Or.inl ?_; (with_reducible assumption)) | (refine Or.inr (Or.inl ?_); (with_reducible assumption)) | (refine Or.inr (Or.inr ?_); (with_reducible assumption)) | (refine Or.inr (Or.inr (Or.inl ?_)); (with_reducible assumption)) | (refine Or.inr (Or.inr (Or.inr ?_)); (with_reducible assumption)))) | (refine Or.inl (fun z => Or.elim z ?_ (fun z => Or.elim z ?_ ?_)) <;> (with_reducible assumption)) | (refine Or.inl (fun z => Or.elim z ?_ (fun z => Or.elim z ?_ (fun z => Or.elim z ?_ ?_))) <;> (with_reducible assumption))))) | (first | (refine sp_k2_1 ?_ <;> (first | assumption | (refine Or.inl ?_; assumption) | (refine Or.inr ?_; assumption) | (refine Or.inr (Or.inl ?_); assumption) | (refine Or.inr (Or.inr ?_); assumption) | (refine Or.inr (Or.inr (Or.inl ?_)); assumption) | (refine Or.inr (Or.inr (Or.inr ?_)); assumption) | (refine fun z => Or.elim z ?_ ?_ <;> assumption) | (refine fun z => Or.elim z ?_ (fun z => Or.elim z ?_ ?_) <;> assumption) | (refine fun z => Or.elim z ?_ (fun z => Or.elim z ?_ (fun z => Or.elim z ?_ ?_)) <;> assumption) | (refine fun z => Or.elim z (fun z9 => z9 ?_) ?_ <;> (first | assumption | (refine Or.inl ?_; assumption) | (refine Or.inr (Or.inl ?_); assumption) | (refine Or.inr (Or.inr ?_); assumption) | (refine Or.inr (Or.inr (Or.inl ?_)); assumption) | (refine Or.inr (Or.inr (Or.inr ?_)); assumption))) | (refine Or.inl (fun z => Or.elim z ?_ (fun z => Or.elim z ?_ ?_)) <;> assumption) | (refine Or.inl (fun z => Or.elim z ?_ (fun z => Or.elim z ?_ (fun z => Or.elim z ?_ ?_))) <;> assumption))))
      exact ⟨_, _, rfl, rfl, (fm1.le (q' := 59) (by decide)), h1, hT9.symm, R1, fun z9 => absurd (hT9.symm.trans z9) (by decide)⟩
  · refine j_w w hw908 ?_
    have ei908 : sp_i (nI i908) = i908 := sp_in' (by omega)
    refine j_iconst (v := 1) dX11_heardText_5 (by decide) ?_
    refine j_callV (q := (RX11, TX11, 8)) dX11_heardText_6 kX11_start lX11_76 inX11_start seX11_start h.m rfl (cm_start0 hl w _ _ h) (Nat.le_of_ble_eq_true rfl) ⟨(by show _ ≤ 20; omega), (by show _ ≤ 640; omega)⟩ rfl (Nat.le_of_ble_eq_true rfl) rfl rfl (fun _ _ h => h.elim) ?_
    rintro _ w2 ⟨rfl, fm2, h2⟩
    have R2 := R.th (k := 0)
    refine j_if_eq (tgt := 17) dX11_heardText_9 (by decide) (fun c_9_26 => ?_) (fun c_9_26 => ?_)
    · refine j_aload_n dX11_heardText_17 rfl rfl ?_
      refine j_getf dX11_heardText_18 fX11_40 h2.m rfl ?_
      refine j_iload_n dX11_heardText_21 rfl ?_
      obtain ⟨fz909, gz909, hz909⟩ := h2.hs
      refine j_aald (v := .ref (1009 + i908)) dX11_heardText_22 gz909 rfl rfl (vp_in_nI (by omega) (by omega)) (by rw [z_cla (by omega)]; exact hz909 _ (by omega)) ?_
      refine j_callVN (q := (RX10, TX10, 5)) dX11_heardText_23 kX10_text lX11_210 inX10_text seX10_text (h2.hd (i := i908) (by omega)) rfl (cz_textH hl w2 S _ (i908) h2 R2 (by omega)) (Nat.le_of_ble_eq_true rfl) ⟨(by show _ ≤ 20; omega), (by show _ ≤ 640; omega)⟩ rfl (Nat.le_of_ble_eq_true rfl) rfl rfl (fun _ _ h => h.elim) ?_
      rintro _ w3 ⟨r3, s3, rfl, fm3, h3, R3, th3, ht3⟩
      have tq3 := th3.trans rfl
      refine j_aret dX11_heardText_26 rfl (Or.inl ⟨_, rfl⟩) rfl ?_ (by show _ ≤ 20; omega) (by show _ ≤ 640; omega)
      refine cast (congrFun (congrFun hQ9 _) _) ?_
      try rw [ei908]
      have hT9 : q_k2 (nI i908) = 0 := by
        first | (first | (refine sp_k2_0 ?_ <;> (first | (with_reducible assumption) | (refine Or.inl ?_; (with_reducible assumption)) | (refine Or.inr ?_; (with_reducible assumption)) | (refine Or.inr (Or.inl ?_); (with_reducible assumption)) | (refine Or.inr (Or.inr ?_); (with_reducible assumption)) | (refine Or.inr (Or.inr (Or.inl ?_)); (with_reducible assumption)) | (refine Or.inr (Or.inr (Or.inr ?_)); (with_reducible assumption)) | (refine fun z => Or.elim z ?_ ?_ <;> (with_reducible assumption)) | (refine fun z => Or.elim z ?_ (fun z => Or.elim z ?_ ?_) <;> (with_reducible assumption)) | (refine fun z => Or.elim z ?_ (fun z => Or.elim z ?_ (fun z => Or.elim z ?_ ?_)) <;> (with_reducible assumption)) | (refine fun z => Or.elim z (fun z9 => z9 ?_) ?_ <;> (first | (with_reducible assumption) | (refine Or.inl ?_; (with_reducible assumption)) | (refine Or.inr (Or.inl ?_); (with_reducible assumption)) | (refine Or.inr (Or.inr ?_); (with_reducible assumption)) | (refine Or.inr (Or.inr (Or.inl ?_)); (with_reducible assumption)) | (refine Or.inr (Or.inr (Or.inr ?_)); (with_reducible assumption)))) | (refine Or.inl (fun z => Or.elim z ?_ (fun z => Or.elim z ?_ ?_)) <;> (with_reducible assumption)) | (refine Or.inl (fun z => Or.elim z ?_ (fun z => Or.elim z ?_ (fun z => Or.elim z ?_ ?_))) <;> (with_reducible assumption))))) | (first | (refine sp_k2_0 ?_ <;> (first | assumption | (refine Or.inl ?_; assumption) | (refine Or.inr ?_; assumption) | (refine Or.inr (Or.inl ?_); assumption) | (refine Or.inr (Or.inr ?_); assumption) | (refine Or.inr (Or.inr (Or.inl ?_)); assumption) | (refine Or.inr (Or.inr (Or.inr ?_)); assumption) | (refine fun z => Or.elim z ?_ ?_ <;> assumption) | (refine fun z => Or.elim z ?_ (fun z => Or.elim z ?_ ?_) <;> assumption) | (refine fun z => Or.elim z ?_ (fun z => Or.elim z ?_ (fun z => Or.elim z ?_ ?_)) <;> assumption) | (refine fun z => Or.elim z (fun z9 => z9 ?_) ?_ <;> (first | assumption | (refine Or.inl ?_; assumption) | (refine Or.inr (Or.inl ?_); assumption) | (refine Or.inr (Or.inr ?_); assumption) | (refine Or.inr (Or.inr (Or.inl ?_)); assumption) | (refine Or.inr (Or.inr (Or.inr ?_)); assumption))) | (refine Or.inl (fun z => Or.elim z ?_ (fun z => Or.elim z ?_ ?_)) <;> assumption) | (refine Or.inl (fun z => Or.elim z ?_ (fun z => Or.elim z ?_ (fun z => Or.elim z ?_ ?_))) <;> assumption))))
      exact ⟨_, _, rfl, rfl, ((fm2.le (q' := 59) (by decide)).tr (fm3.le (q' := 59) (by decide))), h3, Eq.trans tq3 hT9.symm, R3, fun _ => ⟨_, rfl, ht3⟩⟩
    · exact absurd c_9_26 (by decide)
set_option maxRecDepth 100000 in
set_option maxHeartbeats 8000000 in
theorem cz_rowText (hl : l.stackTraces = false) (w : z_W) (S : sp_S) (s : z_Z) (x : Int32) (h : z_mst w s) (R : sp_MR S s)  : z_Con G l mX11_rowText 20 24 800 w [.ref 1000, .int x] (fun v w9 => ∃ (r9 : Value) (s9 : z_Z), v = some r9 ∧ z_ir r9 = true ∧ z_fm 59 w w9 ∧ z_mst w9 s9 ∧ s9.1.1 = q_k2 x ∧ sp_MR S s9 ∧ (q_k2 x = 0 → ∃ q, r9 = .ref q ∧ z_txL w9 57 q (tx_jt (sp_R S (sp_i x))))) (fun _ _ => False) := by
  generalize hQ9 : (fun (v : Option Value) (w9 : z_W) => ∃ (r9 : Value) (s9 : z_Z), v = some r9 ∧ z_ir r9 = true ∧ z_fm 59 w w9 ∧ z_mst w9 s9 ∧ s9.1.1 = q_k2 x ∧ sp_MR S s9 ∧ (q_k2 x = 0 → ∃ q, r9 = .ref q ∧ z_txL w9 57 q (tx_jt (sp_R S (sp_i x))))) = Q9
  refine z_body hl (by decide) rfl (Nat.le_of_ble_eq_true rfl) ?_
  show z_J G l mX11_rowText _ 0 [(0, _), (1, _)] [] _ 0 0
  refine j_aload_n dX11_rowText_0 rfl rfl ?_
  refine j_iload_n dX11_rowText_1 rfl ?_
  refine j_callS dX11_rowText_2 kX11_isNoTwo lX11_72 stX11_isNoTwo (cm_isNoTwo_r hl w _) (Nat.le_of_ble_eq_true rfl) ⟨(by show _ ≤ 24; omega), (by show _ ≤ 800; omega)⟩ rfl (Nat.le_of_ble_eq_true rfl) rfl rfl (fun _ _ h => h.elim) ?_
  rintro _ _ ⟨⟨rfl, hno910⟩ | ⟨rfl, i910, hi910, ht910, rfl⟩, hw910⟩
  · refine j_w w hw910 ?_
    refine j_iconst (v := 1) dX11_rowText_5 (by decide) ?_
    refine j_callV (q := (RX11, TX11, 8)) dX11_rowText_6 kX11_start lX11_76 inX11_start seX11_start h.m rfl (cm_start1 hl w _ _ h (by decide)) (Nat.le_of_ble_eq_true rfl) ⟨(by show _ ≤ 24; omega), (by show _ ≤ 800; omega)⟩ rfl (Nat.le_of_ble_eq_true rfl) rfl rfl (fun _ _ h => h.elim) ?_
    rintro _ w1 ⟨rfl, fm1, h1⟩
    have R1 := R.th (k := 1)
    refine j_if_eq (tgt := 15) dX11_rowText_9 (by decide) (fun c_9_11 => ?_) (fun c_9_11 => ?_)
    · exact absurd c_9_11 (by decide)
    · refine j_ldcS (i := 10) dX11_rowText_12 rfl (Or.inl rfl) rfl rfl ?_
      refine j_aret dX11_rowText_14 rfl (Or.inl ⟨_, rfl⟩) rfl ?_ (by show _ ≤ 24; omega) (by show _ ≤ 800; omega)
      refine cast (congrFun (congrFun hQ9 _) _) ?_
      have hT9 : q_k2 x = 1 := by
        first | (first | (refine sp_k2_1 ?_ <;> (first | (with_reducible assumption) | (refine Or.inl ?_; (with_reducible assumption)) | (refine Or.inr ?_; (with_reducible assumption)) | (refine Or.inr (Or.inl ?_); (with_reducible assumption)) | (refine Or.inr (Or.inr ?_); (with_reducible assumption)) | (refine Or.inr (Or.inr (Or.inl ?_)); (with_reducible assumption)) | (refine Or.inr (Or.inr (Or.inr ?_)); (with_reducible assumption)) | (refine fun z => Or.elim z ?_ ?_ <;> (with_reducible assumption)) | (refine fun z => Or.elim z ?_ (fun z => Or.elim z ?_ ?_) <;> (with_reducible assumption)) | (refine fun z => Or.elim z ?_ (fun z => Or.elim z ?_ (fun z => Or.elim z ?_ ?_)) <;> (with_reducible assumption)) | (refine fun z => Or.elim z (fun z9 => z9 ?_) ?_ <;> (first | (with_reducible assumption) | (refine Or.inl ?_; (with_reducible assumption)) | (refine Or.inr (Or.inl ?_); (with_reducible assumption)) | (refine Or.inr (Or.inr ?_); (with_reducible assumption)) | (refine Or.inr (Or.inr (Or.inl ?_)); (with_reducible assumption)) | (refine Or.inr (Or.inr (Or.inr ?_)); (with_reducible assumption)))) | (refine Or.inl (fun z => Or.elim z ?_ (fun z => Or.elim z ?_ ?_)) <;> (with_reducible assumption)) | (refine Or.inl (fun z => Or.elim z ?_ (fun z => Or.elim z ?_ (fun z => Or.elim z ?_ ?_))) <;> (with_reducible assumption))))) | (first | (refine sp_k2_1 ?_ <;> (first | assumption | (refine Or.inl ?_; assumption) | (refine Or.inr ?_; assumption) | (refine Or.inr (Or.inl ?_); assumption) | (refine Or.inr (Or.inr ?_); assumption) | (refine Or.inr (Or.inr (Or.inl ?_)); assumption) | (refine Or.inr (Or.inr (Or.inr ?_)); assumption) | (refine fun z => Or.elim z ?_ ?_ <;> assumption) | (refine fun z => Or.elim z ?_ (fun z => Or.elim z ?_ ?_) <;> assumption) | (refine fun z => Or.elim z ?_ (fun z => Or.elim z ?_ (fun z => Or.elim z ?_ ?_)) <;> assumption) | (refine fun z => Or.elim z (fun z9 => z9 ?_) ?_ <;> (first | assumption | (refine Or.inl ?_; assumption) | (refine Or.inr (Or.inl ?_); assumption) | (refine Or.inr (Or.inr ?_); assumption) | (refine Or.inr (Or.inr (Or.inl ?_)); assumption) | (refine Or.inr (Or.inr (Or.inr ?_)); assumption))) | (refine Or.inl (fun z => Or.elim z ?_ (fun z => Or.elim z ?_ ?_)) <;> assumption) | (refine Or.inl (fun z => Or.elim z ?_ (fun z => Or.elim z ?_ (fun z => Or.elim z ?_ ?_))) <;> assumption))))
      exact ⟨_, _, rfl, rfl, (fm1.le (q' := 59) (by decide)), h1, hT9.symm, R1, fun z9 => absurd (hT9.symm.trans z9) (by decide)⟩
  · refine j_w w hw910 ?_
    have ei910 : sp_i (nI i910) = i910 := sp_in' (by omega)
    refine j_iconst (v := 1) dX11_rowText_5 (by decide) ?_
    refine j_callV (q := (RX11, TX11, 8)) dX11_rowText_6 kX11_start lX11_76 inX11_start seX11_start h.m rfl (cm_start0 hl w _ _ h) (Nat.le_of_ble_eq_true rfl) ⟨(by show _ ≤ 24; omega), (by show _ ≤ 800; omega)⟩ rfl (Nat.le_of_ble_eq_true rfl) rfl rfl (fun _ _ h => h.elim) ?_
    rintro _ w2 ⟨rfl, fm2, h2⟩
    have R2 := R.th (k := 0)
    refine j_if_eq (tgt := 15) dX11_rowText_9 (by decide) (fun c_9_25 => ?_) (fun c_9_25 => ?_)
    · obtain ⟨x1, hx1a, hx1b, hx1c⟩ := z_fresh (56) (by decide) h2.fn
      refine j_new (N := 4) (w' := _) (n := x1) dX11_rowText_15 nX11_214 rfl (z_alW hx1c hx1a) (Nat.le_of_ble_eq_true rfl) (Nat.le_of_ble_eq_true rfl) ?_
      refine j_seal hx1a ?_
      intro w3 u3
      have fw3 := u3.fw hx1a hx1b
      have g3_x1 := u3.1
      have h3 := h2.gar fw3 (by omega)
      refine j_dup dX11_rowText_18 rfl ?_
      refine j_callI dX11_rowText_19 kJ4_init_da8c8 rfl lX11_216 inJ4_init_da8c8 rfl (sb_ini hl w3 56 x1 hx1a hx1b (by decide) h3.fn g3_x1) (Nat.le_of_ble_eq_true rfl) ⟨(by show _ ≤ 24; omega), (by show _ ≤ 800; omega)⟩ rfl (Nat.le_of_ble_eq_true rfl) rfl rfl (fun _ _ h => h.elim) ?_
      rintro _ w4 ⟨rfl, fw4, hs4⟩
      have hs4 := hs4.nil
      have fm4 := fw4.fm (q := 59) (by omega)
      have h4 := h3.gar fw4 (by omega)
      refine j_astore_n (lo' := [(2, _), (0, _), (1, _)]) dX11_rowText_22 rfl (by decide) rfl ?_
      refine j_aload_n dX11_rowText_23 rfl rfl ?_
      refine j_getf dX11_rowText_24 fX11_21 h4.m rfl ?_
      refine j_iload_n dX11_rowText_27 rfl ?_
      obtain ⟨lv912, -, lg912⟩ := z_li.cell h4.rows
      refine j_callV (q := (RJx4a65c, TJx4a65c, 3)) dX11_rowText_28 kJx4a65c_get_915e3 lX11_82 inJx4a65c_get_915e3 seJx4a65c_get_915e3 lg912 rfl (cl_get hl w4 41 1001 _ _ (i910) _ h4.rows (z_two2 (i := i910) (by omega))) (Nat.le_of_ble_eq_true rfl) ⟨(by show _ ≤ 24; omega), (by show _ ≤ 800; omega)⟩ rfl (Nat.le_of_ble_eq_true rfl) rfl rfl (fun _ _ h => h.elim) ?_
      rintro _ _ ⟨rfl, hw913⟩
      refine j_w w4 hw913 ?_
      refine j_castS dX11_rowText_31 (z_w 1341 ((lwt_6_3 6).trans rfl) (by decide +kernel)) (z_li.is (h4.rw (i := i910) (by omega)).1) ?_
      obtain ⟨lv916, -, lg916⟩ := z_li.cell (h4.rw (i := i910) (by omega)).1
      refine j_callV (q := (RJx4a65c, TJx4a65c, 3)) dX11_rowText_34 kJx4a65c_iterator_32c93 lX11_162 inJx4a65c_iterator_32c93 seJx4a65c_iterator_32c93 lg916 rfl (cl_iter hl w4 58 (11 + i910) _ _ _ (h4.rw (i := i910) (by omega)).1 (by decide) (by omega) h4.fn) (Nat.le_of_ble_eq_true rfl) ⟨(by show _ ≤ 24; omega), (by show _ ≤ 800; omega)⟩ rfl (Nat.le_of_ble_eq_true rfl) rfl rfl (fun _ _ h => h.elim) ?_
      rintro _ w5 ⟨it915, rfl, fw5, hita915, hitb915, hitc915, la915, git915⟩
      have hita915 : 1000 ≤ it915 := hita915
      have hitb915 : it915 % 64 = 58 := hitb915
      have fm5 := fw5.fm (q := 59) (by omega)
      have h5 := h4.gar fw5 (by omega)
      have hs5 := hs4.fw fw5 (by decide)
      refine j_astore_n (lo' := [(3, _), (2, _), (0, _), (1, _)]) dX11_rowText_37 rfl (by decide) rfl ?_
      have hlm9 : (sp_R S i910).length ≤ 12 := R2.l12 h5 (i := i910) (by omega) rfl
      have loop38 : ∀ (n9 : Nat) (w6 : z_W) (s1 : z_Z) (k : Nat) (L : List Int32) (bN : Nat) (la : Int32), (k ≤ (sp_R S i910).length) → (12 < k + n9) → ((sp_R S i910).length ≤ 12) → (sp_MR S s1) → (s1.1.1 = 0) → (z_mst w6 s1) → (z_fm 59 w w6) → (z_g w6 it915 = some (.inr (3, [.int (nI k), .int la, .int (z_qw s1 (i910)).1, .ref ((z_qr s1).2 (i910))]))) → (z_sbL w6 56 x1 L bN) → (L = tx_jt ((sp_R S i910).take k)) → (L.length ≤ 12 * k) → (bN ≤ 2 * 144 + 16) → z_J G l mX11_rowText (20, 24, 800, w, Q9, (fun _ _ => False)) 38 [(0, .ref 1000), (1, .int (nI i910)), (2, .ref x1), (3, .ref it915)] [] w6 (2 + bN / 16) (2 * bN) := by
        intro n9
        induction n9 with
        | zero => intro w6 s1 k L bN la hj hf9 hlm hR hth hm hfm git hsb hL hbn hbN; exact absurd hf9 (by omega)
        | succ n9 ih =>
          intro w6 s1 k L bN la hj hf9 hlm hR hth hm hfm git hsb hL hbn hbN
          have hnN0 := hsb.sb.nN
          refine j_aload_n dX11_rowText_38 rfl rfl ?_
          refine j_callF (x := ⟨"java/util/Iterator", "hasNext", "()Z"⟩) (q := (RJx35411, TJx35411, 4)) dX11_rowText_39 kJx35411_hasNext_aae02 ⟨(z_w 1765 ((lwt_8_1 10).trans rfl) (by decide +kernel)), (z_w 1769 ((lwt_8_1 14).trans rfl) (by decide +kernel)), inJx35411_hasNext_aae02, ⟨by decide, by decide⟩, rfl, fun U h => h.2.1⟩ git rfl (cl_hasN hl w6 _ (11 + i910) _ (k) _ _ (hm.rw (i := i910) (by omega)).1 ⟨_, git⟩ (by rw [z_bx_len, hR.wlB (by omega) rfl]; omega)) (Nat.le_of_ble_eq_true rfl) ⟨(by show _ ≤ 24; omega), (by show _ ≤ 800; omega)⟩ rfl (Nat.le_of_ble_eq_true rfl) rfl ?_
          rintro _ _ ⟨⟨x917, rfl, hz917, hp917⟩, hw917⟩
          refine j_w w6 hw917 ?_
          rw [z_bx_len, hR.wlB (by omega) rfl] at hz917 hp917
          refine j_if_eq (tgt := 88) dX11_rowText_44 (by decide) (fun c_44_70 => ?_) (fun c_44_70 => ?_)
          · have hk44 : k = (sp_R S (i910)).length := hz917 c_44_70
            refine j_aload_n dX11_rowText_88 rfl rfl ?_
            have hnN := hsb.sb.nN
            obtain ⟨fs918, gs918⟩ := hsb.sb.cell
            refine j_callV (q := (RJ4, TJ4, 4)) dX11_rowText_89 kJ4_toString_0e30d lX11_229 inJ4_toString_0e30d seJ4_toString_0e30d gs918 rfl (sd_toS hl w6 57 56 x1 (bN) (L) hsb (by decide) (by decide) hm.fn) (Nat.le_of_ble_eq_true rfl) ⟨(by show _ ≤ 24; omega), (by show _ ≤ 800; omega)⟩ rfl (Nat.le_of_ble_eq_true rfl) rfl rfl (fun _ _ h => h.elim) ?_
            rintro _ w7 ⟨r7, rfl, fw7, ht7⟩
            have g7_it915 := fw7.g (Or.inr (by omega)) git
            have fm7 := fw7.fm (q := 59) (by omega)
            have h7 := hm.gar fw7 (by omega)
            refine j_aret dX11_rowText_92 rfl (Or.inl ⟨_, rfl⟩) rfl ?_ (by show _ ≤ 24; omega) (by show _ ≤ 800; omega)
            refine cast (congrFun (congrFun hQ9 _) _) ?_
            try rw [ei910]
            have hT9 : q_k2 (nI i910) = 0 := by
              first | (first | (refine sp_k2_0 ?_ <;> (first | (with_reducible assumption) | (refine Or.inl ?_; (with_reducible assumption)) | (refine Or.inr ?_; (with_reducible assumption)) | (refine Or.inr (Or.inl ?_); (with_reducible assumption)) | (refine Or.inr (Or.inr ?_); (with_reducible assumption)) | (refine Or.inr (Or.inr (Or.inl ?_)); (with_reducible assumption)) | (refine Or.inr (Or.inr (Or.inr ?_)); (with_reducible assumption)) | (refine fun z => Or.elim z ?_ ?_ <;> (with_reducible assumption)) | (refine fun z => Or.elim z ?_ (fun z => Or.elim z ?_ ?_) <;> (with_reducible assumption)) | (refine fun z => Or.elim z ?_ (fun z => Or.elim z ?_ (fun z => Or.elim z ?_ ?_)) <;> (with_reducible assumption)) | (refine fun z => Or.elim z (fun z9 => z9 ?_) ?_ <;> (first | (with_reducible assumption) | (refine Or.inl ?_; (with_reducible assumption)) | (refine Or.inr (Or.inl ?_); (with_reducible assumption)) | (refine Or.inr (Or.inr ?_); (with_reducible assumption)) | (refine Or.inr (Or.inr (Or.inl ?_)); (with_reducible assumption)) | (refine Or.inr (Or.inr (Or.inr ?_)); (with_reducible assumption)))) | (refine Or.inl (fun z => Or.elim z ?_ (fun z => Or.elim z ?_ ?_)) <;> (with_reducible assumption)) | (refine Or.inl (fun z => Or.elim z ?_ (fun z => Or.elim z ?_ (fun z => Or.elim z ?_ ?_))) <;> (with_reducible assumption))))) | (first | (refine sp_k2_0 ?_ <;> (first | assumption | (refine Or.inl ?_; assumption) | (refine Or.inr ?_; assumption) | (refine Or.inr (Or.inl ?_); assumption) | (refine Or.inr (Or.inr ?_); assumption) | (refine Or.inr (Or.inr (Or.inl ?_)); assumption) | (refine Or.inr (Or.inr (Or.inr ?_)); assumption) | (refine fun z => Or.elim z ?_ ?_ <;> assumption) | (refine fun z => Or.elim z ?_ (fun z => Or.elim z ?_ ?_) <;> assumption) | (refine fun z => Or.elim z ?_ (fun z => Or.elim z ?_ (fun z => Or.elim z ?_ ?_)) <;> assumption) | (refine fun z => Or.elim z (fun z9 => z9 ?_) ?_ <;> (first | assumption | (refine Or.inl ?_; assumption) | (refine Or.inr (Or.inl ?_); assumption) | (refine Or.inr (Or.inr ?_); assumption) | (refine Or.inr (Or.inr (Or.inl ?_)); assumption) | (refine Or.inr (Or.inr (Or.inr ?_)); assumption))) | (refine Or.inl (fun z => Or.elim z ?_ (fun z => Or.elim z ?_ ?_)) <;> assumption) | (refine Or.inl (fun z => Or.elim z ?_ (fun z => Or.elim z ?_ (fun z => Or.elim z ?_ ?_))) <;> assumption))))
            rw [hL, List.take_of_length_le (by omega)] at ht7
            exact ⟨_, _, rfl, rfl, (hfm.tr fm7), h7, Eq.trans hth hT9.symm, hR, fun _ => ⟨_, rfl, ht7⟩⟩
          · have hk44 : k < (sp_R S (i910)).length := hp917 c_44_70
            refine j_aload_n dX11_rowText_47 rfl rfl ?_
            obtain ⟨x919, hx919⟩ : ∃ x, (sp_R S (i910))[k]? = some x := ⟨_, List.getElem?_eq_getElem (show k < (sp_R S (i910)).length by omega)⟩
            refine j_callF (x := ⟨"java/util/Iterator", "next", "()Ljava/lang/Object;"⟩) (q := (RJx35411, TJx35411, 4)) dX11_rowText_48 kJx35411_next_0502b ⟨(z_w 1775 ((lwt_8_1 20).trans rfl) (by decide +kernel)), (z_w 1778 ((lwt_8_1 23).trans rfl) (by decide +kernel)), inJx35411_next_0502b, ⟨by decide, by decide⟩, rfl, fun U h => h.2.2.1⟩ git rfl (cl_next hl w6 58 it915 (11 + i910) _ (k) _ _ _ (hm.rw (i := i910) (by omega)).1 ⟨_, git⟩ ((congrArg (fun z => (z_bx z)[k]?) (hR.w (by omega))).trans (sp_u_get hx919)) hita915 hitb915 (by omega)) (Nat.le_of_ble_eq_true rfl) ⟨(by show _ ≤ 24; omega), (by show _ ≤ 800; omega)⟩ rfl (Nat.le_of_ble_eq_true rfl) rfl ?_
            rintro _ w8 ⟨rfl, fw8, la8, git8⟩
            have fm8 := fw8.fm (q := 59) (by omega)
            have h8 := hm.gar fw8 (by omega)
            have hs8 := hsb.fw fw8 (by decide)
            refine j_castS dX11_rowText_53 (z_w 1567 ((lwt_7_2 22).trans rfl) (by decide +kernel)) rfl ?_
            refine j_callVB (v0 := .float _) (C := "java/lang/Integer") dX11_rowText_56 kJ6_intValue_8abf5 lX11_99 inJ6_intValue_8abf5 seJ6_intValue_8abf5 rfl (c_intv hl w8 x919) (Nat.le_of_ble_eq_true rfl) ⟨(by show _ ≤ 24; omega), (by show _ ≤ 800; omega)⟩ rfl (Nat.le_of_ble_eq_true rfl) rfl rfl (fun _ _ h => h.elim) ?_
            rintro _ _ ⟨rfl, hw921⟩
            refine j_w w8 hw921 ?_
            refine j_istore (lo' := [(4, _), (0, _), (1, _), (2, _), (3, _)]) dX11_rowText_59 (by decide) rfl ?_
            refine j_aload_n dX11_rowText_61 rfl rfl ?_
            refine j_aload_n dX11_rowText_62 rfl rfl ?_
            obtain ⟨fs922, gs922⟩ := hs8.sb.cell
            refine j_callV (q := (RJ4, TJ4, 4)) dX11_rowText_63 kJ4_length_8abf5 lX11_217 inJ4_length_8abf5 seJ4_length_8abf5 gs922 rfl (sb_len hl w8 56 x1 (L).length (bN) hs8.sb) (Nat.le_of_ble_eq_true rfl) ⟨(by show _ ≤ 24; omega), (by show _ ≤ 800; omega)⟩ rfl (Nat.le_of_ble_eq_true rfl) rfl rfl (fun _ _ h => h.elim) ?_
            rintro _ _ ⟨rfl, hw923⟩
            refine j_w w8 hw923 ?_
            refine j_if_le (tgt := 74) dX11_rowText_66 (by decide) (fun c_66_106 => ?_) (fun c_66_106 => ?_)
            · have hb66 : (L).length ≤ 0 := (nI_leI (a := (L).length) (b := 0) (by omega) (by omega)).mp c_66_106
              refine j_ldcS (i := 10) dX11_rowText_74 rfl (Or.inl rfl) rfl rfl ?_
              have hnN924 := hs8.sb.nN
              have hle924 := z_gr_le (N := bN) (m := ((L).length + 0))
              have hmx924 := z_gr_mx (N := bN) (m := ((L).length + 0)) (M := 144) (by omega) (by omega)
              obtain ⟨fs925, gs925⟩ := hs8.sb.cell
              refine j_callV (q := (RJ4, TJ4, 4)) dX11_rowText_76 kJ4_append_15ec4 lX11_222 inJ4_append_15ec4 seJ4_append_15ec4 gs925 rfl (sd_apK hl w8 56 x1 (bN) (L) 10 0 _ [] rfl (Or.inl rfl) (by decide +kernel) (by decide) hs8 (by omega) (by omega) (by decide) h8.fn) (Nat.le_of_ble_eq_true rfl) ⟨(by show _ ≤ 24; omega), (by show _ ≤ 800; omega)⟩ rfl (Nat.le_of_ble_eq_true rfl) rfl rfl (fun _ _ h => h.elim) ?_
              rintro _ w9 ⟨rfl, fw9, hs9⟩
              have ln9 : ((L ++ ([] : List Int32))).length = (L).length + 0 := by rw [List.length_append]; try rfl
              have g9_it915 := fw9.g (Or.inr (by omega)) git8
              have fm9 := fw9.fm (q := 59) (by omega)
              have h9 := h8.gar fw9 (by omega)
              refine j_iload dX11_rowText_79 rfl ?_
              have hzs926 := z_sz_in (x919)
              have hnN927 := hs9.sb.nN
              have hle927 := z_gr_le (N := (z_gr (bN) ((L).length + 0))) (m := (((L ++ ([] : List Int32))).length + z_sz (x919)))
              have hmx927 := z_gr_mx (N := (z_gr (bN) ((L).length + 0))) (m := (((L ++ ([] : List Int32))).length + z_sz (x919))) (M := 144) (by omega) (by omega)
              obtain ⟨fs928, gs928⟩ := hs9.sb.cell
              refine j_callV (q := (RJ4, TJ4, 4)) dX11_rowText_81 kJ4_append_bf812 lX11_226 inJ4_append_bf812 seJ4_append_bf812 gs928 rfl (sc_apI hl w9 56 x1 ((z_gr (bN) ((L).length + 0))) ((L ++ ([] : List Int32))) (x919) hs9 (by omega) (by omega) (by decide) h9.fn) (Nat.le_of_ble_eq_true rfl) ⟨(by show _ ≤ 24; omega), (by show _ ≤ 800; omega)⟩ rfl (Nat.le_of_ble_eq_true rfl) rfl rfl (fun _ _ h => h.elim) ?_
              rintro _ w10 ⟨rfl, fw10, hs10⟩
              have ln10 : (((L ++ ([] : List Int32)) ++ tx_dg (x919))).length = ((L ++ ([] : List Int32))).length + z_sz (x919) := by rw [List.length_append, tx_dl]; try rfl
              have g10_it915 := fw10.g (Or.inr (by omega)) g9_it915
              have fm10 := fw10.fm (q := 59) (by omega)
              have h10 := h9.gar fw10 (by omega)
              refine j_pop dX11_rowText_84 rfl ?_
              refine j_goto (tgt := 38) dX11_rowText_85 (by decide) ?_
              refine j_widen (kc' := 2 + (z_gr ((z_gr (bN) ((L).length + 0))) (((L ++ ([] : List Int32))).length + z_sz (x919))) / 16) (ks' := 2 * (z_gr ((z_gr (bN) ((L).length + 0))) (((L ++ ([] : List Int32))).length + z_sz (x919)))) (by omega) (by omega) ?_
              exact j_lo2 (ih w10 _ (k + 1) ((L ++ ([] : List Int32)) ++ tx_dg (x919)) (z_gr ((z_gr (bN) ((L).length + 0))) (((L ++ ([] : List Int32))).length + z_sz (x919))) _ (by omega) (by omega) hlm hR (by exact hth) h10 (((hfm.tr fm8).tr fm9).tr fm10) g10_it915 hs10 (by rw [sp_tkx hx919]; exact (tx_jt_g hL (L.length ≤ 0) (by omega)).1 (by omega)) (by omega) (by omega)) (z_q1 rfl (z_q1 rfl (z_q1 rfl (z_q1 rfl z_q0))))
            · have hb66 : 0 < (L).length := Nat.not_le.mp (fun z => c_66_106 ((nI_leI (a := (L).length) (b := 0) (by omega) (by omega)).mpr z))
              refine j_ldcS (i := 13) dX11_rowText_69 rfl (Or.inl rfl) rfl rfl ?_
              refine j_goto (tgt := 76) dX11_rowText_71 (by decide) ?_
              have hnN929 := hs8.sb.nN
              have hle929 := z_gr_le (N := bN) (m := ((L).length + 1))
              have hmx929 := z_gr_mx (N := bN) (m := ((L).length + 1)) (M := 144) (by omega) (by omega)
              obtain ⟨fs930, gs930⟩ := hs8.sb.cell
              refine j_callV (q := (RJ4, TJ4, 4)) dX11_rowText_76 kJ4_append_15ec4 lX11_222 inJ4_append_15ec4 seJ4_append_15ec4 gs930 rfl (sd_apK hl w8 56 x1 (bN) (L) 13 1 _ [32] rfl (Or.inl rfl) (by decide +kernel) (by decide) hs8 (by omega) (by omega) (by decide) h8.fn) (Nat.le_of_ble_eq_true rfl) ⟨(by show _ ≤ 24; omega), (by show _ ≤ 800; omega)⟩ rfl (Nat.le_of_ble_eq_true rfl) rfl rfl (fun _ _ h => h.elim) ?_
              rintro _ w11 ⟨rfl, fw11, hs11⟩
              have ln11 : ((L ++ ([32] : List Int32))).length = (L).length + 1 := by rw [List.length_append]; try rfl
              have g11_it915 := fw11.g (Or.inr (by omega)) git8
              have fm11 := fw11.fm (q := 59) (by omega)
              have h11 := h8.gar fw11 (by omega)
              refine j_iload dX11_rowText_79 rfl ?_
              have hzs931 := z_sz_in (x919)
              have hnN932 := hs11.sb.nN
              have hle932 := z_gr_le (N := (z_gr (bN) ((L).length + 1))) (m := (((L ++ ([32] : List Int32))).length + z_sz (x919)))
              have hmx932 := z_gr_mx (N := (z_gr (bN) ((L).length + 1))) (m := (((L ++ ([32] : List Int32))).length + z_sz (x919))) (M := 144) (by omega) (by omega)
              obtain ⟨fs933, gs933⟩ := hs11.sb.cell
              refine j_callV (q := (RJ4, TJ4, 4)) dX11_rowText_81 kJ4_append_bf812 lX11_226 inJ4_append_bf812 seJ4_append_bf812 gs933 rfl (sc_apI hl w11 56 x1 ((z_gr (bN) ((L).length + 1))) ((L ++ ([32] : List Int32))) (x919) hs11 (by omega) (by omega) (by decide) h11.fn) (Nat.le_of_ble_eq_true rfl) ⟨(by show _ ≤ 24; omega), (by show _ ≤ 800; omega)⟩ rfl (Nat.le_of_ble_eq_true rfl) rfl rfl (fun _ _ h => h.elim) ?_
              rintro _ w12 ⟨rfl, fw12, hs12⟩
              have ln12 : (((L ++ ([32] : List Int32)) ++ tx_dg (x919))).length = ((L ++ ([32] : List Int32))).length + z_sz (x919) := by rw [List.length_append, tx_dl]; try rfl
              have g12_it915 := fw12.g (Or.inr (by omega)) g11_it915
              have fm12 := fw12.fm (q := 59) (by omega)
              have h12 := h11.gar fw12 (by omega)
              refine j_pop dX11_rowText_84 rfl ?_
              refine j_goto (tgt := 38) dX11_rowText_85 (by decide) ?_
              refine j_widen (kc' := 2 + (z_gr ((z_gr (bN) ((L).length + 1))) (((L ++ ([32] : List Int32))).length + z_sz (x919))) / 16) (ks' := 2 * (z_gr ((z_gr (bN) ((L).length + 1))) (((L ++ ([32] : List Int32))).length + z_sz (x919)))) (by omega) (by omega) ?_
              exact j_lo2 (ih w12 _ (k + 1) ((L ++ ([32] : List Int32)) ++ tx_dg (x919)) (z_gr ((z_gr (bN) ((L).length + 1))) (((L ++ ([32] : List Int32))).length + z_sz (x919))) _ (by omega) (by omega) hlm hR (by exact hth) h12 (((hfm.tr fm8).tr fm11).tr fm12) g12_it915 hs12 (by rw [sp_tkx hx919]; exact (tx_jt_g hL (L.length ≤ 0) (by omega)).2 (by omega)) (by omega) (by omega)) (z_q1 rfl (z_q1 rfl (z_q1 rfl (z_q1 rfl z_q0))))
      refine j_widen (kc' := 2 + 16 / 16) (ks' := 2 * 16) (by decide) (by decide) ?_
      exact j_lo2 (loop38 (12 + 1) w5 _ 0 [] 16 _ (Nat.zero_le _) (by omega) hlm9 R2 (by exact rfl) h5 ((((fm2.le (q' := 59) (by decide)).tr (fw3.fm (q := 59) (by omega))).tr fm4).tr fm5) git915 hs5 rfl (Nat.zero_le _) (by omega)) (z_q1 rfl (z_q1 rfl (z_q1 rfl (z_q1 rfl z_q0))))
    · exact absurd c_9_25 (by decide)
set_option maxRecDepth 100000 in
set_option maxHeartbeats 8000000 in
theorem cz_text (hl : l.stackTraces = false) (w : z_W) (S : sp_S) (s : z_Z) (x : Int32) (h : z_mst w s) (R : sp_MR S s)  : z_Con G l mX11_text 20 66 2450 w [.ref 1000, .int x] (fun v w9 => ∃ (r9 : Value) (s9 : z_Z), v = some r9 ∧ z_ir r9 = true ∧ z_fm 59 w w9 ∧ z_mst w9 s9 ∧ s9.1.1 = sp_k3 x ∧ sp_MR S s9 ∧ (sp_k3 x = 0 → ∃ q, r9 = .ref q ∧ z_txL w9 57 q (tx_pt (sp_T S (sp_i x))))) (fun _ _ => False) := by
  generalize hQ9 : (fun (v : Option Value) (w9 : z_W) => ∃ (r9 : Value) (s9 : z_Z), v = some r9 ∧ z_ir r9 = true ∧ z_fm 59 w w9 ∧ z_mst w9 s9 ∧ s9.1.1 = sp_k3 x ∧ sp_MR S s9 ∧ (sp_k3 x = 0 → ∃ q, r9 = .ref q ∧ z_txL w9 57 q (tx_pt (sp_T S (sp_i x))))) = Q9
  refine z_body hl (by decide) rfl (Nat.le_of_ble_eq_true rfl) ?_
  show z_J G l mX11_text _ 0 [(0, _), (1, _)] [] _ 0 0
  refine j_aload_n dX11_text_0 rfl rfl ?_
  refine j_iload_n dX11_text_1 rfl ?_
  refine j_callS dX11_text_2 kX11_isNoTable lX11_136 stX11_isNoTable (cm_isNoTable_r hl w _) (Nat.le_of_ble_eq_true rfl) ⟨(by show _ ≤ 66; omega), (by show _ ≤ 2450; omega)⟩ rfl (Nat.le_of_ble_eq_true rfl) rfl rfl (fun _ _ h => h.elim) ?_
  rintro _ _ ⟨⟨rfl, hno934⟩ | ⟨rfl, i934, hi934, ht934, rfl⟩, hw934⟩
  · refine j_w w hw934 ?_
    refine j_iconst (v := 1) dX11_text_5 (by decide) ?_
    refine j_callV (q := (RX11, TX11, 8)) dX11_text_6 kX11_start lX11_76 inX11_start seX11_start h.m rfl (cm_start1 hl w _ _ h (by decide)) (Nat.le_of_ble_eq_true rfl) ⟨(by show _ ≤ 66; omega), (by show _ ≤ 2450; omega)⟩ rfl (Nat.le_of_ble_eq_true rfl) rfl rfl (fun _ _ h => h.elim) ?_
    rintro _ w1 ⟨rfl, fm1, h1⟩
    have R1 := R.th (k := 1)
    refine j_if_eq (tgt := 15) dX11_text_9 (by decide) (fun c_9_11 => ?_) (fun c_9_11 => ?_)
    · exact absurd c_9_11 (by decide)
    · refine j_ldcS (i := 10) dX11_text_12 rfl (Or.inl rfl) rfl rfl ?_
      refine j_aret dX11_text_14 rfl (Or.inl ⟨_, rfl⟩) rfl ?_ (by show _ ≤ 66; omega) (by show _ ≤ 2450; omega)
      refine cast (congrFun (congrFun hQ9 _) _) ?_
      have hT9 : sp_k3 x = 1 := by
        first | (first | (refine sp_k3_1 ?_ <;> (first | (with_reducible assumption) | (refine Or.inl ?_; (with_reducible assumption)) | (refine Or.inr ?_; (with_reducible assumption)) | (refine Or.inr (Or.inl ?_); (with_reducible assumption)) | (refine Or.inr (Or.inr ?_); (with_reducible assumption)) | (refine Or.inr (Or.inr (Or.inl ?_)); (with_reducible assumption)) | (refine Or.inr (Or.inr (Or.inr ?_)); (with_reducible assumption)) | (refine fun z => Or.elim z ?_ ?_ <;> (with_reducible assumption)) | (refine fun z => Or.elim z ?_ (fun z => Or.elim z ?_ ?_) <;> (with_reducible assumption)) | (refine fun z => Or.elim z ?_ (fun z => Or.elim z ?_ (fun z => Or.elim z ?_ ?_)) <;> (with_reducible assumption)) | (refine fun z => Or.elim z (fun z9 => z9 ?_) ?_ <;> (first | (with_reducible assumption) | (refine Or.inl ?_; (with_reducible assumption)) | (refine Or.inr (Or.inl ?_); (with_reducible assumption)) | (refine Or.inr (Or.inr ?_); (with_reducible assumption)) | (refine Or.inr (Or.inr (Or.inl ?_)); (with_reducible assumption)) | (refine Or.inr (Or.inr (Or.inr ?_)); (with_reducible assumption)))) | (refine Or.inl (fun z => Or.elim z ?_ (fun z => Or.elim z ?_ ?_)) <;> (with_reducible assumption)) | (refine Or.inl (fun z => Or.elim z ?_ (fun z => Or.elim z ?_ (fun z => Or.elim z ?_ ?_))) <;> (with_reducible assumption))))) | (first | (refine sp_k3_1 ?_ <;> (first | assumption | (refine Or.inl ?_; assumption) | (refine Or.inr ?_; assumption) | (refine Or.inr (Or.inl ?_); assumption) | (refine Or.inr (Or.inr ?_); assumption) | (refine Or.inr (Or.inr (Or.inl ?_)); assumption) | (refine Or.inr (Or.inr (Or.inr ?_)); assumption) | (refine fun z => Or.elim z ?_ ?_ <;> assumption) | (refine fun z => Or.elim z ?_ (fun z => Or.elim z ?_ ?_) <;> assumption) | (refine fun z => Or.elim z ?_ (fun z => Or.elim z ?_ (fun z => Or.elim z ?_ ?_)) <;> assumption) | (refine fun z => Or.elim z (fun z9 => z9 ?_) ?_ <;> (first | assumption | (refine Or.inl ?_; assumption) | (refine Or.inr (Or.inl ?_); assumption) | (refine Or.inr (Or.inr ?_); assumption) | (refine Or.inr (Or.inr (Or.inl ?_)); assumption) | (refine Or.inr (Or.inr (Or.inr ?_)); assumption))) | (refine Or.inl (fun z => Or.elim z ?_ (fun z => Or.elim z ?_ ?_)) <;> assumption) | (refine Or.inl (fun z => Or.elim z ?_ (fun z => Or.elim z ?_ (fun z => Or.elim z ?_ ?_))) <;> assumption))))
      exact ⟨_, _, rfl, rfl, (fm1.le (q' := 59) (by decide)), h1, hT9.symm, R1, fun z9 => absurd (hT9.symm.trans z9) (by decide)⟩
  · refine j_w w hw934 ?_
    have ei934 : sp_i (nI i934) = i934 := sp_in' (by omega)
    refine j_iconst (v := 1) dX11_text_5 (by decide) ?_
    refine j_callV (q := (RX11, TX11, 8)) dX11_text_6 kX11_start lX11_76 inX11_start seX11_start h.m rfl (cm_start0 hl w _ _ h) (Nat.le_of_ble_eq_true rfl) ⟨(by show _ ≤ 66; omega), (by show _ ≤ 2450; omega)⟩ rfl (Nat.le_of_ble_eq_true rfl) rfl rfl (fun _ _ h => h.elim) ?_
    rintro _ w2 ⟨rfl, fm2, h2⟩
    have R2 := R.th (k := 0)
    refine j_if_eq (tgt := 15) dX11_text_9 (by decide) (fun c_9_25 => ?_) (fun c_9_25 => ?_)
    · obtain ⟨x1, hx1a, hx1b, hx1c⟩ := z_fresh (56) (by decide) h2.fn
      refine j_new (N := 4) (w' := _) (n := x1) dX11_text_15 nX11_214 rfl (z_alW hx1c hx1a) (Nat.le_of_ble_eq_true rfl) (Nat.le_of_ble_eq_true rfl) ?_
      refine j_seal hx1a ?_
      intro w3 u3
      have fw3 := u3.fw hx1a hx1b
      have g3_x1 := u3.1
      have h3 := h2.gar fw3 (by omega)
      refine j_dup dX11_text_18 rfl ?_
      refine j_callI dX11_text_19 kJ4_init_da8c8 rfl lX11_216 inJ4_init_da8c8 rfl (sb_ini hl w3 56 x1 hx1a hx1b (by decide) h3.fn g3_x1) (Nat.le_of_ble_eq_true rfl) ⟨(by show _ ≤ 66; omega), (by show _ ≤ 2450; omega)⟩ rfl (Nat.le_of_ble_eq_true rfl) rfl rfl (fun _ _ h => h.elim) ?_
      rintro _ w4 ⟨rfl, fw4, hs4⟩
      have hs4 := hs4.nil
      have fm4 := fw4.fm (q := 59) (by omega)
      have h4 := h3.gar fw4 (by omega)
      refine j_astore_n (lo' := [(2, _), (0, _), (1, _)]) dX11_text_22 rfl (by decide) rfl ?_
      refine j_aload_n dX11_text_23 rfl rfl ?_
      refine j_getf dX11_text_24 fX11_34 h4.m rfl ?_
      refine j_iload_n dX11_text_27 rfl ?_
      obtain ⟨lv936, -, lg936⟩ := z_li.cell h4.tabs
      refine j_callV (q := (RJx4a65c, TJx4a65c, 3)) dX11_text_28 kJx4a65c_get_915e3 lX11_82 inJx4a65c_get_915e3 seJx4a65c_get_915e3 lg936 rfl (cl_get hl w4 47 1007 _ _ (i934) _ h4.tabs (z_thr3 (t := i934) (by omega))) (Nat.le_of_ble_eq_true rfl) ⟨(by show _ ≤ 66; omega), (by show _ ≤ 2450; omega)⟩ rfl (Nat.le_of_ble_eq_true rfl) rfl rfl (fun _ _ h => h.elim) ?_
      rintro _ _ ⟨rfl, hw937⟩
      refine j_w w4 hw937 ?_
      refine j_castS dX11_text_31 (z_w 1341 ((lwt_6_3 6).trans rfl) (by decide +kernel)) (z_li.is (h4.tb (t := i934) (by omega))) ?_
      obtain ⟨lv940, -, lg940⟩ := z_li.cell (h4.tb (t := i934) (by omega))
      refine j_callV (q := (RJx4a65c, TJx4a65c, 3)) dX11_text_34 kJx4a65c_iterator_32c93 lX11_162 inJx4a65c_iterator_32c93 seJx4a65c_iterator_32c93 lg940 rfl (cl_iter hl w4 58 (51 + i934) _ _ _ (h4.tb (t := i934) (by omega)) (by decide) (by omega) h4.fn) (Nat.le_of_ble_eq_true rfl) ⟨(by show _ ≤ 66; omega), (by show _ ≤ 2450; omega)⟩ rfl (Nat.le_of_ble_eq_true rfl) rfl rfl (fun _ _ h => h.elim) ?_
      rintro _ w5 ⟨it939, rfl, fw5, hita939, hitb939, hitc939, la939, git939⟩
      have hita939 : 1000 ≤ it939 := hita939
      have hitb939 : it939 % 64 = 58 := hitb939
      have fm5 := fw5.fm (q := 59) (by omega)
      have h5 := h4.gar fw5 (by omega)
      have hs5 := hs4.fw fw5 (by decide)
      refine j_astore_n (lo' := [(3, _), (2, _), (0, _), (1, _)]) dX11_text_37 rfl (by decide) rfl ?_
      have hlm9 : (sp_T S i934).length ≤ 20 := R2.l20 h5 (t := i934) (by omega) rfl
      have loop38 : ∀ (n9 : Nat) (w6 : z_W) (s1 : z_Z) (k : Nat) (L : List Int32) (bN : Nat) (la : Int32), (k ≤ (sp_T S i934).length) → (20 < k + n9) → ((sp_T S i934).length ≤ 20) → (sp_MR S s1) → (s1.1.1 = 0) → (z_mst w6 s1) → (z_fm 59 w w6) → (z_g w6 it939 = some (.inr (3, [.int (nI k), .int la, .int (z_qp s1 (i934)).1, .ref (1011 + i934)]))) → (z_sbL w6 56 x1 L bN) → (L = tx_pt ((sp_T S i934).take k)) → (L.length ≤ 24 * k) → (bN ≤ 2 * 480 + 16) → z_J G l mX11_text (20, 66, 2450, w, Q9, (fun _ _ => False)) 38 [(0, .ref 1000), (1, .int (nI i934)), (2, .ref x1), (3, .ref it939)] [] w6 (2 + bN / 16) (2 * bN) := by
        intro n9
        induction n9 with
        | zero => intro w6 s1 k L bN la hj hf9 hlm hR hth hm hfm git hsb hL hbn hbN; exact absurd hf9 (by omega)
        | succ n9 ih =>
          intro w6 s1 k L bN la hj hf9 hlm hR hth hm hfm git hsb hL hbn hbN
          have hnN0 := hsb.sb.nN
          refine j_aload_n dX11_text_38 rfl rfl ?_
          refine j_callF (x := ⟨"java/util/Iterator", "hasNext", "()Z"⟩) (q := (RJx35411, TJx35411, 4)) dX11_text_39 kJx35411_hasNext_aae02 ⟨(z_w 1765 ((lwt_8_1 10).trans rfl) (by decide +kernel)), (z_w 1769 ((lwt_8_1 14).trans rfl) (by decide +kernel)), inJx35411_hasNext_aae02, ⟨by decide, by decide⟩, rfl, fun U h => h.2.1⟩ git rfl (cl_hasN hl w6 _ (51 + i934) _ (k) _ _ (hm.tb (t := i934) (by omega)) ⟨_, git⟩ (by rw [z_rs_len, hR.tlB (by omega) rfl]; omega)) (Nat.le_of_ble_eq_true rfl) ⟨(by show _ ≤ 66; omega), (by show _ ≤ 2450; omega)⟩ rfl (Nat.le_of_ble_eq_true rfl) rfl ?_
          rintro _ _ ⟨⟨x941, rfl, hz941, hp941⟩, hw941⟩
          refine j_w w6 hw941 ?_
          rw [z_rs_len, hR.tlB (by omega) rfl] at hz941 hp941
          refine j_if_eq (tgt := 99) dX11_text_44 (by decide) (fun c_44_70 => ?_) (fun c_44_70 => ?_)
          · have hk44 : k = (sp_T S (i934)).length := hz941 c_44_70
            refine j_aload_n dX11_text_99 rfl rfl ?_
            have hnN := hsb.sb.nN
            obtain ⟨fs942, gs942⟩ := hsb.sb.cell
            refine j_callV (q := (RJ4, TJ4, 4)) dX11_text_100 kJ4_toString_0e30d lX11_229 inJ4_toString_0e30d seJ4_toString_0e30d gs942 rfl (sd_toS hl w6 57 56 x1 (bN) (L) hsb (by decide) (by decide) hm.fn) (Nat.le_of_ble_eq_true rfl) ⟨(by show _ ≤ 66; omega), (by show _ ≤ 2450; omega)⟩ rfl (Nat.le_of_ble_eq_true rfl) rfl rfl (fun _ _ h => h.elim) ?_
            rintro _ w7 ⟨r7, rfl, fw7, ht7⟩
            have g7_it939 := fw7.g (Or.inr (by omega)) git
            have fm7 := fw7.fm (q := 59) (by omega)
            have h7 := hm.gar fw7 (by omega)
            refine j_aret dX11_text_103 rfl (Or.inl ⟨_, rfl⟩) rfl ?_ (by show _ ≤ 66; omega) (by show _ ≤ 2450; omega)
            refine cast (congrFun (congrFun hQ9 _) _) ?_
            try rw [ei934]
            have hT9 : sp_k3 (nI i934) = 0 := by
              first | (first | (refine sp_k3_0 ?_ <;> (first | (with_reducible assumption) | (refine Or.inl ?_; (with_reducible assumption)) | (refine Or.inr ?_; (with_reducible assumption)) | (refine Or.inr (Or.inl ?_); (with_reducible assumption)) | (refine Or.inr (Or.inr ?_); (with_reducible assumption)) | (refine Or.inr (Or.inr (Or.inl ?_)); (with_reducible assumption)) | (refine Or.inr (Or.inr (Or.inr ?_)); (with_reducible assumption)) | (refine fun z => Or.elim z ?_ ?_ <;> (with_reducible assumption)) | (refine fun z => Or.elim z ?_ (fun z => Or.elim z ?_ ?_) <;> (with_reducible assumption)) | (refine fun z => Or.elim z ?_ (fun z => Or.elim z ?_ (fun z => Or.elim z ?_ ?_)) <;> (with_reducible assumption)) | (refine fun z => Or.elim z (fun z9 => z9 ?_) ?_ <;> (first | (with_reducible assumption) | (refine Or.inl ?_; (with_reducible assumption)) | (refine Or.inr (Or.inl ?_); (with_reducible assumption)) | (refine Or.inr (Or.inr ?_); (with_reducible assumption)) | (refine Or.inr (Or.inr (Or.inl ?_)); (with_reducible assumption)) | (refine Or.inr (Or.inr (Or.inr ?_)); (with_reducible assumption)))) | (refine Or.inl (fun z => Or.elim z ?_ (fun z => Or.elim z ?_ ?_)) <;> (with_reducible assumption)) | (refine Or.inl (fun z => Or.elim z ?_ (fun z => Or.elim z ?_ (fun z => Or.elim z ?_ ?_))) <;> (with_reducible assumption))))) | (first | (refine sp_k3_0 ?_ <;> (first | assumption | (refine Or.inl ?_; assumption) | (refine Or.inr ?_; assumption) | (refine Or.inr (Or.inl ?_); assumption) | (refine Or.inr (Or.inr ?_); assumption) | (refine Or.inr (Or.inr (Or.inl ?_)); assumption) | (refine Or.inr (Or.inr (Or.inr ?_)); assumption) | (refine fun z => Or.elim z ?_ ?_ <;> assumption) | (refine fun z => Or.elim z ?_ (fun z => Or.elim z ?_ ?_) <;> assumption) | (refine fun z => Or.elim z ?_ (fun z => Or.elim z ?_ (fun z => Or.elim z ?_ ?_)) <;> assumption) | (refine fun z => Or.elim z (fun z9 => z9 ?_) ?_ <;> (first | assumption | (refine Or.inl ?_; assumption) | (refine Or.inr (Or.inl ?_); assumption) | (refine Or.inr (Or.inr ?_); assumption) | (refine Or.inr (Or.inr (Or.inl ?_)); assumption) | (refine Or.inr (Or.inr (Or.inr ?_)); assumption))) | (refine Or.inl (fun z => Or.elim z ?_ (fun z => Or.elim z ?_ ?_)) <;> assumption) | (refine Or.inl (fun z => Or.elim z ?_ (fun z => Or.elim z ?_ (fun z => Or.elim z ?_ ?_))) <;> assumption))))
            rw [hL, List.take_of_length_le (by omega)] at ht7
            exact ⟨_, _, rfl, rfl, (hfm.tr fm7), h7, Eq.trans hth hT9.symm, hR, fun _ => ⟨_, rfl, ht7⟩⟩
          · have hk44 : k < (sp_T S (i934)).length := hp941 c_44_70
            refine j_aload_n dX11_text_47 rfl rfl ?_
            obtain ⟨e943, he943⟩ : ∃ e, (sp_T S (i934))[k]? = some e := ⟨_, List.getElem?_eq_getElem (show k < (sp_T S (i934)).length by omega)⟩
            obtain ⟨p943, hp943, hq943, hk943, hv0943, hv1943, hv2943⟩ := hR.prB hm (t := i934) (k := k) (by omega) rfl he943
            refine j_callF (x := ⟨"java/util/Iterator", "next", "()Ljava/lang/Object;"⟩) (q := (RJx35411, TJx35411, 4)) dX11_text_48 kJx35411_next_0502b ⟨(z_w 1775 ((lwt_8_1 20).trans rfl) (by decide +kernel)), (z_w 1778 ((lwt_8_1 23).trans rfl) (by decide +kernel)), inJx35411_next_0502b, ⟨by decide, by decide⟩, rfl, fun U h => h.2.2.1⟩ git rfl (cl_next hl w6 58 it939 (51 + i934) _ (k) _ _ _ (hm.tb (t := i934) (by omega)) ⟨_, git⟩ hq943 hita939 hitb939 (by omega)) (Nat.le_of_ble_eq_true rfl) ⟨(by show _ ≤ 66; omega), (by show _ ≤ 2450; omega)⟩ rfl (Nat.le_of_ble_eq_true rfl) rfl ?_
            rintro _ w8 ⟨rfl, fw8, la8, git8⟩
            have fm8 := fw8.fm (q := 59) (by omega)
            have h8 := hm.gar fw8 (by omega)
            have hs8 := hsb.fw fw8 (by decide)
            refine j_castS dX11_text_53 (z_w 1663 ((lwt_7_5 28).trans rfl) (by decide +kernel)) (z_isA ((h8.pr (t := i934) (by omega)).1 p943 hp943).2) ?_
            refine j_astore (lo' := [(4, _), (0, _), (1, _), (2, _), (3, _)]) dX11_text_56 rfl (by decide) rfl ?_
            refine j_aload_n dX11_text_58 rfl rfl ?_
            refine j_aload_n dX11_text_59 rfl rfl ?_
            obtain ⟨fs945, gs945⟩ := hs8.sb.cell
            refine j_callV (q := (RJ4, TJ4, 4)) dX11_text_60 kJ4_length_8abf5 lX11_217 inJ4_length_8abf5 seJ4_length_8abf5 gs945 rfl (sb_len hl w8 56 x1 (L).length (bN) hs8.sb) (Nat.le_of_ble_eq_true rfl) ⟨(by show _ ≤ 66; omega), (by show _ ≤ 2450; omega)⟩ rfl (Nat.le_of_ble_eq_true rfl) rfl rfl (fun _ _ h => h.elim) ?_
            rintro _ _ ⟨rfl, hw946⟩
            refine j_w w8 hw946 ?_
            refine j_if_le (tgt := 71) dX11_text_63 (by decide) (fun c_63_104 => ?_) (fun c_63_104 => ?_)
            · have hb63 : (L).length ≤ 0 := (nI_leI (a := (L).length) (b := 0) (by omega) (by omega)).mp c_63_104
              refine j_ldcS (i := 10) dX11_text_71 rfl (Or.inl rfl) rfl rfl ?_
              have hnN947 := hs8.sb.nN
              have hle947 := z_gr_le (N := bN) (m := ((L).length + 0))
              have hmx947 := z_gr_mx (N := bN) (m := ((L).length + 0)) (M := 480) (by omega) (by omega)
              obtain ⟨fs948, gs948⟩ := hs8.sb.cell
              refine j_callV (q := (RJ4, TJ4, 4)) dX11_text_73 kJ4_append_15ec4 lX11_222 inJ4_append_15ec4 seJ4_append_15ec4 gs948 rfl (sd_apK hl w8 56 x1 (bN) (L) 10 0 _ [] rfl (Or.inl rfl) (by decide +kernel) (by decide) hs8 (by omega) (by omega) (by decide) h8.fn) (Nat.le_of_ble_eq_true rfl) ⟨(by show _ ≤ 66; omega), (by show _ ≤ 2450; omega)⟩ rfl (Nat.le_of_ble_eq_true rfl) rfl rfl (fun _ _ h => h.elim) ?_
              rintro _ w9 ⟨rfl, fw9, hs9⟩
              have ln9 : ((L ++ ([] : List Int32))).length = (L).length + 0 := by rw [List.length_append]; try rfl
              have g9_it939 := fw9.g (Or.inr (by omega)) git8
              have fm9 := fw9.fm (q := 59) (by omega)
              have h9 := h8.gar fw9 (by omega)
              refine j_aload dX11_text_76 rfl rfl ?_
              refine j_iconst (v := 0) dX11_text_78 (by decide) ?_
              refine j_ld dX11_text_79 ((h9.pr (t := i934) (by omega)).1 p943 hp943).2 (vp_in_nI (n := 0) (by decide) (by decide)) ?_
              refine j_top (congrArg Value.int (show _ = nI e943.1 from by rw [show (0 : Int32).toNatClampNeg = 0 from by decide]; exact hv0943)) ?_
              have hzs950 := z_sz_in (nI e943.1)
              have hnN951 := hs9.sb.nN
              have hle951 := z_gr_le (N := (z_gr (bN) ((L).length + 0))) (m := (((L ++ ([] : List Int32))).length + z_sz (nI e943.1)))
              have hmx951 := z_gr_mx (N := (z_gr (bN) ((L).length + 0))) (m := (((L ++ ([] : List Int32))).length + z_sz (nI e943.1))) (M := 480) (by omega) (by omega)
              obtain ⟨fs952, gs952⟩ := hs9.sb.cell
              refine j_callV (q := (RJ4, TJ4, 4)) dX11_text_80 kJ4_append_bf812 lX11_226 inJ4_append_bf812 seJ4_append_bf812 gs952 rfl (sc_apI hl w9 56 x1 ((z_gr (bN) ((L).length + 0))) ((L ++ ([] : List Int32))) (nI e943.1) hs9 (by omega) (by omega) (by decide) h9.fn) (Nat.le_of_ble_eq_true rfl) ⟨(by show _ ≤ 66; omega), (by show _ ≤ 2450; omega)⟩ rfl (Nat.le_of_ble_eq_true rfl) rfl rfl (fun _ _ h => h.elim) ?_
              rintro _ w10 ⟨rfl, fw10, hs10⟩
              have ln10 : (((L ++ ([] : List Int32)) ++ tx_dg (nI e943.1))).length = ((L ++ ([] : List Int32))).length + z_sz (nI e943.1) := by rw [List.length_append, tx_dl]; try rfl
              have g10_it939 := fw10.g (Or.inr (by omega)) g9_it939
              have fm10 := fw10.fm (q := 59) (by omega)
              have h10 := h9.gar fw10 (by omega)
              refine j_ldcS (i := 14) dX11_text_83 rfl (Or.inl rfl) rfl rfl ?_
              have hnN953 := hs10.sb.nN
              have hle953 := z_gr_le (N := (z_gr ((z_gr (bN) ((L).length + 0))) (((L ++ ([] : List Int32))).length + z_sz (nI e943.1)))) (m := ((((L ++ ([] : List Int32)) ++ tx_dg (nI e943.1))).length + 1))
              have hmx953 := z_gr_mx (N := (z_gr ((z_gr (bN) ((L).length + 0))) (((L ++ ([] : List Int32))).length + z_sz (nI e943.1)))) (m := ((((L ++ ([] : List Int32)) ++ tx_dg (nI e943.1))).length + 1)) (M := 480) (by omega) (by omega)
              obtain ⟨fs954, gs954⟩ := hs10.sb.cell
              refine j_callV (q := (RJ4, TJ4, 4)) dX11_text_85 kJ4_append_15ec4 lX11_222 inJ4_append_15ec4 seJ4_append_15ec4 gs954 rfl (sd_apK hl w10 56 x1 ((z_gr ((z_gr (bN) ((L).length + 0))) (((L ++ ([] : List Int32))).length + z_sz (nI e943.1)))) (((L ++ ([] : List Int32)) ++ tx_dg (nI e943.1))) 14 1 _ [61] rfl (Or.inl rfl) (by decide +kernel) (by decide) hs10 (by omega) (by omega) (by decide) h10.fn) (Nat.le_of_ble_eq_true rfl) ⟨(by show _ ≤ 66; omega), (by show _ ≤ 2450; omega)⟩ rfl (Nat.le_of_ble_eq_true rfl) rfl rfl (fun _ _ h => h.elim) ?_
              rintro _ w11 ⟨rfl, fw11, hs11⟩
              have ln11 : ((((L ++ ([] : List Int32)) ++ tx_dg (nI e943.1)) ++ ([61] : List Int32))).length = (((L ++ ([] : List Int32)) ++ tx_dg (nI e943.1))).length + 1 := by rw [List.length_append]; try rfl
              have g11_it939 := fw11.g (Or.inr (by omega)) g10_it939
              have fm11 := fw11.fm (q := 59) (by omega)
              have h11 := h10.gar fw11 (by omega)
              refine j_aload dX11_text_88 rfl rfl ?_
              refine j_iconst (v := 1) dX11_text_90 (by decide) ?_
              refine j_ld dX11_text_91 ((h11.pr (t := i934) (by omega)).1 p943 hp943).2 (vp_in_nI (n := 1) (by decide) (by decide)) ?_
              refine j_top (congrArg Value.int (show _ = e943.2 from by rw [show (1 : Int32).toNatClampNeg = 1 from by decide]; exact hv1943)) ?_
              have hzs956 := z_sz_in ((e943.2))
              have hnN957 := hs11.sb.nN
              have hle957 := z_gr_le (N := (z_gr ((z_gr ((z_gr (bN) ((L).length + 0))) (((L ++ ([] : List Int32))).length + z_sz (nI e943.1)))) ((((L ++ ([] : List Int32)) ++ tx_dg (nI e943.1))).length + 1))) (m := (((((L ++ ([] : List Int32)) ++ tx_dg (nI e943.1)) ++ ([61] : List Int32))).length + z_sz ((e943.2))))
              have hmx957 := z_gr_mx (N := (z_gr ((z_gr ((z_gr (bN) ((L).length + 0))) (((L ++ ([] : List Int32))).length + z_sz (nI e943.1)))) ((((L ++ ([] : List Int32)) ++ tx_dg (nI e943.1))).length + 1))) (m := (((((L ++ ([] : List Int32)) ++ tx_dg (nI e943.1)) ++ ([61] : List Int32))).length + z_sz ((e943.2)))) (M := 480) (by omega) (by omega)
              obtain ⟨fs958, gs958⟩ := hs11.sb.cell
              refine j_callV (q := (RJ4, TJ4, 4)) dX11_text_92 kJ4_append_bf812 lX11_226 inJ4_append_bf812 seJ4_append_bf812 gs958 rfl (sc_apI hl w11 56 x1 ((z_gr ((z_gr ((z_gr (bN) ((L).length + 0))) (((L ++ ([] : List Int32))).length + z_sz (nI e943.1)))) ((((L ++ ([] : List Int32)) ++ tx_dg (nI e943.1))).length + 1))) ((((L ++ ([] : List Int32)) ++ tx_dg (nI e943.1)) ++ ([61] : List Int32))) ((e943.2)) hs11 (by omega) (by omega) (by decide) h11.fn) (Nat.le_of_ble_eq_true rfl) ⟨(by show _ ≤ 66; omega), (by show _ ≤ 2450; omega)⟩ rfl (Nat.le_of_ble_eq_true rfl) rfl rfl (fun _ _ h => h.elim) ?_
              rintro _ w12 ⟨rfl, fw12, hs12⟩
              have ln12 : (((((L ++ ([] : List Int32)) ++ tx_dg (nI e943.1)) ++ ([61] : List Int32)) ++ tx_dg ((e943.2)))).length = ((((L ++ ([] : List Int32)) ++ tx_dg (nI e943.1)) ++ ([61] : List Int32))).length + z_sz ((e943.2)) := by rw [List.length_append, tx_dl]; try rfl
              have g12_it939 := fw12.g (Or.inr (by omega)) g11_it939
              have fm12 := fw12.fm (q := 59) (by omega)
              have h12 := h11.gar fw12 (by omega)
              refine j_pop dX11_text_95 rfl ?_
              refine j_goto (tgt := 38) dX11_text_96 (by decide) ?_
              refine j_widen (kc' := 2 + (z_gr ((z_gr ((z_gr ((z_gr (bN) ((L).length + 0))) (((L ++ ([] : List Int32))).length + z_sz (nI e943.1)))) ((((L ++ ([] : List Int32)) ++ tx_dg (nI e943.1))).length + 1))) (((((L ++ ([] : List Int32)) ++ tx_dg (nI e943.1)) ++ ([61] : List Int32))).length + z_sz ((e943.2)))) / 16) (ks' := 2 * (z_gr ((z_gr ((z_gr ((z_gr (bN) ((L).length + 0))) (((L ++ ([] : List Int32))).length + z_sz (nI e943.1)))) ((((L ++ ([] : List Int32)) ++ tx_dg (nI e943.1))).length + 1))) (((((L ++ ([] : List Int32)) ++ tx_dg (nI e943.1)) ++ ([61] : List Int32))).length + z_sz ((e943.2))))) (by omega) (by omega) ?_
              exact j_lo2 (ih w12 _ (k + 1) ((((L ++ ([] : List Int32)) ++ tx_dg (nI e943.1)) ++ ([61] : List Int32)) ++ tx_dg ((e943.2))) (z_gr ((z_gr ((z_gr ((z_gr (bN) ((L).length + 0))) (((L ++ ([] : List Int32))).length + z_sz (nI e943.1)))) ((((L ++ ([] : List Int32)) ++ tx_dg (nI e943.1))).length + 1))) (((((L ++ ([] : List Int32)) ++ tx_dg (nI e943.1)) ++ ([61] : List Int32))).length + z_sz ((e943.2)))) _ (by omega) (by omega) hlm hR (by exact hth) h12 (((((hfm.tr fm8).tr fm9).tr fm10).tr fm11).tr fm12) g12_it939 hs12 (by rw [sp_tkx he943]; exact (tx_pt_g hL (L.length ≤ 0) (by omega)).1 (by omega)) (by omega) (by omega)) (z_q1 rfl (z_q1 rfl (z_q1 rfl (z_q1 rfl z_q0))))
            · have hb63 : 0 < (L).length := Nat.not_le.mp (fun z => c_63_104 ((nI_leI (a := (L).length) (b := 0) (by omega) (by omega)).mpr z))
              refine j_ldcS (i := 13) dX11_text_66 rfl (Or.inl rfl) rfl rfl ?_
              refine j_goto (tgt := 73) dX11_text_68 (by decide) ?_
              have hnN959 := hs8.sb.nN
              have hle959 := z_gr_le (N := bN) (m := ((L).length + 1))
              have hmx959 := z_gr_mx (N := bN) (m := ((L).length + 1)) (M := 480) (by omega) (by omega)
              obtain ⟨fs960, gs960⟩ := hs8.sb.cell
              refine j_callV (q := (RJ4, TJ4, 4)) dX11_text_73 kJ4_append_15ec4 lX11_222 inJ4_append_15ec4 seJ4_append_15ec4 gs960 rfl (sd_apK hl w8 56 x1 (bN) (L) 13 1 _ [32] rfl (Or.inl rfl) (by decide +kernel) (by decide) hs8 (by omega) (by omega) (by decide) h8.fn) (Nat.le_of_ble_eq_true rfl) ⟨(by show _ ≤ 66; omega), (by show _ ≤ 2450; omega)⟩ rfl (Nat.le_of_ble_eq_true rfl) rfl rfl (fun _ _ h => h.elim) ?_
              rintro _ w13 ⟨rfl, fw13, hs13⟩
              have ln13 : ((L ++ ([32] : List Int32))).length = (L).length + 1 := by rw [List.length_append]; try rfl
              have g13_it939 := fw13.g (Or.inr (by omega)) git8
              have fm13 := fw13.fm (q := 59) (by omega)
              have h13 := h8.gar fw13 (by omega)
              refine j_aload dX11_text_76 rfl rfl ?_
              refine j_iconst (v := 0) dX11_text_78 (by decide) ?_
              refine j_ld dX11_text_79 ((h13.pr (t := i934) (by omega)).1 p943 hp943).2 (vp_in_nI (n := 0) (by decide) (by decide)) ?_
              refine j_top (congrArg Value.int (show _ = nI e943.1 from by rw [show (0 : Int32).toNatClampNeg = 0 from by decide]; exact hv0943)) ?_
              have hzs962 := z_sz_in (nI e943.1)
              have hnN963 := hs13.sb.nN
              have hle963 := z_gr_le (N := (z_gr (bN) ((L).length + 1))) (m := (((L ++ ([32] : List Int32))).length + z_sz (nI e943.1)))
              have hmx963 := z_gr_mx (N := (z_gr (bN) ((L).length + 1))) (m := (((L ++ ([32] : List Int32))).length + z_sz (nI e943.1))) (M := 480) (by omega) (by omega)
              obtain ⟨fs964, gs964⟩ := hs13.sb.cell
              refine j_callV (q := (RJ4, TJ4, 4)) dX11_text_80 kJ4_append_bf812 lX11_226 inJ4_append_bf812 seJ4_append_bf812 gs964 rfl (sc_apI hl w13 56 x1 ((z_gr (bN) ((L).length + 1))) ((L ++ ([32] : List Int32))) (nI e943.1) hs13 (by omega) (by omega) (by decide) h13.fn) (Nat.le_of_ble_eq_true rfl) ⟨(by show _ ≤ 66; omega), (by show _ ≤ 2450; omega)⟩ rfl (Nat.le_of_ble_eq_true rfl) rfl rfl (fun _ _ h => h.elim) ?_
              rintro _ w14 ⟨rfl, fw14, hs14⟩
              have ln14 : (((L ++ ([32] : List Int32)) ++ tx_dg (nI e943.1))).length = ((L ++ ([32] : List Int32))).length + z_sz (nI e943.1) := by rw [List.length_append, tx_dl]; try rfl
              have g14_it939 := fw14.g (Or.inr (by omega)) g13_it939
              have fm14 := fw14.fm (q := 59) (by omega)
              have h14 := h13.gar fw14 (by omega)
              refine j_ldcS (i := 14) dX11_text_83 rfl (Or.inl rfl) rfl rfl ?_
              have hnN965 := hs14.sb.nN
              have hle965 := z_gr_le (N := (z_gr ((z_gr (bN) ((L).length + 1))) (((L ++ ([32] : List Int32))).length + z_sz (nI e943.1)))) (m := ((((L ++ ([32] : List Int32)) ++ tx_dg (nI e943.1))).length + 1))
              have hmx965 := z_gr_mx (N := (z_gr ((z_gr (bN) ((L).length + 1))) (((L ++ ([32] : List Int32))).length + z_sz (nI e943.1)))) (m := ((((L ++ ([32] : List Int32)) ++ tx_dg (nI e943.1))).length + 1)) (M := 480) (by omega) (by omega)
              obtain ⟨fs966, gs966⟩ := hs14.sb.cell
              refine j_callV (q := (RJ4, TJ4, 4)) dX11_text_85 kJ4_append_15ec4 lX11_222 inJ4_append_15ec4 seJ4_append_15ec4 gs966 rfl (sd_apK hl w14 56 x1 ((z_gr ((z_gr (bN) ((L).length + 1))) (((L ++ ([32] : List Int32))).length + z_sz (nI e943.1)))) (((L ++ ([32] : List Int32)) ++ tx_dg (nI e943.1))) 14 1 _ [61] rfl (Or.inl rfl) (by decide +kernel) (by decide) hs14 (by omega) (by omega) (by decide) h14.fn) (Nat.le_of_ble_eq_true rfl) ⟨(by show _ ≤ 66; omega), (by show _ ≤ 2450; omega)⟩ rfl (Nat.le_of_ble_eq_true rfl) rfl rfl (fun _ _ h => h.elim) ?_
              rintro _ w15 ⟨rfl, fw15, hs15⟩
              have ln15 : ((((L ++ ([32] : List Int32)) ++ tx_dg (nI e943.1)) ++ ([61] : List Int32))).length = (((L ++ ([32] : List Int32)) ++ tx_dg (nI e943.1))).length + 1 := by rw [List.length_append]; try rfl
              have g15_it939 := fw15.g (Or.inr (by omega)) g14_it939
              have fm15 := fw15.fm (q := 59) (by omega)
              have h15 := h14.gar fw15 (by omega)
              refine j_aload dX11_text_88 rfl rfl ?_
              refine j_iconst (v := 1) dX11_text_90 (by decide) ?_
              refine j_ld dX11_text_91 ((h15.pr (t := i934) (by omega)).1 p943 hp943).2 (vp_in_nI (n := 1) (by decide) (by decide)) ?_
              refine j_top (congrArg Value.int (show _ = e943.2 from by rw [show (1 : Int32).toNatClampNeg = 1 from by decide]; exact hv1943)) ?_
              have hzs968 := z_sz_in ((e943.2))
              have hnN969 := hs15.sb.nN
              have hle969 := z_gr_le (N := (z_gr ((z_gr ((z_gr (bN) ((L).length + 1))) (((L ++ ([32] : List Int32))).length + z_sz (nI e943.1)))) ((((L ++ ([32] : List Int32)) ++ tx_dg (nI e943.1))).length + 1))) (m := (((((L ++ ([32] : List Int32)) ++ tx_dg (nI e943.1)) ++ ([61] : List Int32))).length + z_sz ((e943.2))))
              have hmx969 := z_gr_mx (N := (z_gr ((z_gr ((z_gr (bN) ((L).length + 1))) (((L ++ ([32] : List Int32))).length + z_sz (nI e943.1)))) ((((L ++ ([32] : List Int32)) ++ tx_dg (nI e943.1))).length + 1))) (m := (((((L ++ ([32] : List Int32)) ++ tx_dg (nI e943.1)) ++ ([61] : List Int32))).length + z_sz ((e943.2)))) (M := 480) (by omega) (by omega)
              obtain ⟨fs970, gs970⟩ := hs15.sb.cell
              refine j_callV (q := (RJ4, TJ4, 4)) dX11_text_92 kJ4_append_bf812 lX11_226 inJ4_append_bf812 seJ4_append_bf812 gs970 rfl (sc_apI hl w15 56 x1 ((z_gr ((z_gr ((z_gr (bN) ((L).length + 1))) (((L ++ ([32] : List Int32))).length + z_sz (nI e943.1)))) ((((L ++ ([32] : List Int32)) ++ tx_dg (nI e943.1))).length + 1))) ((((L ++ ([32] : List Int32)) ++ tx_dg (nI e943.1)) ++ ([61] : List Int32))) ((e943.2)) hs15 (by omega) (by omega) (by decide) h15.fn) (Nat.le_of_ble_eq_true rfl) ⟨(by show _ ≤ 66; omega), (by show _ ≤ 2450; omega)⟩ rfl (Nat.le_of_ble_eq_true rfl) rfl rfl (fun _ _ h => h.elim) ?_
              rintro _ w16 ⟨rfl, fw16, hs16⟩
              have ln16 : (((((L ++ ([32] : List Int32)) ++ tx_dg (nI e943.1)) ++ ([61] : List Int32)) ++ tx_dg ((e943.2)))).length = ((((L ++ ([32] : List Int32)) ++ tx_dg (nI e943.1)) ++ ([61] : List Int32))).length + z_sz ((e943.2)) := by rw [List.length_append, tx_dl]; try rfl
              have g16_it939 := fw16.g (Or.inr (by omega)) g15_it939
              have fm16 := fw16.fm (q := 59) (by omega)
              have h16 := h15.gar fw16 (by omega)
              refine j_pop dX11_text_95 rfl ?_
              refine j_goto (tgt := 38) dX11_text_96 (by decide) ?_
              refine j_widen (kc' := 2 + (z_gr ((z_gr ((z_gr ((z_gr (bN) ((L).length + 1))) (((L ++ ([32] : List Int32))).length + z_sz (nI e943.1)))) ((((L ++ ([32] : List Int32)) ++ tx_dg (nI e943.1))).length + 1))) (((((L ++ ([32] : List Int32)) ++ tx_dg (nI e943.1)) ++ ([61] : List Int32))).length + z_sz ((e943.2)))) / 16) (ks' := 2 * (z_gr ((z_gr ((z_gr ((z_gr (bN) ((L).length + 1))) (((L ++ ([32] : List Int32))).length + z_sz (nI e943.1)))) ((((L ++ ([32] : List Int32)) ++ tx_dg (nI e943.1))).length + 1))) (((((L ++ ([32] : List Int32)) ++ tx_dg (nI e943.1)) ++ ([61] : List Int32))).length + z_sz ((e943.2))))) (by omega) (by omega) ?_
              exact j_lo2 (ih w16 _ (k + 1) ((((L ++ ([32] : List Int32)) ++ tx_dg (nI e943.1)) ++ ([61] : List Int32)) ++ tx_dg ((e943.2))) (z_gr ((z_gr ((z_gr ((z_gr (bN) ((L).length + 1))) (((L ++ ([32] : List Int32))).length + z_sz (nI e943.1)))) ((((L ++ ([32] : List Int32)) ++ tx_dg (nI e943.1))).length + 1))) (((((L ++ ([32] : List Int32)) ++ tx_dg (nI e943.1)) ++ ([61] : List Int32))).length + z_sz ((e943.2)))) _ (by omega) (by omega) hlm hR (by exact hth) h16 (((((hfm.tr fm8).tr fm13).tr fm14).tr fm15).tr fm16) g16_it939 hs16 (by rw [sp_tkx he943]; exact (tx_pt_g hL (L.length ≤ 0) (by omega)).2 (by omega)) (by omega) (by omega)) (z_q1 rfl (z_q1 rfl (z_q1 rfl (z_q1 rfl z_q0))))
      refine j_widen (kc' := 2 + 16 / 16) (ks' := 2 * 16) (by decide) (by decide) ?_
      exact j_lo2 (loop38 (20 + 1) w5 _ 0 [] 16 _ (Nat.zero_le _) (by omega) hlm9 R2 (by exact rfl) h5 ((((fm2.le (q' := 59) (by decide)).tr (fw3.fm (q := 59) (by omega))).tr fm4).tr fm5) git939 hs5 rfl (Nat.zero_le _) (by omega)) (z_q1 rfl (z_q1 rfl (z_q1 rfl (z_q1 rfl z_q0))))
    · exact absurd c_9_25 (by decide)
end ZMtL
end ZM1
