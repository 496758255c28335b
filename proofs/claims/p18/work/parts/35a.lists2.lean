section ZLs
variable {G : z_G} {l : Launch}
set_option maxRecDepth 100000 in
set_option maxHeartbeats 8000000 in
theorem cl_size (hl : l.stackTraces = false) (w : z_W) (ρ a : Nat) (mo : Int32) (L : List Value) (h : z_li w ρ a mo L) : z_Con G l mJx4a65c_size_8abf5 10 0 0 w [.ref a] (fun v w9 => v = some (.int (nI L.length)) ∧ w9 = w) (fun _ _ => False) := by
  obtain ⟨v0, hv0, ga⟩ := h.cell
  refine z_body hl (by decide) rfl (Nat.le_of_ble_eq_true rfl) ?_
  show z_J G l mJx4a65c_size_8abf5 _ 0 [(0, _)] [] _ 0 0
  refine j_aload_n dJx4a65c_size_8abf5_0 rfl rfl ?_
  refine j_getf dJx4a65c_size_8abf5_1 fJx4a65c_48 ga rfl ?_
  refine j_iret dJx4a65c_size_8abf5_4 rfl rfl ?_ (Nat.le_of_ble_eq_true rfl) (Nat.le_of_ble_eq_true rfl)
  exact ⟨rfl, rfl⟩
set_option maxRecDepth 100000 in
set_option maxHeartbeats 8000000 in
theorem cl_elD (hl : l.stackTraces = false) (w : z_W) (ρ a : Nat) (mo : Int32) (L : List Value) (j : Nat) (v0 : Value) (h : z_li w ρ a mo L) (hj : L[j]? = some v0) : z_Con G l mJx4a65c_elementData_915e3 10 0 0 w [.ref a, .int (nI j)] (fun v w9 => v = some v0 ∧ w9 = w) (fun _ _ => False) := by
  obtain ⟨m, n, f, a1, a2, a3, ga, gm, a6, a7, a8⟩ := h.one hj
  have hjl : j < L.length := (List.getElem?_eq_some_iff.mp hj).1
  refine z_body hl (by decide) rfl (Nat.le_of_ble_eq_true rfl) ?_
  show z_J G l mJx4a65c_elementData_915e3 _ 0 [(0, _), (1, _)] [] _ 0 0
  refine j_aload_n dJx4a65c_elementData_915e3_0 rfl rfl ?_
  refine j_getf dJx4a65c_elementData_915e3_1 fJx4a65c_9 ga rfl ?_
  refine j_iload_n dJx4a65c_elementData_915e3_4 rfl ?_
  refine j_aald dJx4a65c_elementData_915e3_5 gm rfl rfl (vp_in_nI (by omega) (by omega)) (show f (nI j).toNatClampNeg = v0 by rw [z_cla (by omega)]; exact a8 j v0 hj) ?_
  refine j_aret dJx4a65c_elementData_915e3_6 rfl (Or.inl ⟨_, rfl⟩) (h.ir hj) ?_ (Nat.le_of_ble_eq_true rfl) (Nat.le_of_ble_eq_true rfl)
  exact ⟨rfl, rfl⟩
set_option maxRecDepth 100000 in
set_option maxHeartbeats 8000000 in
theorem cl_get (hl : l.stackTraces = false) (w : z_W) (ρ a : Nat) (mo : Int32) (L : List Value) (j : Nat) (v0 : Value) (h : z_li w ρ a mo L) (hj : L[j]? = some v0) : z_Con G l mJx4a65c_get_915e3 13 0 0 w [.ref a, .int (nI j)] (fun v w9 => v = some v0 ∧ w9 = w) (fun _ _ => False) := by
  obtain ⟨m, n, f, a1, a2, a3, ga, gm, a6, a7, a8⟩ := h.one hj
  have hjl : j < L.length := (List.getElem?_eq_some_iff.mp hj).1
  refine z_body hl (by decide) rfl (Nat.le_of_ble_eq_true rfl) ?_
  show z_J G l mJx4a65c_get_915e3 _ 0 [(0, _), (1, _)] [] _ 0 0
  refine j_iload_n dJx4a65c_get_915e3_0 rfl ?_
  refine j_aload_n dJx4a65c_get_915e3_1 rfl rfl ?_
  refine j_getf dJx4a65c_get_915e3_2 fJx4a65c_48 ga rfl ?_
  refine j_callS dJx4a65c_get_915e3_5 kJ15_checkIndex_7cf53 lJx4a65c_118 stJ15_checkIndex_7cf53 (c_J15_checkIndex_7cf53 hl _ _ _ (nI_pos (by omega)) (nI_lt hjl (by omega))) (Nat.le_of_ble_eq_true rfl) ⟨(Nat.le_of_ble_eq_true rfl), (Nat.le_of_ble_eq_true rfl)⟩ rfl (Nat.le_of_ble_eq_true rfl) rfl rfl (fun _ _ h => h.elim) ?_
  rintro _ _ ⟨rfl, hw1⟩
  refine j_w w hw1 ?_
  refine j_pop dJx4a65c_get_915e3_8 rfl ?_
  refine j_aload_n dJx4a65c_get_915e3_9 rfl rfl ?_
  refine j_iload_n dJx4a65c_get_915e3_10 rfl ?_
  refine j_callV (q := (RJx4a65c, TJx4a65c, 3)) dJx4a65c_get_915e3_11 kJx4a65c_elementData_915e3 lJx4a65c_123 inJx4a65c_elementData_915e3 seJx4a65c_elementData_915e3 ga rfl (cl_elD hl w _ _ _ _ _ _ h hj) (Nat.le_of_ble_eq_true rfl) ⟨(Nat.le_of_ble_eq_true rfl), (Nat.le_of_ble_eq_true rfl)⟩ rfl (Nat.le_of_ble_eq_true rfl) rfl rfl (fun _ _ h => h.elim) ?_
  rintro _ _ ⟨rfl, hw2⟩
  refine j_w w hw2 ?_
  refine j_aret dJx4a65c_get_915e3_14 rfl (Or.inl ⟨_, rfl⟩) (h.ir hj) ?_ (Nat.le_of_ble_eq_true rfl) (Nat.le_of_ble_eq_true rfl)
  exact ⟨rfl, rfl⟩
set_option maxRecDepth 100000 in
set_option maxHeartbeats 8000000 in
theorem cl_set (hl : l.stackTraces = false) (w : z_W) (ρ a : Nat) (mo : Int32) (L : List Value) (j : Nat) (v0 x : Value) (h : z_li w ρ a mo L) (hj : L[j]? = some v0) (hx : z_el ρ w x) : z_Con G l mJx4a65c_set_bcc79 13 0 0 w [.ref a, .int (nI j), x] (fun v w9 => v = some v0 ∧ z_fw ρ w w9 ∧ z_li w9 ρ a mo (L.set j x)) (fun _ _ => False) := by
  obtain ⟨m, n, f, a1, a2, a3, ga, gm, a6, a7, a8⟩ := h.one hj
  have hjl : j < L.length := (List.getElem?_eq_some_iff.mp hj).1
  obtain ⟨C, hC1, hC2⟩ := hx.2
  rcases hx.1 with ⟨bx, rfl⟩ | ⟨rx, rfl, hrx⟩
  · have hj0 := hj
    refine z_body hl (by decide) rfl (Nat.le_of_ble_eq_true rfl) ?_
    show z_J G l mJx4a65c_set_bcc79 _ 0 [(0, _), (1, _), (2, _)] [] _ 0 0
    refine j_iload_n dJx4a65c_set_bcc79_0 rfl ?_
    refine j_aload_n dJx4a65c_set_bcc79_1 rfl rfl ?_
    refine j_getf dJx4a65c_set_bcc79_2 fJx4a65c_48 ga rfl ?_
    refine j_callS dJx4a65c_set_bcc79_5 kJ15_checkIndex_7cf53 lJx4a65c_118 stJ15_checkIndex_7cf53 (c_J15_checkIndex_7cf53 hl _ _ _ (nI_pos (by omega)) (nI_lt hjl (by omega))) (Nat.le_of_ble_eq_true rfl) ⟨(Nat.le_of_ble_eq_true rfl), (Nat.le_of_ble_eq_true rfl)⟩ rfl (Nat.le_of_ble_eq_true rfl) rfl rfl (fun _ _ h => h.elim) ?_
    rintro _ _ ⟨rfl, hw3⟩
    refine j_w w hw3 ?_
    refine j_pop dJx4a65c_set_bcc79_8 rfl ?_
    refine j_aload_n dJx4a65c_set_bcc79_9 rfl rfl ?_
    refine j_iload_n dJx4a65c_set_bcc79_10 rfl ?_
    refine j_callV (q := (RJx4a65c, TJx4a65c, 3)) dJx4a65c_set_bcc79_11 kJx4a65c_elementData_915e3 lJx4a65c_123 inJx4a65c_elementData_915e3 seJx4a65c_elementData_915e3 ga rfl (cl_elD hl w _ _ _ _ _ _ h hj) (Nat.le_of_ble_eq_true rfl) ⟨(Nat.le_of_ble_eq_true rfl), (Nat.le_of_ble_eq_true rfl)⟩ rfl (Nat.le_of_ble_eq_true rfl) rfl rfl (fun _ _ h => h.elim) ?_
    rintro _ _ ⟨rfl, hw4⟩
    refine j_w w hw4 ?_
    refine j_astore_n (lo' := [(3, _), (0, _), (1, _), (2, _)]) dJx4a65c_set_bcc79_14 (h.ir hj) (by decide) rfl ?_
    refine j_aload_n dJx4a65c_set_bcc79_15 rfl rfl ?_
    refine j_getf dJx4a65c_set_bcc79_16 fJx4a65c_9 ga rfl ?_
    refine j_iload_n dJx4a65c_set_bcc79_19 rfl ?_
    refine j_aload_n dJx4a65c_set_bcc79_20 rfl hx.ir ?_
    refine j_aastO (w' := _) dJx4a65c_set_bcc79_21 gm rfl hC1 hC2 (vp_in_nI (by omega) (by omega)) rfl ?_
    refine j_seal a1 ?_
    intro w1 u1
    have g1_a := (u1.2.1 _ (Ne.symm a3)).trans ga
    have g1_m := u1.1
    refine j_aload_n dJx4a65c_set_bcc79_22 rfl (h.ir hj) ?_
    refine j_aret dJx4a65c_set_bcc79_23 rfl (Or.inl ⟨_, rfl⟩) (h.ir hj) ?_ (Nat.le_of_ble_eq_true rfl) (Nat.le_of_ble_eq_true rfl)
    exact ⟨rfl, (u1.fw a1 a2), z_li.of h.1 h.2.1 (z_irS h.2.2.1 hx.ir) ⟨a1, a2, a3, by rw [z_lenS]; exact g1_a, g1_m, by rw [z_lenS]; exact a6, a7, z_conS a7 hjl a6 a8⟩⟩
  · have hj0 := hj
    refine z_body hl (by decide) rfl (Nat.le_of_ble_eq_true rfl) ?_
    show z_J G l mJx4a65c_set_bcc79 _ 0 [(0, _), (1, _), (2, _)] [] _ 0 0
    refine j_iload_n dJx4a65c_set_bcc79_0 rfl ?_
    refine j_aload_n dJx4a65c_set_bcc79_1 rfl rfl ?_
    refine j_getf dJx4a65c_set_bcc79_2 fJx4a65c_48 ga rfl ?_
    refine j_callS dJx4a65c_set_bcc79_5 kJ15_checkIndex_7cf53 lJx4a65c_118 stJ15_checkIndex_7cf53 (c_J15_checkIndex_7cf53 hl _ _ _ (nI_pos (by omega)) (nI_lt hjl (by omega))) (Nat.le_of_ble_eq_true rfl) ⟨(Nat.le_of_ble_eq_true rfl), (Nat.le_of_ble_eq_true rfl)⟩ rfl (Nat.le_of_ble_eq_true rfl) rfl rfl (fun _ _ h => h.elim) ?_
    rintro _ _ ⟨rfl, hw5⟩
    refine j_w w hw5 ?_
    refine j_pop dJx4a65c_set_bcc79_8 rfl ?_
    refine j_aload_n dJx4a65c_set_bcc79_9 rfl rfl ?_
    refine j_iload_n dJx4a65c_set_bcc79_10 rfl ?_
    refine j_callV (q := (RJx4a65c, TJx4a65c, 3)) dJx4a65c_set_bcc79_11 kJx4a65c_elementData_915e3 lJx4a65c_123 inJx4a65c_elementData_915e3 seJx4a65c_elementData_915e3 ga rfl (cl_elD hl w _ _ _ _ _ _ h hj) (Nat.le_of_ble_eq_true rfl) ⟨(Nat.le_of_ble_eq_true rfl), (Nat.le_of_ble_eq_true rfl)⟩ rfl (Nat.le_of_ble_eq_true rfl) rfl rfl (fun _ _ h => h.elim) ?_
    rintro _ _ ⟨rfl, hw6⟩
    refine j_w w hw6 ?_
    refine j_astore_n (lo' := [(3, _), (0, _), (1, _), (2, _)]) dJx4a65c_set_bcc79_14 (h.ir hj) (by decide) rfl ?_
    refine j_aload_n dJx4a65c_set_bcc79_15 rfl rfl ?_
    refine j_getf dJx4a65c_set_bcc79_16 fJx4a65c_9 ga rfl ?_
    refine j_iload_n dJx4a65c_set_bcc79_19 rfl ?_
    refine j_aload_n dJx4a65c_set_bcc79_20 rfl hx.ir ?_
    refine j_aastO (w' := _) dJx4a65c_set_bcc79_21 gm rfl hC1 hC2 (vp_in_nI (by omega) (by omega)) rfl ?_
    refine j_seal a1 ?_
    intro w1 u1
    have g1_a := (u1.2.1 _ (Ne.symm a3)).trans ga
    have g1_m := u1.1
    refine j_aload_n dJx4a65c_set_bcc79_22 rfl (h.ir hj) ?_
    refine j_aret dJx4a65c_set_bcc79_23 rfl (Or.inl ⟨_, rfl⟩) (h.ir hj) ?_ (Nat.le_of_ble_eq_true rfl) (Nat.le_of_ble_eq_true rfl)
    exact ⟨rfl, (u1.fw a1 a2), z_li.of h.1 h.2.1 (z_irS h.2.2.1 hx.ir) ⟨a1, a2, a3, by rw [z_lenS]; exact g1_a, g1_m, by rw [z_lenS]; exact a6, a7, z_conS a7 hjl a6 a8⟩⟩
set_option maxRecDepth 100000 in
set_option maxHeartbeats 8000000 in
theorem cl_newL (hl : l.stackTraces = false) (w : z_W) (n : Nat) (hn : n ≤ 1000) : z_Con G l mJ8_newLength_cabcc 11 0 0 w [.int (nI n), .int (Int32.ofInt 1), .int (nI (n / 2))] (fun v w9 => v = some (.int (nI (z_nl n))) ∧ w9 = w) (fun _ _ => False) := by
  have hb := z_nl_le2 hn
  have hp := z_nl_lt n
  refine z_body hl (by decide) rfl (Nat.le_of_ble_eq_true rfl) ?_
  show z_J G l mJ8_newLength_cabcc _ 0 [(0, _), (1, _), (2, _)] [] _ 0 0
  refine j_iload_n dJ8_newLength_cabcc_0 rfl ?_
  refine j_iload_n dJ8_newLength_cabcc_1 rfl ?_
  refine j_iload_n dJ8_newLength_cabcc_2 rfl ?_
  refine j_mmax dJ8_newLength_cabcc_3 lJ8_194 (Nat.le_of_ble_eq_true rfl) (Nat.le_of_ble_eq_true rfl) (Nat.le_of_ble_eq_true rfl) (Nat.le_of_ble_eq_true rfl) ?_
  refine j_top (congrArg Value.int (nI_mx1 (k := n / 2) (by omega))) ?_
  refine j_iadd dJ8_newLength_cabcc_6 ?_
  refine j_top (congrArg Value.int (z_nlI n)) ?_
  refine j_istore_n (lo' := [(3, _), (0, _), (1, _), (2, _)]) dJ8_newLength_cabcc_7 (by decide) rfl ?_
  refine j_iconst (v := 0) dJ8_newLength_cabcc_8 (by decide) ?_
  refine j_iload_n dJ8_newLength_cabcc_9 rfl ?_
  refine j_icmp_ge (tgt := 21) dJ8_newLength_cabcc_10 (by decide) (fun c_10_12 => ?_) (fun c_10_12 => ?_)
  · exact absurd ((nI_leI (a := z_nl n) (b := 0) (by omega) (by omega)).mp (nI_o0 ▸ c_10_12)) (by omega)
  · refine j_iload_n dJ8_newLength_cabcc_13 rfl ?_
    refine j_ldc dJ8_newLength_cabcc_14 kcJ8_200 ?_
    refine j_icmp_gt (tgt := 21) dJ8_newLength_cabcc_16 (by decide) (fun c_16_16 => ?_) (fun c_16_16 => ?_)
    · exact absurd c_16_16 (Int32.not_lt.mpr (Int32.le_trans ((nI_leI (a := z_nl n) (b := 1600) (by omega) (by omega)).mpr hb) (by decide)))
    · refine j_iload_n dJ8_newLength_cabcc_19 rfl ?_
      refine j_iret dJ8_newLength_cabcc_20 rfl rfl ?_ (Nat.le_of_ble_eq_true rfl) (Nat.le_of_ble_eq_true rfl)
      exact ⟨rfl, rfl⟩
set_option maxRecDepth 100000 in
set_option maxHeartbeats 8000000 in
theorem cl_cpA (hl : l.stackTraces = false) (w : z_W) (ρ m n q : Nat) (f : Nat → Value) (hρ : ρ < 64) (hf : z_fn w) (gm : z_g w m = some (.inl (3, n, f))) (hn : n ≤ 1600) (hq : q ≤ 1600) (hel : ∀ j, j < n → j < q → f j = .null ∨ ∃ C, z_is w (f j) C ∧ Cond.castable C "java/lang/Object" ∈ z_nst) : z_Con G l mJ7_copyOf_6403c 12 1 q w [.ref m, .int (nI q), .retAddr 6] (fun v w9 => ∃ (m9 : Nat) (g : Nat → Value), v = some (.ref m9) ∧ z_fw ρ w w9 ∧ 1000 ≤ m9 ∧ m9 % 64 = ρ ∧ (∀ k e, z_g w k = some e → k ≠ m9) ∧ z_g w9 m9 = some (.inl (3, q, g)) ∧ (∀ k e, z_g w k = some e → z_g w9 k = some e) ∧ ∀ j, j < n → j < q → g j = f j) (fun _ _ => False) := by
  refine z_body hl (by decide) rfl (Nat.le_of_ble_eq_true rfl) ?_
  show z_J G l mJ7_copyOf_6403c _ 0 [(0, _), (1, _), (2, _)] [] _ 0 0
  refine j_aload_n dJ7_copyOf_6403c_0 rfl rfl ?_
  refine j_ldcM dJ7_copyOf_6403c_1 cl_110 ?_
  refine j_acmp_neK (tgt := 13) dJ7_copyOf_6403c_3 (by decide) ?_
  refine j_iload_n dJ7_copyOf_6403c_6 rfl ?_
  obtain ⟨x1, hx1a, hx1b, hx1c⟩ := z_fresh ρ hρ hf
  have n_m_x1 := z_neF hx1c gm
  refine j_anew (kd := 3) (N := q) (w' := _) (n := x1) dJ7_copyOf_6403c_7 rfl aJ7_2 ao_Object (nI_pos (by omega)) (z_cla (by omega)) (by omega) (z_alW hx1c hx1a) (Nat.le_of_ble_eq_true rfl) (by show _ ≤ q; omega) ?_
  refine j_seal hx1a ?_
  intro w1 u1
  have g1_m := (u1.2.1 _ n_m_x1).trans gm
  have g1_x1 := u1.1
  have hf1 := u1.2.2.2 hf
  refine j_goto (tgt := 24) dJ7_copyOf_6403c_10 (by decide) ?_
  refine j_astore_n (lo' := [(3, _), (0, _), (1, _), (2, _)]) dJ7_copyOf_6403c_24 rfl (by decide) rfl ?_
  refine j_aload_n dJ7_copyOf_6403c_25 rfl rfl ?_
  refine j_iconst (v := 0) dJ7_copyOf_6403c_26 (by decide) ?_
  refine j_aload_n dJ7_copyOf_6403c_27 rfl rfl ?_
  refine j_iconst (v := 0) dJ7_copyOf_6403c_28 (by decide) ?_
  refine j_aload_n dJ7_copyOf_6403c_29 rfl rfl ?_
  refine j_alen dJ7_copyOf_6403c_30 g1_m rfl rfl ?_
  refine j_iload_n dJ7_copyOf_6403c_31 rfl ?_
  refine j_mmin dJ7_copyOf_6403c_32 lJ7_304 (Nat.le_of_ble_eq_true rfl) (Nat.le_of_ble_eq_true rfl) (Nat.le_of_ble_eq_true rfl) (by show _ ≤ q; omega) ?_
  refine j_top (congrArg Value.int (nI_mn (a := n) (b := q) (by omega) (by omega))) ?_
  refine j_acopy (w' := _) dJ7_copyOf_6403c_35 lJ7_150 ac_n ac_s ac_i g1_m g1_x1 rfl (by decide) (by decide) (nI_pos (by omega)) (by rw [z_cla (by omega)]; show 0 + _ ≤ n; omega) (by rw [z_cla (by omega)]; show 0 + _ ≤ q; omega) (fun i hi => by rw [z_cla (by omega)] at hi; show _ ∨ (f (0 + i) = .null ∧ _) ∨ ∃ C E, _ ∧ z_is _ (f (0 + i)) C ∧ _; rw [Nat.zero_add]; rcases hel i (by omega) (by omega) with h1 | ⟨C, h1, h2⟩; exact Or.inr (Or.inl ⟨h1, rfl⟩); exact Or.inr (Or.inr ⟨C, "java/lang/Object", rfl, z_isK (fun k e hk => (u1.2.1 k (z_neF hx1c hk)).trans hk) h1, h2⟩)) (Nat.le_of_ble_eq_true rfl) (Nat.le_of_ble_eq_true rfl) rfl ?_
  refine j_seal hx1a ?_
  intro w2 u2
  have g2_m := (u2.2.1 _ n_m_x1).trans g1_m
  have g2_x1 := u2.1
  have hf2 := u2.2.2.2 hf1
  refine j_aload_n dJ7_copyOf_6403c_38 rfl rfl ?_
  refine j_aret dJ7_copyOf_6403c_39 rfl (Or.inr ⟨_, rfl⟩) rfl ?_ (Nat.le_of_ble_eq_true rfl) (by show _ ≤ q; omega)
  exact ⟨x1, _, rfl, ((u1.fw hx1a hx1b).tr (u2.fw hx1a hx1b)), hx1a, hx1b, fun k e hk => z_neF hx1c hk, g2_x1, fun k e hk => (u2.2.1 k (z_neF hx1c hk)).trans ((u1.2.1 k (z_neF hx1c hk)).trans hk), fun j h1 h2 => z_cpy0 h1 h2 (Or.inl (by omega))⟩
set_option maxRecDepth 100000 in
set_option maxHeartbeats 8000000 in
theorem cl_cpAK (hl : l.stackTraces = false) (w : z_W) (ρ k q : Nat) (hρ : ρ < 64) (hf : z_fn w) (hk : k < 2) (hq : q ≤ 1600) : z_Con G l mJ7_copyOf_6403c 12 1 q w [.retAddr k, .int (nI q), .retAddr 6] (fun v w9 => ∃ (m9 : Nat) (g : Nat → Value), v = some (.ref m9) ∧ z_fw ρ w w9 ∧ 1000 ≤ m9 ∧ m9 % 64 = ρ ∧ (∀ k e, z_g w k = some e → k ≠ m9) ∧ z_g w9 m9 = some (.inl (3, q, g)) ∧ (∀ k e, z_g w k = some e → z_g w9 k = some e)) (fun _ _ => False) := by
  refine z_body hl (by decide) rfl (Nat.le_of_ble_eq_true rfl) ?_
  show z_J G l mJ7_copyOf_6403c _ 0 [(0, _), (1, _), (2, _)] [] _ 0 0
  refine j_aload_n dJ7_copyOf_6403c_0 rfl rfl ?_
  refine j_ldcM dJ7_copyOf_6403c_1 cl_110 ?_
  refine j_acmp_neK (tgt := 13) dJ7_copyOf_6403c_3 (by decide) ?_
  refine j_iload_n dJ7_copyOf_6403c_6 rfl ?_
  obtain ⟨x1, hx1a, hx1b, hx1c⟩ := z_fresh ρ hρ hf
  refine j_anew (kd := 3) (N := q) (w' := _) (n := x1) dJ7_copyOf_6403c_7 rfl aJ7_2 ao_Object (nI_pos (by omega)) (z_cla (by omega)) (by omega) (z_alW hx1c hx1a) (Nat.le_of_ble_eq_true rfl) (by show _ ≤ q; omega) ?_
  refine j_seal hx1a ?_
  intro w1 u1
  have g1_x1 := u1.1
  have hf1 := u1.2.2.2 hf
  refine j_goto (tgt := 24) dJ7_copyOf_6403c_10 (by decide) ?_
  refine j_astore_n (lo' := [(3, _), (0, _), (1, _), (2, _)]) dJ7_copyOf_6403c_24 rfl (by decide) rfl ?_
  refine j_aload_n dJ7_copyOf_6403c_25 rfl rfl ?_
  refine j_iconst (v := 0) dJ7_copyOf_6403c_26 (by decide) ?_
  refine j_aload_n dJ7_copyOf_6403c_27 rfl rfl ?_
  refine j_iconst (v := 0) dJ7_copyOf_6403c_28 (by decide) ?_
  refine j_aload_n dJ7_copyOf_6403c_29 rfl rfl ?_
  refine j_alenK (k := k) (N := 0) dJ7_copyOf_6403c_30 (fun U q h hkq => h.2.2.2.1 k q hk hkq) ?_
  refine j_iload_n dJ7_copyOf_6403c_31 rfl ?_
  refine j_mmin dJ7_copyOf_6403c_32 lJ7_304 (Nat.le_of_ble_eq_true rfl) (Nat.le_of_ble_eq_true rfl) (Nat.le_of_ble_eq_true rfl) (by show _ ≤ q; omega) ?_
  refine j_top (congrArg Value.int (nI_mn (a := 0) (b := q) (by omega) (by omega))) ?_
  refine j_acopyK (k := k) (n0 := 0) (kd := 3) (ty := .object "java/lang/Object") dJ7_copyOf_6403c_35 lJ7_150 ac_n ac_s ac_i (fun U q9 h hkq => by obtain ⟨f9, hf9⟩ := h.2.2.2.1 k q9 hk hkq; exact ⟨f9, hf9, fun j hj => absurd hj (Nat.not_lt_zero _)⟩) g1_x1 rfl (by decide) (by decide) (nI_pos (by omega)) (by rw [z_cla (by omega)]; show 0 + _ ≤ 0; omega) (by rw [z_cla (by omega)]; show 0 + _ ≤ q; omega) (Nat.le_of_ble_eq_true rfl) (Nat.le_of_ble_eq_true rfl) ?_
  intro f9 _
  refine j_seal hx1a ?_
  intro w2 u2
  have g2_x1 := u2.1
  have hf2 := u2.2.2.2 hf1
  refine j_aload_n dJ7_copyOf_6403c_38 rfl rfl ?_
  refine j_aret dJ7_copyOf_6403c_39 rfl (Or.inr ⟨_, rfl⟩) rfl ?_ (Nat.le_of_ble_eq_true rfl) (by show _ ≤ q; omega)
  exact ⟨x1, _, rfl, ((u1.fw hx1a hx1b).tr (u2.fw hx1a hx1b)), hx1a, hx1b, fun k e hk => z_neF hx1c hk, g2_x1, fun k e hk => (u2.2.1 k (z_neF hx1c hk)).trans ((u1.2.1 k (z_neF hx1c hk)).trans hk)⟩
set_option maxRecDepth 100000 in
set_option maxHeartbeats 8000000 in
theorem cl_cpB (hl : l.stackTraces = false) (w : z_W) (ρ m n q : Nat) (f : Nat → Value) (hρ : ρ < 64) (hf : z_fn w) (gm : z_g w m = some (.inl (3, n, f))) (hn : n ≤ 1600) (hq : q ≤ 1600) (hel : ∀ j, j < n → j < q → f j = .null ∨ ∃ C, z_is w (f j) C ∧ Cond.castable C "java/lang/Object" ∈ z_nst) : z_Con G l mJ7_copyOf_1904c 13 1 q w [.ref m, .int (nI q)] (fun v w9 => ∃ (m9 : Nat) (g : Nat → Value), v = some (.ref m9) ∧ z_fw ρ w w9 ∧ 1000 ≤ m9 ∧ m9 % 64 = ρ ∧ (∀ k e, z_g w k = some e → k ≠ m9) ∧ z_g w9 m9 = some (.inl (3, q, g)) ∧ (∀ k e, z_g w k = some e → z_g w9 k = some e) ∧ ∀ j, j < n → j < q → g j = f j) (fun _ _ => False) := by
  refine z_body hl (by decide) rfl (Nat.le_of_ble_eq_true rfl) ?_
  show z_J G l mJ7_copyOf_1904c _ 0 [(0, _), (1, _)] [] _ 0 0
  refine j_aload_n dJ7_copyOf_1904c_0 rfl rfl ?_
  refine j_iload_n dJ7_copyOf_1904c_1 rfl ?_
  refine j_aload_n dJ7_copyOf_1904c_2 rfl rfl ?_
  refine j_getC dJ7_copyOf_1904c_3 lJ7_86 gc_d gc_s gc_i gc_n gm (Nat.le_of_ble_eq_true rfl) (Nat.le_of_ble_eq_true rfl) ?_
  refine j_callS dJ7_copyOf_1904c_6 kJ7_copyOf_6403c lJ7_300 stJ7_copyOf_6403c (cl_cpA hl w ρ m n q f hρ hf gm hn hq hel) (Nat.le_of_ble_eq_true rfl) ⟨(Nat.le_of_ble_eq_true rfl), (by show _ ≤ q; omega)⟩ rfl (Nat.le_of_ble_eq_true rfl) rfl rfl (fun _ _ h => h.elim) ?_
  rintro _ w1 ⟨m9, g9, rfl, fw1, c1, c2, c3, c4, c5, c6⟩
  have hf1 := fw1.2.1 hf
  refine j_aret dJ7_copyOf_1904c_9 rfl (Or.inr ⟨_, rfl⟩) rfl ?_ (Nat.le_of_ble_eq_true rfl) (by show _ ≤ q; omega)
  exact ⟨m9, g9, rfl, fw1, c1, c2, c3, c4, c5, c6⟩
set_option maxRecDepth 100000 in
set_option maxHeartbeats 8000000 in
theorem cl_cpBK (hl : l.stackTraces = false) (w : z_W) (ρ k q : Nat) (hρ : ρ < 64) (hf : z_fn w) (hk : k < 2) (hq : q ≤ 1600) : z_Con G l mJ7_copyOf_1904c 13 1 q w [.retAddr k, .int (nI q)] (fun v w9 => ∃ (m9 : Nat) (g : Nat → Value), v = some (.ref m9) ∧ z_fw ρ w w9 ∧ 1000 ≤ m9 ∧ m9 % 64 = ρ ∧ (∀ k e, z_g w k = some e → k ≠ m9) ∧ z_g w9 m9 = some (.inl (3, q, g)) ∧ (∀ k e, z_g w k = some e → z_g w9 k = some e)) (fun _ _ => False) := by
  refine z_body hl (by decide) rfl (Nat.le_of_ble_eq_true rfl) ?_
  show z_J G l mJ7_copyOf_1904c _ 0 [(0, _), (1, _)] [] _ 0 0
  refine j_aload_n dJ7_copyOf_1904c_0 rfl rfl ?_
  refine j_iload_n dJ7_copyOf_1904c_1 rfl ?_
  refine j_aload_n dJ7_copyOf_1904c_2 rfl rfl ?_
  refine j_getCK dJ7_copyOf_1904c_3 lJ7_86 gc_d gc_s gc_i gc_n hk (Nat.le_of_ble_eq_true rfl) (Nat.le_of_ble_eq_true rfl) ?_
  refine j_callS dJ7_copyOf_1904c_6 kJ7_copyOf_6403c lJ7_300 stJ7_copyOf_6403c (cl_cpAK hl w ρ k q hρ hf hk hq) (Nat.le_of_ble_eq_true rfl) ⟨(Nat.le_of_ble_eq_true rfl), (by show _ ≤ q; omega)⟩ rfl (Nat.le_of_ble_eq_true rfl) rfl rfl (fun _ _ h => h.elim) ?_
  rintro _ w1 ⟨m9, g9, rfl, fw1, c1, c2, c3, c4, c5⟩
  have hf1 := fw1.2.1 hf
  refine j_aret dJ7_copyOf_1904c_9 rfl (Or.inr ⟨_, rfl⟩) rfl ?_ (Nat.le_of_ble_eq_true rfl) (by show _ ≤ q; omega)
  exact ⟨m9, g9, rfl, fw1, c1, c2, c3, c4, c5⟩
set_option maxRecDepth 100000 in
set_option maxHeartbeats 8000000 in
theorem cl_growI (hl : l.stackTraces = false) (w : z_W) (ρ a : Nat) (mo : Int32) (L : List Value) (M : Nat) (h : z_li w ρ a mo L) (hρ : ρ < 64) (hf : z_fn w) (hM : L.length ≤ M) (hM2 : M ≤ 1000) (hel : ∀ v ∈ L, z_el ρ w v) (hfull : ∀ m n f, z_liA w ρ a mo L m n f → n = L.length) : z_Con G l mJx4a65c_grow_92f84 14 1 (2 * M + 10) w [.ref a, .int (nI (L.length + 1))] (fun v w9 => ∃ (m9 n9 : Nat) (g : Nat → Value), v = some (.ref m9) ∧ z_fw ρ w w9 ∧ z_liA w9 ρ a mo L m9 n9 g ∧ L.length < n9) (fun _ _ => False) := by
  rcases h.2.2.2 with ⟨m, n, f, hA⟩ | ⟨k, hL, hk, ga⟩
  · obtain ⟨a1, a2, a3, ga, gm, a6, a7, a8⟩ := id hA
    have hn : n = L.length := hfull m n f hA
    have hnl := z_nl_le (n := n) (M := M) (by omega)
    refine z_body hl (by decide) rfl (Nat.le_of_ble_eq_true rfl) ?_
    show z_J G l mJx4a65c_grow_92f84 _ 0 [(0, _), (1, _)] [] _ 0 0
    refine j_aload_n dJx4a65c_grow_92f84_0 rfl rfl ?_
    refine j_getf dJx4a65c_grow_92f84_1 fJx4a65c_9 ga rfl ?_
    refine j_alen dJx4a65c_grow_92f84_4 gm rfl rfl ?_
    refine j_istore_n (lo' := [(2, _), (0, _), (1, _)]) dJx4a65c_grow_92f84_5 (by decide) rfl ?_
    refine j_iload_n dJx4a65c_grow_92f84_6 rfl ?_
    refine j_if_gt (tgt := 20) dJx4a65c_grow_92f84_7 (by decide) (fun c_7_7 => ?_) (fun c_7_7 => ?_)
    · refine j_iload_n dJx4a65c_grow_92f84_20 rfl ?_
      refine j_iload_n dJx4a65c_grow_92f84_21 rfl ?_
      refine j_iload_n dJx4a65c_grow_92f84_22 rfl ?_
      refine j_isub dJx4a65c_grow_92f84_23 ?_
      refine j_top (congrArg Value.int (show nI (L.length + 1) - nI n = Int32.ofInt 1 by rw [hn]; exact nI_sub1 _)) ?_
      refine j_iload_n dJx4a65c_grow_92f84_24 rfl ?_
      refine j_iconst (v := 1) dJx4a65c_grow_92f84_25 (by decide) ?_
      refine j_ishr dJx4a65c_grow_92f84_26 ?_
      refine j_top (congrArg Value.int (nI_shr (n := n) (by omega))) ?_
      refine j_callS dJx4a65c_grow_92f84_27 kJ8_newLength_cabcc lJx4a65c_73 stJ8_newLength_cabcc (cl_newL hl w n (by omega)) (Nat.le_of_ble_eq_true rfl) ⟨(Nat.le_of_ble_eq_true rfl), (Nat.le_of_ble_eq_true rfl)⟩ rfl (Nat.le_of_ble_eq_true rfl) rfl rfl (fun _ _ h => h.elim) ?_
      rintro _ _ ⟨rfl, hw7⟩
      refine j_w w hw7 ?_
      refine j_istore_n (lo' := [(3, _), (2, _), (0, _), (1, _)]) dJx4a65c_grow_92f84_30 (by decide) rfl ?_
      refine j_aload_n dJx4a65c_grow_92f84_31 rfl rfl ?_
      refine j_aload_n dJx4a65c_grow_92f84_32 rfl rfl ?_
      refine j_getf dJx4a65c_grow_92f84_33 fJx4a65c_9 ga rfl ?_
      refine j_iload_n dJx4a65c_grow_92f84_36 rfl ?_
      refine j_callS dJx4a65c_grow_92f84_37 kJ7_copyOf_1904c lJx4a65c_66 stJ7_copyOf_1904c (cl_cpB hl w ρ m n (z_nl n) f hρ hf gm (by omega) (z_nl_le2 (by omega)) (fun j hj _ => z_elK hel hA (by omega))) (Nat.le_of_ble_eq_true rfl) ⟨(Nat.le_of_ble_eq_true rfl), (by show _ ≤ 2 * M + 10; omega)⟩ rfl (Nat.le_of_ble_eq_true rfl) rfl rfl (fun _ _ h => h.elim) ?_
      rintro _ w1 ⟨m9, g9, rfl, fw1, c1, c2, c3, c4, c5, c6⟩
      have hf1 := fw1.2.1 hf
      have g1_a := c5 a _ ga
      refine j_dup_x1 dJx4a65c_grow_92f84_40 rfl rfl ?_
      refine j_put (w' := _) dJx4a65c_grow_92f84_41 fJx4a65c_9 tJx4a65c_1 g1_a (Or.inr ⟨_, rfl⟩) rfl ?_
      refine j_seal h.1 ?_
      intro w2 u2
      have g2_m2 := (u2.2.1 _ (Ne.symm (c3 a _ ga))).trans c4
      have g2_a := u2.1
      have hf2 := u2.2.2.2 hf1
      refine j_aret dJx4a65c_grow_92f84_44 rfl (Or.inr ⟨_, rfl⟩) rfl ?_ (Nat.le_of_ble_eq_true rfl) (by show _ ≤ 2 * M + 10; omega)
      exact ⟨m9, _, g9, rfl, (fw1.tr (u2.fw h.1 h.2.1)), ⟨c1, c2, Ne.symm (c3 a _ ga), g2_a, g2_m2, Nat.le_of_lt (Nat.lt_of_le_of_lt a6 (z_nl_lt n)), z_nl_le2 (by omega), fun q v hq => by have hq2 := (List.getElem?_eq_some_iff.mp hq).1; rw [c6 q (by omega) (by have := z_nl_lt n; omega)]; exact a8 q v hq⟩, Nat.lt_of_le_of_lt a6 (z_nl_lt n)⟩
    · refine j_aload_n dJx4a65c_grow_92f84_10 rfl rfl ?_
      refine j_getf dJx4a65c_grow_92f84_11 fJx4a65c_9 ga rfl ?_
      refine j_gets dJx4a65c_grow_92f84_14 (List.mem_of_getElem? (i := 2) rfl) rfl (z_w 1353 ((lwt_6_3 18).trans rfl) (by decide +kernel)) ?_
      refine j_acmp_eqR (tgt := 45) dJx4a65c_grow_92f84_17 (by decide) ?_
      refine j_iload_n dJx4a65c_grow_92f84_20 rfl ?_
      refine j_iload_n dJx4a65c_grow_92f84_21 rfl ?_
      refine j_iload_n dJx4a65c_grow_92f84_22 rfl ?_
      refine j_isub dJx4a65c_grow_92f84_23 ?_
      refine j_top (congrArg Value.int (show nI (L.length + 1) - nI n = Int32.ofInt 1 by rw [hn]; exact nI_sub1 _)) ?_
      refine j_iload_n dJx4a65c_grow_92f84_24 rfl ?_
      refine j_iconst (v := 1) dJx4a65c_grow_92f84_25 (by decide) ?_
      refine j_ishr dJx4a65c_grow_92f84_26 ?_
      refine j_top (congrArg Value.int (nI_shr (n := n) (by omega))) ?_
      refine j_callS dJx4a65c_grow_92f84_27 kJ8_newLength_cabcc lJx4a65c_73 stJ8_newLength_cabcc (cl_newL hl w n (by omega)) (Nat.le_of_ble_eq_true rfl) ⟨(Nat.le_of_ble_eq_true rfl), (Nat.le_of_ble_eq_true rfl)⟩ rfl (Nat.le_of_ble_eq_true rfl) rfl rfl (fun _ _ h => h.elim) ?_
      rintro _ _ ⟨rfl, hw8⟩
      refine j_w w hw8 ?_
      refine j_istore_n (lo' := [(3, _), (2, _), (0, _), (1, _)]) dJx4a65c_grow_92f84_30 (by decide) rfl ?_
      refine j_aload_n dJx4a65c_grow_92f84_31 rfl rfl ?_
      refine j_aload_n dJx4a65c_grow_92f84_32 rfl rfl ?_
      refine j_getf dJx4a65c_grow_92f84_33 fJx4a65c_9 ga rfl ?_
      refine j_iload_n dJx4a65c_grow_92f84_36 rfl ?_
      refine j_callS dJx4a65c_grow_92f84_37 kJ7_copyOf_1904c lJx4a65c_66 stJ7_copyOf_1904c (cl_cpB hl w ρ m n (z_nl n) f hρ hf gm (by omega) (z_nl_le2 (by omega)) (fun j hj _ => z_elK hel hA (by omega))) (Nat.le_of_ble_eq_true rfl) ⟨(Nat.le_of_ble_eq_true rfl), (by show _ ≤ 2 * M + 10; omega)⟩ rfl (Nat.le_of_ble_eq_true rfl) rfl rfl (fun _ _ h => h.elim) ?_
      rintro _ w3 ⟨m9, g9, rfl, fw3, c1, c2, c3, c4, c5, c6⟩
      have hf3 := fw3.2.1 hf
      have g3_a := c5 a _ ga
      refine j_dup_x1 dJx4a65c_grow_92f84_40 rfl rfl ?_
      refine j_put (w' := _) dJx4a65c_grow_92f84_41 fJx4a65c_9 tJx4a65c_1 g3_a (Or.inr ⟨_, rfl⟩) rfl ?_
      refine j_seal h.1 ?_
      intro w4 u4
      have g4_m2 := (u4.2.1 _ (Ne.symm (c3 a _ ga))).trans c4
      have g4_a := u4.1
      have hf4 := u4.2.2.2 hf3
      refine j_aret dJx4a65c_grow_92f84_44 rfl (Or.inr ⟨_, rfl⟩) rfl ?_ (Nat.le_of_ble_eq_true rfl) (by show _ ≤ 2 * M + 10; omega)
      exact ⟨m9, _, g9, rfl, (fw3.tr (u4.fw h.1 h.2.1)), ⟨c1, c2, Ne.symm (c3 a _ ga), g4_a, g4_m2, Nat.le_of_lt (Nat.lt_of_le_of_lt a6 (z_nl_lt n)), z_nl_le2 (by omega), fun q v hq => by have hq2 := (List.getElem?_eq_some_iff.mp hq).1; rw [c6 q (by omega) (by have := z_nl_lt n; omega)]; exact a8 q v hq⟩, Nat.lt_of_le_of_lt a6 (z_nl_lt n)⟩
  · subst hL
    have hnl : z_nl 0 ≤ 2 * M + 10 := z_nl_le (Nat.zero_le _)
    refine z_body hl (by decide) rfl (Nat.le_of_ble_eq_true rfl) ?_
    show z_J G l mJx4a65c_grow_92f84 _ 0 [(0, _), (1, _)] [] _ 0 0
    refine j_aload_n dJx4a65c_grow_92f84_0 rfl rfl ?_
    refine j_getf dJx4a65c_grow_92f84_1 fJx4a65c_9 ga rfl ?_
    refine j_alenK (k := k) (N := 0) dJx4a65c_grow_92f84_4 (fun U q h hkq => h.2.2.2.1 k q hk hkq) ?_
    refine j_istore_n (lo' := [(2, _), (0, _), (1, _)]) dJx4a65c_grow_92f84_5 (by decide) rfl ?_
    refine j_iload_n dJx4a65c_grow_92f84_6 rfl ?_
    refine j_if_gt (tgt := 20) dJx4a65c_grow_92f84_7 (by decide) (fun c_7_7 => ?_) (fun c_7_7 => ?_)
    · exact absurd c_7_7 (by decide)
    · refine j_aload_n dJx4a65c_grow_92f84_10 rfl rfl ?_
      refine j_getf dJx4a65c_grow_92f84_11 fJx4a65c_9 ga rfl ?_
      refine j_gets dJx4a65c_grow_92f84_14 (List.mem_of_getElem? (i := 2) rfl) rfl (z_w 1353 ((lwt_6_3 18).trans rfl) (by decide +kernel)) ?_
      refine j_acmp_eqKK (tgt := 45) dJx4a65c_grow_92f84_17 (by decide) ?_ ?_
      · refine j_aload_n dJx4a65c_grow_92f84_45 rfl rfl ?_
        refine j_bipush (v := 10) dJx4a65c_grow_92f84_46 (by decide) ?_
        refine j_iload_n dJx4a65c_grow_92f84_48 rfl ?_
        refine j_mmax dJx4a65c_grow_92f84_49 lJx4a65c_79 (Nat.le_of_ble_eq_true rfl) (Nat.le_of_ble_eq_true rfl) (Nat.le_of_ble_eq_true rfl) (by show _ ≤ 2 * M + 10; omega) ?_
        refine j_top (congrArg Value.int (show _ = nI 10 by decide)) ?_
        obtain ⟨x1, hx1a, hx1b, hx1c⟩ := z_fresh ρ hρ hf
        have n_a_x1 := z_neF hx1c ga
        refine j_anew (kd := 3) (N := 10) (w' := _) (n := x1) dJx4a65c_grow_92f84_52 rfl aJx4a65c_7 ao_Object (nI_pos (by omega)) (z_cla (by omega)) (by omega) (z_alW hx1c hx1a) (Nat.le_of_ble_eq_true rfl) (by show _ ≤ 2 * M + 10; omega) ?_
        refine j_seal hx1a ?_
        intro w1 u1
        have g1_a := (u1.2.1 _ n_a_x1).trans ga
        have g1_x1 := u1.1
        have hf1 := u1.2.2.2 hf
        refine j_dup_x1 dJx4a65c_grow_92f84_55 rfl rfl ?_
        refine j_put (w' := _) dJx4a65c_grow_92f84_56 fJx4a65c_9 tJx4a65c_1 g1_a (Or.inr ⟨_, rfl⟩) rfl ?_
        refine j_seal h.1 ?_
        intro w2 u2
        have g2_x1 := (u2.2.1 _ (Ne.symm n_a_x1)).trans g1_x1
        have g2_a := u2.1
        have hf2 := u2.2.2.2 hf1
        refine j_aret dJx4a65c_grow_92f84_59 rfl (Or.inr ⟨_, rfl⟩) rfl ?_ (Nat.le_of_ble_eq_true rfl) (by show _ ≤ 2 * M + 10; omega)
        exact ⟨x1, 10, _, rfl, ((u1.fw hx1a hx1b).tr (u2.fw h.1 h.2.1)), ⟨hx1a, hx1b, Ne.symm n_a_x1, g2_a, g2_x1, Nat.zero_le _, by omega, fun q v hq => by simp at hq⟩, by decide⟩
      · refine j_iload_n dJx4a65c_grow_92f84_20 rfl ?_
        refine j_iload_n dJx4a65c_grow_92f84_21 rfl ?_
        refine j_iload_n dJx4a65c_grow_92f84_22 rfl ?_
        refine j_isub dJx4a65c_grow_92f84_23 ?_
        refine j_top (congrArg Value.int (show nI (0 + 1) - nI 0 = Int32.ofInt 1 by exact nI_sub1 0)) ?_
        refine j_iload_n dJx4a65c_grow_92f84_24 rfl ?_
        refine j_iconst (v := 1) dJx4a65c_grow_92f84_25 (by decide) ?_
        refine j_ishr dJx4a65c_grow_92f84_26 ?_
        refine j_top (congrArg Value.int (nI_shr (n := 0) (by omega))) ?_
        refine j_callS dJx4a65c_grow_92f84_27 kJ8_newLength_cabcc lJx4a65c_73 stJ8_newLength_cabcc (cl_newL hl w 0 (by omega)) (Nat.le_of_ble_eq_true rfl) ⟨(Nat.le_of_ble_eq_true rfl), (Nat.le_of_ble_eq_true rfl)⟩ rfl (Nat.le_of_ble_eq_true rfl) rfl rfl (fun _ _ h => h.elim) ?_
        rintro _ _ ⟨rfl, hw9⟩
        refine j_w w hw9 ?_
        refine j_istore_n (lo' := [(3, _), (2, _), (0, _), (1, _)]) dJx4a65c_grow_92f84_30 (by decide) rfl ?_
        refine j_aload_n dJx4a65c_grow_92f84_31 rfl rfl ?_
        refine j_aload_n dJx4a65c_grow_92f84_32 rfl rfl ?_
        refine j_getf dJx4a65c_grow_92f84_33 fJx4a65c_9 ga rfl ?_
        refine j_iload_n dJx4a65c_grow_92f84_36 rfl ?_
        refine j_callS dJx4a65c_grow_92f84_37 kJ7_copyOf_1904c lJx4a65c_66 stJ7_copyOf_1904c (cl_cpBK hl w ρ k (z_nl 0) hρ hf hk (by decide)) (Nat.le_of_ble_eq_true rfl) ⟨(Nat.le_of_ble_eq_true rfl), (by show _ ≤ 2 * M + 10; omega)⟩ rfl (Nat.le_of_ble_eq_true rfl) rfl rfl (fun _ _ h => h.elim) ?_
        rintro _ w3 ⟨m9, g9, rfl, fw3, c1, c2, c3, c4, c5⟩
        have hf3 := fw3.2.1 hf
        have g3_a := c5 a _ ga
        refine j_dup_x1 dJx4a65c_grow_92f84_40 rfl rfl ?_
        refine j_put (w' := _) dJx4a65c_grow_92f84_41 fJx4a65c_9 tJx4a65c_1 g3_a (Or.inr ⟨_, rfl⟩) rfl ?_
        refine j_seal h.1 ?_
        intro w4 u4
        have g4_m2 := (u4.2.1 _ (Ne.symm (c3 a _ ga))).trans c4
        have g4_a := u4.1
        have hf4 := u4.2.2.2 hf3
        refine j_aret dJx4a65c_grow_92f84_44 rfl (Or.inr ⟨_, rfl⟩) rfl ?_ (Nat.le_of_ble_eq_true rfl) (by show _ ≤ 2 * M + 10; omega)
        exact ⟨m9, _, g9, rfl, (fw3.tr (u4.fw h.1 h.2.1)), ⟨c1, c2, Ne.symm (c3 a _ ga), g4_a, g4_m2, Nat.zero_le _, z_nl_le2 (by omega), fun q v hq => by simp at hq⟩, Nat.lt_of_le_of_lt (Nat.zero_le _) (z_nl_lt 0)⟩
set_option maxRecDepth 100000 in
set_option maxHeartbeats 8000000 in
theorem cl_grow (hl : l.stackTraces = false) (w : z_W) (ρ a : Nat) (mo : Int32) (L : List Value) (M : Nat) (h : z_li w ρ a mo L) (hρ : ρ < 64) (hf : z_fn w) (hM : L.length ≤ M) (hM2 : M ≤ 1000) (hel : ∀ v ∈ L, z_el ρ w v) (hfull : ∀ m n f, z_liA w ρ a mo L m n f → n = L.length) : z_Con G l mJx4a65c_grow_d5877 15 1 (2 * M + 10) w [.ref a] (fun v w9 => ∃ (m9 n9 : Nat) (g : Nat → Value), v = some (.ref m9) ∧ z_fw ρ w w9 ∧ z_liA w9 ρ a mo L m9 n9 g ∧ L.length < n9) (fun _ _ => False) := by
  obtain ⟨v0, hv0, ga⟩ := h.cell
  refine z_body hl (by decide) rfl (Nat.le_of_ble_eq_true rfl) ?_
  show z_J G l mJx4a65c_grow_d5877 _ 0 [(0, _)] [] _ 0 0
  refine j_aload_n dJx4a65c_grow_d5877_0 rfl rfl ?_
  refine j_aload_n dJx4a65c_grow_d5877_1 rfl rfl ?_
  refine j_getf dJx4a65c_grow_d5877_2 fJx4a65c_48 ga rfl ?_
  refine j_iconst (v := 1) dJx4a65c_grow_d5877_5 (by decide) ?_
  refine j_iadd dJx4a65c_grow_d5877_6 ?_
  refine j_top (congrArg Value.int (nI_1 L.length)) ?_
  refine j_callV (q := (RJx4a65c, TJx4a65c, 3)) dJx4a65c_grow_d5877_7 kJx4a65c_grow_92f84 lJx4a65c_69 inJx4a65c_grow_92f84 seJx4a65c_grow_92f84 ga rfl (cl_growI hl w ρ a mo L M h hρ hf hM hM2 hel hfull) (Nat.le_of_ble_eq_true rfl) ⟨(Nat.le_of_ble_eq_true rfl), (by show _ ≤ 2 * M + 10; omega)⟩ rfl (Nat.le_of_ble_eq_true rfl) rfl rfl (fun _ _ h => h.elim) ?_
  rintro _ w1 ⟨m9, n9, g9, rfl, fw1, hA9, hl9⟩
  refine j_aret dJx4a65c_grow_d5877_10 rfl (Or.inr ⟨_, rfl⟩) rfl ?_ (Nat.le_of_ble_eq_true rfl) (by show _ ≤ 2 * M + 10; omega)
  exact ⟨m9, n9, g9, rfl, fw1, hA9, hl9⟩
set_option maxRecDepth 100000 in
set_option maxHeartbeats 8000000 in
theorem cl_addA (hl : l.stackTraces = false) (w : z_W) (ρ a : Nat) (mo : Int32) (L : List Value) (M : Nat) (x v0 : Value) (h : z_li w ρ a mo L) (hρ : ρ < 64) (hf : z_fn w) (hM : L.length ≤ M) (hM2 : M ≤ 1000) (hel : ∀ v ∈ L, z_el ρ w v) (hx : z_el ρ w x) (hg : z_g w a = some (.inr (4, [.int mo, v0, .int (nI L.length)]))) (hv0 : z_ir v0 = true) : z_Con G l mJx4a65c_add_72be8 16 1 (2 * M + 10) w [.ref a, x, v0, .int (nI L.length)] (fun v w9 => v = none ∧ z_fw ρ w w9 ∧ z_li w9 ρ a mo (L ++ [x])) (fun _ _ => False) := by
  obtain ⟨C, hC1, hC2⟩ := hx.2
  rcases hx.1 with ⟨bx, rfl⟩ | ⟨rx, rfl, hrx⟩ <;> rcases h.2.2.2 with ⟨m, n, f, hA⟩ | ⟨k, hL, hk, ga⟩
  · obtain ⟨a1, a2, a3, ga, gm, a6, a7, a8⟩ := id hA
    have e9 := (z_inj3 (hg.symm.trans ga)).2.1
    subst e9
    refine z_body hl (by decide) rfl (Nat.le_of_ble_eq_true rfl) ?_
    show z_J G l mJx4a65c_add_72be8 _ 0 [(0, _), (1, _), (2, _), (3, _)] [] _ 0 0
    refine j_iload_n dJx4a65c_add_72be8_0 rfl ?_
    refine j_aload_n dJx4a65c_add_72be8_1 rfl rfl ?_
    refine j_alen dJx4a65c_add_72be8_2 gm rfl rfl ?_
    refine j_icmp_ne (tgt := 11) dJx4a65c_add_72be8_3 (by decide) (fun c_3_5 => ?_) (fun c_3_5 => ?_)
    · have hlt : L.length < n := by rcases Nat.lt_or_eq_of_le a6 with h1 | h1; exact h1; exact absurd (congrArg nI h1) c_3_5
      refine j_aload_n dJx4a65c_add_72be8_11 rfl rfl ?_
      refine j_iload_n dJx4a65c_add_72be8_12 rfl ?_
      refine j_aload_n dJx4a65c_add_72be8_13 rfl hx.ir ?_
      refine j_aastO (w' := _) dJx4a65c_add_72be8_14 gm rfl hC1 hC2 (vp_in_nI (by omega) (by omega)) rfl ?_
      refine j_seal a1 ?_
      intro w1 u1
      have g1_a := (u1.2.1 _ (Ne.symm a3)).trans ga
      have g1_m := u1.1
      have hf1 := u1.2.2.2 hf
      refine j_aload_n dJx4a65c_add_72be8_15 rfl rfl ?_
      refine j_iload_n dJx4a65c_add_72be8_16 rfl ?_
      refine j_iconst (v := 1) dJx4a65c_add_72be8_17 (by decide) ?_
      refine j_iadd dJx4a65c_add_72be8_18 ?_
      refine j_top (congrArg Value.int (nI_1 L.length)) ?_
      refine j_put (w' := _) dJx4a65c_add_72be8_19 fJx4a65c_48 tJx4a65c_2 g1_a ⟨rfl, rfl⟩ rfl ?_
      refine j_seal h.1 ?_
      intro w2 u2
      have g2_m := (u2.2.1 _ a3).trans g1_m
      have g2_a := u2.1
      have hf2 := u2.2.2.2 hf1
      refine j_vret dJx4a65c_add_72be8_22 rfl ?_ (Nat.le_of_ble_eq_true rfl) (by show _ ≤ 2 * M + 10; omega)
      exact ⟨rfl, ((u1.fw a1 a2).tr (u2.fw h.1 h.2.1)), z_li.of h.1 h.2.1 (z_irA h.2.2.1 hx.ir) ⟨a1, a2, a3, by rw [z_lenA]; exact g2_a, g2_m, by rw [z_lenA]; omega, a7, z_conA a7 (by omega) a8⟩⟩
    · have hfl : L.length = n := nI_inj c_3_5 (by omega) (by omega)
      refine j_aload_n dJx4a65c_add_72be8_6 rfl rfl ?_
      refine j_callV (q := (RJx4a65c, TJx4a65c, 3)) dJx4a65c_add_72be8_7 kJx4a65c_grow_d5877 lJx4a65c_129 inJx4a65c_grow_d5877 seJx4a65c_grow_d5877 ga rfl (cl_grow hl w ρ a mo _ M h hρ hf hM hM2 hel (fun m2 n2 f2 h2 => by obtain ⟨-, -, -, h4, h5, -⟩ := h2; have e := (z_inj3 (h4.symm.trans ga)).2.1; cases e; have e5 := h5.symm.trans gm; cases e5; omega)) (Nat.le_of_ble_eq_true rfl) ⟨(Nat.le_of_ble_eq_true rfl), (by show _ ≤ 2 * M + 10; omega)⟩ rfl (Nat.le_of_ble_eq_true rfl) rfl rfl (fun _ _ h => h.elim) ?_
      rintro _ w3 ⟨m9, n9, g9, rfl, fw3, hA9, hl9⟩
      have hf3 := fw3.2.1 hf
      obtain ⟨b1, b2, b3, gb_a, gb_m, b6, b7, b8⟩ := id hA9
      obtain ⟨C9, hD1, hD2⟩ := (hx.m fw3.2.2).2
      refine j_astore_n (lo' := [(2, _), (0, _), (1, _), (3, _)]) dJx4a65c_add_72be8_10 rfl (by decide) rfl ?_
      refine j_aload_n dJx4a65c_add_72be8_11 rfl rfl ?_
      refine j_iload_n dJx4a65c_add_72be8_12 rfl ?_
      refine j_aload_n dJx4a65c_add_72be8_13 rfl hx.ir ?_
      refine j_aastO (w' := _) dJx4a65c_add_72be8_14 gb_m rfl hD1 hD2 (vp_in_nI (by omega) (by omega)) rfl ?_
      refine j_seal b1 ?_
      intro w4 u4
      have g4_a := (u4.2.1 _ (Ne.symm b3)).trans gb_a
      have g4_m2 := u4.1
      have hf4 := u4.2.2.2 hf3
      refine j_aload_n dJx4a65c_add_72be8_15 rfl rfl ?_
      refine j_iload_n dJx4a65c_add_72be8_16 rfl ?_
      refine j_iconst (v := 1) dJx4a65c_add_72be8_17 (by decide) ?_
      refine j_iadd dJx4a65c_add_72be8_18 ?_
      refine j_top (congrArg Value.int (nI_1 L.length)) ?_
      refine j_put (w' := _) dJx4a65c_add_72be8_19 fJx4a65c_48 tJx4a65c_2 g4_a ⟨rfl, rfl⟩ rfl ?_
      refine j_seal h.1 ?_
      intro w5 u5
      have g5_m2 := (u5.2.1 _ b3).trans g4_m2
      have g5_a := u5.1
      have hf5 := u5.2.2.2 hf4
      refine j_vret dJx4a65c_add_72be8_22 rfl ?_ (Nat.le_of_ble_eq_true rfl) (by show _ ≤ 2 * M + 10; omega)
      exact ⟨rfl, ((fw3.tr (u4.fw b1 b2)).tr (u5.fw h.1 h.2.1)), z_li.of h.1 h.2.1 (z_irA h.2.2.1 hx.ir) ⟨b1, b2, b3, by rw [z_lenA]; exact g5_a, g5_m2, by rw [z_lenA]; omega, b7, z_conA b7 hl9 b8⟩⟩
  · subst hL
    have e9 := (z_inj3 (hg.symm.trans ga)).2.1
    subst e9
    refine z_body hl (by decide) rfl (Nat.le_of_ble_eq_true rfl) ?_
    show z_J G l mJx4a65c_add_72be8 _ 0 [(0, _), (1, _), (2, _), (3, _)] [] _ 0 0
    refine j_iload_n dJx4a65c_add_72be8_0 rfl ?_
    refine j_aload_n dJx4a65c_add_72be8_1 rfl rfl ?_
    refine j_alenK (k := k) (N := 0) dJx4a65c_add_72be8_2 (fun U q h hkq => h.2.2.2.1 k q hk hkq) ?_
    refine j_icmp_ne (tgt := 11) dJx4a65c_add_72be8_3 (by decide) (fun c_3_5 => ?_) (fun c_3_5 => ?_)
    · exact absurd rfl c_3_5
    · refine j_aload_n dJx4a65c_add_72be8_6 rfl rfl ?_
      refine j_callV (q := (RJx4a65c, TJx4a65c, 3)) dJx4a65c_add_72be8_7 kJx4a65c_grow_d5877 lJx4a65c_129 inJx4a65c_grow_d5877 seJx4a65c_grow_d5877 ga rfl (cl_grow hl w ρ a mo _ M h hρ hf hM hM2 hel (fun m2 n2 f2 h2 => by obtain ⟨-, -, -, h4, -⟩ := h2; have e := (z_inj3 (h4.symm.trans ga)).2.1; cases e)) (Nat.le_of_ble_eq_true rfl) ⟨(Nat.le_of_ble_eq_true rfl), (by show _ ≤ 2 * M + 10; omega)⟩ rfl (Nat.le_of_ble_eq_true rfl) rfl rfl (fun _ _ h => h.elim) ?_
      rintro _ w1 ⟨m9, n9, g9, rfl, fw1, hA9, hl9⟩
      have hf1 := fw1.2.1 hf
      obtain ⟨b1, b2, b3, gb_a, gb_m, b6, b7, b8⟩ := id hA9
      obtain ⟨C9, hD1, hD2⟩ := (hx.m fw1.2.2).2
      refine j_astore_n (lo' := [(2, _), (0, _), (1, _), (3, _)]) dJx4a65c_add_72be8_10 rfl (by decide) rfl ?_
      refine j_aload_n dJx4a65c_add_72be8_11 rfl rfl ?_
      refine j_iload_n dJx4a65c_add_72be8_12 rfl ?_
      refine j_aload_n dJx4a65c_add_72be8_13 rfl hx.ir ?_
      refine j_aastO (w' := _) dJx4a65c_add_72be8_14 gb_m rfl hD1 hD2 (vp_in_nI (by omega) (by omega)) rfl ?_
      refine j_seal b1 ?_
      intro w2 u2
      have g2_a := (u2.2.1 _ (Ne.symm b3)).trans gb_a
      have g2_m2 := u2.1
      have hf2 := u2.2.2.2 hf1
      refine j_aload_n dJx4a65c_add_72be8_15 rfl rfl ?_
      refine j_iload_n dJx4a65c_add_72be8_16 rfl ?_
      refine j_iconst (v := 1) dJx4a65c_add_72be8_17 (by decide) ?_
      refine j_iadd dJx4a65c_add_72be8_18 ?_
      refine j_top (congrArg Value.int (nI_1 0)) ?_
      refine j_put (w' := _) dJx4a65c_add_72be8_19 fJx4a65c_48 tJx4a65c_2 g2_a ⟨rfl, rfl⟩ rfl ?_
      refine j_seal h.1 ?_
      intro w3 u3
      have g3_m2 := (u3.2.1 _ b3).trans g2_m2
      have g3_a := u3.1
      have hf3 := u3.2.2.2 hf2
      refine j_vret dJx4a65c_add_72be8_22 rfl ?_ (Nat.le_of_ble_eq_true rfl) (by show _ ≤ 2 * M + 10; omega)
      exact ⟨rfl, ((fw1.tr (u2.fw b1 b2)).tr (u3.fw h.1 h.2.1)), z_li.of h.1 h.2.1 (z_irA h.2.2.1 hx.ir) ⟨b1, b2, b3, by rw [z_lenA]; exact g3_a, g3_m2, by rw [z_lenA]; omega, b7, z_conA b7 hl9 b8⟩⟩
  · obtain ⟨a1, a2, a3, ga, gm, a6, a7, a8⟩ := id hA
    have e9 := (z_inj3 (hg.symm.trans ga)).2.1
    subst e9
    refine z_body hl (by decide) rfl (Nat.le_of_ble_eq_true rfl) ?_
    show z_J G l mJx4a65c_add_72be8 _ 0 [(0, _), (1, _), (2, _), (3, _)] [] _ 0 0
    refine j_iload_n dJx4a65c_add_72be8_0 rfl ?_
    refine j_aload_n dJx4a65c_add_72be8_1 rfl rfl ?_
    refine j_alen dJx4a65c_add_72be8_2 gm rfl rfl ?_
    refine j_icmp_ne (tgt := 11) dJx4a65c_add_72be8_3 (by decide) (fun c_3_5 => ?_) (fun c_3_5 => ?_)
    · have hlt : L.length < n := by rcases Nat.lt_or_eq_of_le a6 with h1 | h1; exact h1; exact absurd (congrArg nI h1) c_3_5
      refine j_aload_n dJx4a65c_add_72be8_11 rfl rfl ?_
      refine j_iload_n dJx4a65c_add_72be8_12 rfl ?_
      refine j_aload_n dJx4a65c_add_72be8_13 rfl hx.ir ?_
      refine j_aastO (w' := _) dJx4a65c_add_72be8_14 gm rfl hC1 hC2 (vp_in_nI (by omega) (by omega)) rfl ?_
      refine j_seal a1 ?_
      intro w1 u1
      have g1_a := (u1.2.1 _ (Ne.symm a3)).trans ga
      have g1_m := u1.1
      have hf1 := u1.2.2.2 hf
      refine j_aload_n dJx4a65c_add_72be8_15 rfl rfl ?_
      refine j_iload_n dJx4a65c_add_72be8_16 rfl ?_
      refine j_iconst (v := 1) dJx4a65c_add_72be8_17 (by decide) ?_
      refine j_iadd dJx4a65c_add_72be8_18 ?_
      refine j_top (congrArg Value.int (nI_1 L.length)) ?_
      refine j_put (w' := _) dJx4a65c_add_72be8_19 fJx4a65c_48 tJx4a65c_2 g1_a ⟨rfl, rfl⟩ rfl ?_
      refine j_seal h.1 ?_
      intro w2 u2
      have g2_m := (u2.2.1 _ a3).trans g1_m
      have g2_a := u2.1
      have hf2 := u2.2.2.2 hf1
      refine j_vret dJx4a65c_add_72be8_22 rfl ?_ (Nat.le_of_ble_eq_true rfl) (by show _ ≤ 2 * M + 10; omega)
      exact ⟨rfl, ((u1.fw a1 a2).tr (u2.fw h.1 h.2.1)), z_li.of h.1 h.2.1 (z_irA h.2.2.1 hx.ir) ⟨a1, a2, a3, by rw [z_lenA]; exact g2_a, g2_m, by rw [z_lenA]; omega, a7, z_conA a7 (by omega) a8⟩⟩
    · have hfl : L.length = n := nI_inj c_3_5 (by omega) (by omega)
      refine j_aload_n dJx4a65c_add_72be8_6 rfl rfl ?_
      refine j_callV (q := (RJx4a65c, TJx4a65c, 3)) dJx4a65c_add_72be8_7 kJx4a65c_grow_d5877 lJx4a65c_129 inJx4a65c_grow_d5877 seJx4a65c_grow_d5877 ga rfl (cl_grow hl w ρ a mo _ M h hρ hf hM hM2 hel (fun m2 n2 f2 h2 => by obtain ⟨-, -, -, h4, h5, -⟩ := h2; have e := (z_inj3 (h4.symm.trans ga)).2.1; cases e; have e5 := h5.symm.trans gm; cases e5; omega)) (Nat.le_of_ble_eq_true rfl) ⟨(Nat.le_of_ble_eq_true rfl), (by show _ ≤ 2 * M + 10; omega)⟩ rfl (Nat.le_of_ble_eq_true rfl) rfl rfl (fun _ _ h => h.elim) ?_
      rintro _ w3 ⟨m9, n9, g9, rfl, fw3, hA9, hl9⟩
      have hf3 := fw3.2.1 hf
      obtain ⟨b1, b2, b3, gb_a, gb_m, b6, b7, b8⟩ := id hA9
      obtain ⟨C9, hD1, hD2⟩ := (hx.m fw3.2.2).2
      refine j_astore_n (lo' := [(2, _), (0, _), (1, _), (3, _)]) dJx4a65c_add_72be8_10 rfl (by decide) rfl ?_
      refine j_aload_n dJx4a65c_add_72be8_11 rfl rfl ?_
      refine j_iload_n dJx4a65c_add_72be8_12 rfl ?_
      refine j_aload_n dJx4a65c_add_72be8_13 rfl hx.ir ?_
      refine j_aastO (w' := _) dJx4a65c_add_72be8_14 gb_m rfl hD1 hD2 (vp_in_nI (by omega) (by omega)) rfl ?_
      refine j_seal b1 ?_
      intro w4 u4
      have g4_a := (u4.2.1 _ (Ne.symm b3)).trans gb_a
      have g4_m2 := u4.1
      have hf4 := u4.2.2.2 hf3
      refine j_aload_n dJx4a65c_add_72be8_15 rfl rfl ?_
      refine j_iload_n dJx4a65c_add_72be8_16 rfl ?_
      refine j_iconst (v := 1) dJx4a65c_add_72be8_17 (by decide) ?_
      refine j_iadd dJx4a65c_add_72be8_18 ?_
      refine j_top (congrArg Value.int (nI_1 L.length)) ?_
      refine j_put (w' := _) dJx4a65c_add_72be8_19 fJx4a65c_48 tJx4a65c_2 g4_a ⟨rfl, rfl⟩ rfl ?_
      refine j_seal h.1 ?_
      intro w5 u5
      have g5_m2 := (u5.2.1 _ b3).trans g4_m2
      have g5_a := u5.1
      have hf5 := u5.2.2.2 hf4
      refine j_vret dJx4a65c_add_72be8_22 rfl ?_ (Nat.le_of_ble_eq_true rfl) (by show _ ≤ 2 * M + 10; omega)
      exact ⟨rfl, ((fw3.tr (u4.fw b1 b2)).tr (u5.fw h.1 h.2.1)), z_li.of h.1 h.2.1 (z_irA h.2.2.1 hx.ir) ⟨b1, b2, b3, by rw [z_lenA]; exact g5_a, g5_m2, by rw [z_lenA]; omega, b7, z_conA b7 hl9 b8⟩⟩
  · subst hL
    have e9 := (z_inj3 (hg.symm.trans ga)).2.1
    subst e9
    refine z_body hl (by decide) rfl (Nat.le_of_ble_eq_true rfl) ?_
    show z_J G l mJx4a65c_add_72be8 _ 0 [(0, _), (1, _), (2, _), (3, _)] [] _ 0 0
    refine j_iload_n dJx4a65c_add_72be8_0 rfl ?_
    refine j_aload_n dJx4a65c_add_72be8_1 rfl rfl ?_
    refine j_alenK (k := k) (N := 0) dJx4a65c_add_72be8_2 (fun U q h hkq => h.2.2.2.1 k q hk hkq) ?_
    refine j_icmp_ne (tgt := 11) dJx4a65c_add_72be8_3 (by decide) (fun c_3_5 => ?_) (fun c_3_5 => ?_)
    · exact absurd rfl c_3_5
    · refine j_aload_n dJx4a65c_add_72be8_6 rfl rfl ?_
      refine j_callV (q := (RJx4a65c, TJx4a65c, 3)) dJx4a65c_add_72be8_7 kJx4a65c_grow_d5877 lJx4a65c_129 inJx4a65c_grow_d5877 seJx4a65c_grow_d5877 ga rfl (cl_grow hl w ρ a mo _ M h hρ hf hM hM2 hel (fun m2 n2 f2 h2 => by obtain ⟨-, -, -, h4, -⟩ := h2; have e := (z_inj3 (h4.symm.trans ga)).2.1; cases e)) (Nat.le_of_ble_eq_true rfl) ⟨(Nat.le_of_ble_eq_true rfl), (by show _ ≤ 2 * M + 10; omega)⟩ rfl (Nat.le_of_ble_eq_true rfl) rfl rfl (fun _ _ h => h.elim) ?_
      rintro _ w1 ⟨m9, n9, g9, rfl, fw1, hA9, hl9⟩
      have hf1 := fw1.2.1 hf
      obtain ⟨b1, b2, b3, gb_a, gb_m, b6, b7, b8⟩ := id hA9
      obtain ⟨C9, hD1, hD2⟩ := (hx.m fw1.2.2).2
      refine j_astore_n (lo' := [(2, _), (0, _), (1, _), (3, _)]) dJx4a65c_add_72be8_10 rfl (by decide) rfl ?_
      refine j_aload_n dJx4a65c_add_72be8_11 rfl rfl ?_
      refine j_iload_n dJx4a65c_add_72be8_12 rfl ?_
      refine j_aload_n dJx4a65c_add_72be8_13 rfl hx.ir ?_
      refine j_aastO (w' := _) dJx4a65c_add_72be8_14 gb_m rfl hD1 hD2 (vp_in_nI (by omega) (by omega)) rfl ?_
      refine j_seal b1 ?_
      intro w2 u2
      have g2_a := (u2.2.1 _ (Ne.symm b3)).trans gb_a
      have g2_m2 := u2.1
      have hf2 := u2.2.2.2 hf1
      refine j_aload_n dJx4a65c_add_72be8_15 rfl rfl ?_
      refine j_iload_n dJx4a65c_add_72be8_16 rfl ?_
      refine j_iconst (v := 1) dJx4a65c_add_72be8_17 (by decide) ?_
      refine j_iadd dJx4a65c_add_72be8_18 ?_
      refine j_top (congrArg Value.int (nI_1 0)) ?_
      refine j_put (w' := _) dJx4a65c_add_72be8_19 fJx4a65c_48 tJx4a65c_2 g2_a ⟨rfl, rfl⟩ rfl ?_
      refine j_seal h.1 ?_
      intro w3 u3
      have g3_m2 := (u3.2.1 _ b3).trans g2_m2
      have g3_a := u3.1
      have hf3 := u3.2.2.2 hf2
      refine j_vret dJx4a65c_add_72be8_22 rfl ?_ (Nat.le_of_ble_eq_true rfl) (by show _ ≤ 2 * M + 10; omega)
      exact ⟨rfl, ((fw1.tr (u2.fw b1 b2)).tr (u3.fw h.1 h.2.1)), z_li.of h.1 h.2.1 (z_irA h.2.2.1 hx.ir) ⟨b1, b2, b3, by rw [z_lenA]; exact g3_a, g3_m2, by rw [z_lenA]; omega, b7, z_conA b7 hl9 b8⟩⟩
set_option maxRecDepth 100000 in
set_option maxHeartbeats 8000000 in
theorem cl_add (hl : l.stackTraces = false) (w : z_W) (ρ a : Nat) (mo : Int32) (L : List Value) (M : Nat) (x : Value) (h : z_li w ρ a mo L) (hρ : ρ < 64) (hf : z_fn w) (hM : L.length ≤ M) (hM2 : M ≤ 1000) (hel : ∀ v ∈ L, z_el ρ w v) (hx : z_el ρ w x) : z_Con G l mJx4a65c_add_9ea2d 17 1 (2 * M + 10) w [.ref a, x] (fun v w9 => v = some (.int (Int32.ofInt 1)) ∧ z_fw ρ w w9 ∧ ∃ mo9, z_li w9 ρ a mo9 (L ++ [x])) (fun _ _ => False) := by
  obtain ⟨v0, hv0, ga⟩ := h.cell
  refine z_body hl (by decide) rfl (by show (lg_sl ([.ref a] ++ x :: [])).length ≤ _; rw [z_lgx hx.ir]; exact Nat.le_of_ble_eq_true rfl) ?_
  show z_J G l mJx4a65c_add_9ea2d _ 0 [(0, _), (1, _)] [] _ 0 0
  refine j_aload_n dJx4a65c_add_9ea2d_0 rfl rfl ?_
  refine j_dup dJx4a65c_add_9ea2d_1 rfl ?_
  refine j_getf dJx4a65c_add_9ea2d_2 fJx4a65c_63 ga rfl ?_
  refine j_iconst (v := 1) dJx4a65c_add_9ea2d_5 (by decide) ?_
  refine j_iadd dJx4a65c_add_9ea2d_6 ?_
  refine j_put (w' := _) dJx4a65c_add_9ea2d_7 fJx4a65c_63 tJx4a65c_0 ga ⟨rfl, rfl⟩ rfl ?_
  refine j_seal h.1 ?_
  intro w1 u1
  have g1_a := u1.1
  have hf1 := u1.2.2.2 hf
  have hl1 := h.md ga u1
  refine j_aload_n dJx4a65c_add_9ea2d_10 rfl rfl ?_
  refine j_aload_n dJx4a65c_add_9ea2d_11 rfl hx.ir ?_
  refine j_aload_n dJx4a65c_add_9ea2d_12 rfl rfl ?_
  refine j_getf dJx4a65c_add_9ea2d_13 fJx4a65c_9 g1_a rfl ?_
  refine j_aload_n dJx4a65c_add_9ea2d_16 rfl rfl ?_
  refine j_getf dJx4a65c_add_9ea2d_17 fJx4a65c_48 g1_a rfl ?_
  refine j_callV (q := (RJx4a65c, TJx4a65c, 3)) dJx4a65c_add_9ea2d_20 kJx4a65c_add_72be8 lJx4a65c_131 inJx4a65c_add_72be8 seJx4a65c_add_72be8 g1_a rfl (cl_addA hl w1 ρ a _ L M x v0 hl1 hρ hf1 hM hM2 (z_elM hel (u1.fw h.1 h.2.1)) (hx.m (u1.fw h.1 h.2.1).2.2) g1_a hv0) (Nat.le_of_ble_eq_true rfl) ⟨(Nat.le_of_ble_eq_true rfl), (by show _ ≤ 2 * M + 10; omega)⟩ rfl (Nat.le_of_ble_eq_true rfl) rfl rfl (fun _ _ h => h.elim) ?_
  rintro _ w2 ⟨rfl, fw2, hr2⟩
  have hf2 := fw2.2.1 hf1
  refine j_iconst (v := 1) dJx4a65c_add_9ea2d_23 (by decide) ?_
  refine j_iret dJx4a65c_add_9ea2d_24 rfl rfl ?_ (Nat.le_of_ble_eq_true rfl) (by show _ ≤ 2 * M + 10; omega)
  exact ⟨rfl, ((u1.fw h.1 h.2.1).tr fw2), _, hr2⟩
set_option maxRecDepth 100000 in
set_option maxHeartbeats 8000000 in
theorem cl_fRem (hl : l.stackTraces = false) (w : z_W) (ρ a : Nat) (mo : Int32) (L : List Value) (m n j : Nat) (f : Nat → Value) (h : z_li w ρ a mo L) (hA : z_liA w ρ a mo L m n f) (hjl : j < L.length) (hf : z_fn w) (hel : ∀ v ∈ L, z_el ρ w v) : z_Con G l mJx4a65c_fastRemove_b59b0 12 0 0 w [.ref a, .ref m, .int (nI j)] (fun v w9 => v = none ∧ z_fw ρ w w9 ∧ ∃ mo9, z_li w9 ρ a mo9 (L.eraseIdx j)) (fun _ _ => False) := by
  obtain ⟨a1, a2, a3, ga, gm, a6, a7, a8⟩ := id hA
  have hL1 : nI L.length - Int32.ofInt 1 = nI (L.length - 1) := by rw [nI_o1]; exact pk_sub (by omega)
  refine z_body hl (by decide) rfl (Nat.le_of_ble_eq_true rfl) ?_
  show z_J G l mJx4a65c_fastRemove_b59b0 _ 0 [(0, _), (1, _), (2, _)] [] _ 0 0
  refine j_aload_n dJx4a65c_fastRemove_b59b0_0 rfl rfl ?_
  refine j_dup dJx4a65c_fastRemove_b59b0_1 rfl ?_
  refine j_getf dJx4a65c_fastRemove_b59b0_2 fJx4a65c_63 ga rfl ?_
  refine j_iconst (v := 1) dJx4a65c_fastRemove_b59b0_5 (by decide) ?_
  refine j_iadd dJx4a65c_fastRemove_b59b0_6 ?_
  refine j_put (w' := _) dJx4a65c_fastRemove_b59b0_7 fJx4a65c_63 tJx4a65c_0 ga ⟨rfl, rfl⟩ rfl ?_
  refine j_seal h.1 ?_
  intro w1 u1
  have g1_m := (u1.2.1 _ a3).trans gm
  have g1_a := u1.1
  have hf1 := u1.2.2.2 hf
  refine j_aload_n dJx4a65c_fastRemove_b59b0_10 rfl rfl ?_
  refine j_getf dJx4a65c_fastRemove_b59b0_11 fJx4a65c_48 g1_a rfl ?_
  refine j_iconst (v := 1) dJx4a65c_fastRemove_b59b0_14 (by decide) ?_
  refine j_isub dJx4a65c_fastRemove_b59b0_15 ?_
  refine j_top (congrArg Value.int hL1) ?_
  refine j_dup dJx4a65c_fastRemove_b59b0_16 rfl ?_
  refine j_istore_n (lo' := [(3, _), (0, _), (1, _), (2, _)]) dJx4a65c_fastRemove_b59b0_17 (by decide) rfl ?_
  refine j_iload_n dJx4a65c_fastRemove_b59b0_18 rfl ?_
  refine j_icmp_le (tgt := 34) dJx4a65c_fastRemove_b59b0_19 (by decide) (fun c_19_21 => ?_) (fun c_19_21 => ?_)
  · have hjk : j + 1 = L.length := by have := (nI_leI (a := L.length - 1) (b := j) (by omega) (by omega)).mp c_19_21; omega
    refine j_aload_n dJx4a65c_fastRemove_b59b0_34 rfl rfl ?_
    refine j_aload_n dJx4a65c_fastRemove_b59b0_35 rfl rfl ?_
    refine j_iload_n dJx4a65c_fastRemove_b59b0_36 rfl ?_
    refine j_dup_x1 dJx4a65c_fastRemove_b59b0_37 rfl rfl ?_
    refine j_put (w' := _) dJx4a65c_fastRemove_b59b0_38 fJx4a65c_48 tJx4a65c_2 g1_a ⟨rfl, rfl⟩ rfl ?_
    refine j_seal h.1 ?_
    intro w2 u2
    have g2_m := (u2.2.1 _ a3).trans g1_m
    have g2_a := u2.1
    have hf2 := u2.2.2.2 hf1
    refine j_null dJx4a65c_fastRemove_b59b0_41 ?_
    refine j_aastN (w' := _) dJx4a65c_fastRemove_b59b0_42 g2_m rfl (vp_in_nI (by omega) (by omega)) rfl ?_
    refine j_seal a1 ?_
    intro w3 u3
    have g3_a := (u3.2.1 _ (Ne.symm a3)).trans g2_a
    have g3_m := u3.1
    have hf3 := u3.2.2.2 hf2
    refine j_vret dJx4a65c_fastRemove_b59b0_43 rfl ?_ (Nat.le_of_ble_eq_true rfl) (Nat.le_of_ble_eq_true rfl)
    exact ⟨rfl, (((u1.fw h.1 h.2.1).tr (u2.fw h.1 h.2.1)).tr (u3.fw a1 a2)), _, z_li.of h.1 h.2.1 (z_irR h.2.2.1) ⟨a1, a2, a3, by rw [z_lenR hjl]; exact g3_a, g3_m, by rw [z_lenR hjl]; omega, a7, z_conR2 a7 (by omega) a6 a8⟩⟩
  · refine j_aload_n dJx4a65c_fastRemove_b59b0_22 rfl rfl ?_
    refine j_iload_n dJx4a65c_fastRemove_b59b0_23 rfl ?_
    refine j_iconst (v := 1) dJx4a65c_fastRemove_b59b0_24 (by decide) ?_
    refine j_iadd dJx4a65c_fastRemove_b59b0_25 ?_
    refine j_top (congrArg Value.int (nI_1 j)) ?_
    refine j_aload_n dJx4a65c_fastRemove_b59b0_26 rfl rfl ?_
    refine j_iload_n dJx4a65c_fastRemove_b59b0_27 rfl ?_
    refine j_iload_n dJx4a65c_fastRemove_b59b0_28 rfl ?_
    refine j_iload_n dJx4a65c_fastRemove_b59b0_29 rfl ?_
    refine j_isub dJx4a65c_fastRemove_b59b0_30 ?_
    refine j_top (congrArg Value.int (pk_sub (a := L.length - 1) (b := j) (by omega))) ?_
    have hjk : j + 1 < L.length := by have h9 : ¬ (L.length - 1 ≤ j) := fun z => c_19_21 ((nI_leI (a := L.length - 1) (b := j) (by omega) (by omega)).mpr z); omega
    have hcp : ∀ i, i < (nI (L.length - 1 - j)).toNatClampNeg → (∃ x, f ((nI (j + 1)).toNatClampNeg + i) = .int x ∧ fits (.object "java/lang/Object") (.int x) = true) ∨ (f ((nI (j + 1)).toNatClampNeg + i) = .null ∧ (FieldType.object "java/lang/Object").isReference = true) ∨ ∃ C E, FieldType.object "java/lang/Object" = .object E ∧ z_is w1 (f ((nI (j + 1)).toNatClampNeg + i)) C ∧ Cond.castable C E ∈ z_nst := fun i hi => by
      rw [z_cla (n := L.length - 1 - j) (by omega)] at hi
      rw [z_cla (n := j + 1) (by omega)]
      rcases z_elK (z_elM hel (u1.fw h.1 h.2.1)) (⟨a1, a2, a3, g1_a, g1_m, a6, a7, a8⟩ : z_liA w1 ρ a _ L m n f) (j := j + 1 + i) (by omega) with h1 | ⟨C, h1, h2⟩
      · exact Or.inr (Or.inl ⟨h1, rfl⟩)
      · exact Or.inr (Or.inr ⟨C, "java/lang/Object", rfl, h1, h2⟩)
    refine j_acopy (w' := _) dJx4a65c_fastRemove_b59b0_31 lJx4a65c_112 ac_n ac_s ac_i g1_m g1_m rfl (nI_pos (by omega)) (nI_pos (by omega)) (nI_pos (by omega)) (by rw [z_cla (n := (j + 1)) (by omega), z_cla (n := (L.length - 1 - j)) (by omega)]; omega) (by rw [z_cla (n := j) (by omega), z_cla (n := (L.length - 1 - j)) (by omega)]; omega) hcp (Nat.le_of_ble_eq_true rfl) (Nat.le_of_ble_eq_true rfl) rfl ?_
    refine j_seal a1 ?_
    intro w4 u4
    have g4_a := (u4.2.1 _ (Ne.symm a3)).trans g1_a
    have g4_m := u4.1
    have hf4 := u4.2.2.2 hf1
    refine j_aload_n dJx4a65c_fastRemove_b59b0_34 rfl rfl ?_
    refine j_aload_n dJx4a65c_fastRemove_b59b0_35 rfl rfl ?_
    refine j_iload_n dJx4a65c_fastRemove_b59b0_36 rfl ?_
    refine j_dup_x1 dJx4a65c_fastRemove_b59b0_37 rfl rfl ?_
    refine j_put (w' := _) dJx4a65c_fastRemove_b59b0_38 fJx4a65c_48 tJx4a65c_2 g4_a ⟨rfl, rfl⟩ rfl ?_
    refine j_seal h.1 ?_
    intro w5 u5
    have g5_m := (u5.2.1 _ a3).trans g4_m
    have g5_a := u5.1
    have hf5 := u5.2.2.2 hf4
    refine j_null dJx4a65c_fastRemove_b59b0_41 ?_
    refine j_aastN (w' := _) dJx4a65c_fastRemove_b59b0_42 g5_m rfl (vp_in_nI (by omega) (by omega)) rfl ?_
    refine j_seal a1 ?_
    intro w6 u6
    have g6_a := (u6.2.1 _ (Ne.symm a3)).trans g5_a
    have g6_m := u6.1
    have hf6 := u6.2.2.2 hf5
    refine j_vret dJx4a65c_fastRemove_b59b0_43 rfl ?_ (Nat.le_of_ble_eq_true rfl) (Nat.le_of_ble_eq_true rfl)
    exact ⟨rfl, ((((u1.fw h.1 h.2.1).tr (u4.fw a1 a2)).tr (u5.fw h.1 h.2.1)).tr (u6.fw a1 a2)), _, z_li.of h.1 h.2.1 (z_irR h.2.2.1) ⟨a1, a2, a3, by rw [z_lenR hjl]; exact g6_a, g6_m, by rw [z_lenR hjl]; omega, a7, z_conR a7 (by omega) a6 a8⟩⟩
set_option maxRecDepth 100000 in
set_option maxHeartbeats 8000000 in
theorem cl_rem (hl : l.stackTraces = false) (w : z_W) (ρ a : Nat) (mo : Int32) (L : List Value) (j : Nat) (v0 : Value) (h : z_li w ρ a mo L) (hj : L[j]? = some v0) (hf : z_fn w) (hel : ∀ v ∈ L, z_el ρ w v) : z_Con G l mJx4a65c_remove_915e3 14 0 0 w [.ref a, .int (nI j)] (fun v w9 => v = some v0 ∧ z_fw ρ w w9 ∧ ∃ mo9, z_li w9 ρ a mo9 (L.eraseIdx j)) (fun _ _ => False) := by
  obtain ⟨m, n, f, hA⟩ := h.one hj
  obtain ⟨a1, a2, a3, ga, gm, a6, a7, a8⟩ := id hA
  have hjl : j < L.length := (List.getElem?_eq_some_iff.mp hj).1
  refine z_body hl (by decide) rfl (Nat.le_of_ble_eq_true rfl) ?_
  show z_J G l mJx4a65c_remove_915e3 _ 0 [(0, _), (1, _)] [] _ 0 0
  refine j_iload_n dJx4a65c_remove_915e3_0 rfl ?_
  refine j_aload_n dJx4a65c_remove_915e3_1 rfl rfl ?_
  refine j_getf dJx4a65c_remove_915e3_2 fJx4a65c_48 ga rfl ?_
  refine j_callS dJx4a65c_remove_915e3_5 kJ15_checkIndex_7cf53 lJx4a65c_118 stJ15_checkIndex_7cf53 (c_J15_checkIndex_7cf53 hl _ _ _ (nI_pos (by omega)) (nI_lt hjl (by omega))) (Nat.le_of_ble_eq_true rfl) ⟨(Nat.le_of_ble_eq_true rfl), (Nat.le_of_ble_eq_true rfl)⟩ rfl (Nat.le_of_ble_eq_true rfl) rfl rfl (fun _ _ h => h.elim) ?_
  rintro _ _ ⟨rfl, hw10⟩
  refine j_w w hw10 ?_
  refine j_pop dJx4a65c_remove_915e3_8 rfl ?_
  refine j_aload_n dJx4a65c_remove_915e3_9 rfl rfl ?_
  refine j_getf dJx4a65c_remove_915e3_10 fJx4a65c_9 ga rfl ?_
  refine j_astore_n (lo' := [(2, _), (0, _), (1, _)]) dJx4a65c_remove_915e3_13 rfl (by decide) rfl ?_
  refine j_aload_n dJx4a65c_remove_915e3_14 rfl rfl ?_
  refine j_iload_n dJx4a65c_remove_915e3_15 rfl ?_
  refine j_aald dJx4a65c_remove_915e3_16 gm rfl rfl (vp_in_nI (by omega) (by omega)) (show f (nI j).toNatClampNeg = v0 by rw [z_cla (by omega)]; exact a8 j v0 hj) ?_
  refine j_astore_n (lo' := [(3, _), (2, _), (0, _), (1, _)]) dJx4a65c_remove_915e3_17 (h.ir hj) (by decide) rfl ?_
  refine j_aload_n dJx4a65c_remove_915e3_18 rfl rfl ?_
  refine j_aload_n dJx4a65c_remove_915e3_19 rfl rfl ?_
  refine j_iload_n dJx4a65c_remove_915e3_20 rfl ?_
  refine j_callV (q := (RJx4a65c, TJx4a65c, 3)) dJx4a65c_remove_915e3_21 kJx4a65c_fastRemove_b59b0 lJx4a65c_144 inJx4a65c_fastRemove_b59b0 seJx4a65c_fastRemove_b59b0 ga rfl (cl_fRem hl w ρ a mo L m n j f h hA hjl hf hel) (Nat.le_of_ble_eq_true rfl) ⟨(Nat.le_of_ble_eq_true rfl), (Nat.le_of_ble_eq_true rfl)⟩ rfl (Nat.le_of_ble_eq_true rfl) rfl rfl (fun _ _ h => h.elim) ?_
  rintro _ w1 ⟨rfl, fw1, hr1⟩
  refine j_aload_n dJx4a65c_remove_915e3_24 rfl (h.ir hj) ?_
  refine j_aret dJx4a65c_remove_915e3_25 rfl (Or.inl ⟨_, rfl⟩) (h.ir hj) ?_ (Nat.le_of_ble_eq_true rfl) (Nat.le_of_ble_eq_true rfl)
  exact ⟨rfl, fw1, hr1⟩
set_option maxRecDepth 100000 in
set_option maxHeartbeats 8000000 in
theorem cl_rck (hl : l.stackTraces = false) (w : z_W) (ρ a : Nat) (mo : Int32) (L : List Value) (j : Nat) (h : z_li w ρ a mo L) (hj : j ≤ L.length) : z_Con G l mJx4a65c_rangeCheckForAdd_d00df 10 0 0 w [.ref a, .int (nI j)] (fun v w9 => v = none ∧ w9 = w) (fun _ _ => False) := by
  obtain ⟨v0, hv0, ga⟩ := h.cell
  have hlen := h.len
  refine z_body hl (by decide) rfl (Nat.le_of_ble_eq_true rfl) ?_
  show z_J G l mJx4a65c_rangeCheckForAdd_d00df _ 0 [(0, _), (1, _)] [] _ 0 0
  refine j_iload_n dJx4a65c_rangeCheckForAdd_d00df_0 rfl ?_
  refine j_aload_n dJx4a65c_rangeCheckForAdd_d00df_1 rfl rfl ?_
  refine j_getf dJx4a65c_rangeCheckForAdd_d00df_2 fJx4a65c_48 ga rfl ?_
  refine j_icmp_gt (tgt := 12) dJx4a65c_rangeCheckForAdd_d00df_5 (by decide) (fun c_5_5 => ?_) (fun c_5_5 => ?_)
  · exact absurd (show nI L.length < nI j from c_5_5) (Int32.not_lt.mpr ((nI_leI (by omega) (by omega)).mpr hj))
  · refine j_iload_n dJx4a65c_rangeCheckForAdd_d00df_8 rfl ?_
    refine j_if_ge (tgt := 25) dJx4a65c_rangeCheckForAdd_d00df_9 (by decide) (fun c_9_8 => ?_) (fun c_9_8 => ?_)
    · refine j_vret dJx4a65c_rangeCheckForAdd_d00df_25 rfl ?_ (Nat.le_of_ble_eq_true rfl) (Nat.le_of_ble_eq_true rfl)
      exact ⟨rfl, rfl⟩
    · exact absurd (nI_pos' (n := j) (by omega)) c_9_8
set_option maxRecDepth 100000 in
set_option maxHeartbeats 8000000 in
theorem cl_addI (hl : l.stackTraces = false) (w : z_W) (ρ a : Nat) (mo : Int32) (L : List Value) (M : Nat) (j : Nat) (x : Value) (h : z_li w ρ a mo L) (hρ : ρ < 64) (hf : z_fn w) (hM : L.length ≤ M) (hM2 : M ≤ 1000) (hel : ∀ v ∈ L, z_el ρ w v) (hx : z_el ρ w x) (hj : j ≤ L.length) : z_Con G l mJx4a65c_add_7a177 17 1 (2 * M + 10) w [.ref a, .int (nI j), x] (fun v w9 => v = none ∧ z_fw ρ w w9 ∧ ∃ mo9, z_li w9 ρ a mo9 (L.take j ++ x :: L.drop j)) (fun _ _ => False) := by
  rcases hx.1 with ⟨bx, rfl⟩ | ⟨rx, rfl, hrx⟩ <;> rcases h.2.2.2 with ⟨m, n, f, hA⟩ | ⟨k, hL, hk, ga⟩
  · obtain ⟨a1, a2, a3, ga, gm, a6, a7, a8⟩ := id hA
    refine z_body hl (by decide) rfl (Nat.le_of_ble_eq_true rfl) ?_
    show z_J G l mJx4a65c_add_7a177 _ 0 [(0, _), (1, _), (2, _)] [] _ 0 0
    refine j_aload_n dJx4a65c_add_7a177_0 rfl rfl ?_
    refine j_iload_n dJx4a65c_add_7a177_1 rfl ?_
    refine j_callV (q := (RJx4a65c, TJx4a65c, 3)) dJx4a65c_add_7a177_2 kJx4a65c_rangeCheckForAdd_d00df lJx4a65c_135 inJx4a65c_rangeCheckForAdd_d00df seJx4a65c_rangeCheckForAdd_d00df ga rfl (cl_rck hl w _ _ _ _ j h hj) (Nat.le_of_ble_eq_true rfl) ⟨(Nat.le_of_ble_eq_true rfl), (Nat.le_of_ble_eq_true rfl)⟩ rfl (Nat.le_of_ble_eq_true rfl) rfl rfl (fun _ _ h => h.elim) ?_
    rintro _ _ ⟨rfl, hw11⟩
    refine j_w w hw11 ?_
    refine j_aload_n dJx4a65c_add_7a177_5 rfl rfl ?_
    refine j_dup dJx4a65c_add_7a177_6 rfl ?_
    refine j_getf dJx4a65c_add_7a177_7 fJx4a65c_63 ga rfl ?_
    refine j_iconst (v := 1) dJx4a65c_add_7a177_10 (by decide) ?_
    refine j_iadd dJx4a65c_add_7a177_11 ?_
    refine j_put (w' := _) dJx4a65c_add_7a177_12 fJx4a65c_63 tJx4a65c_0 ga ⟨rfl, rfl⟩ rfl ?_
    refine j_seal h.1 ?_
    intro w1 u1
    have g1_m := (u1.2.1 _ a3).trans gm
    have g1_a := u1.1
    have hf1 := u1.2.2.2 hf
    have hl1 := h.md ga u1
    refine j_aload_n dJx4a65c_add_7a177_15 rfl rfl ?_
    refine j_getf dJx4a65c_add_7a177_16 fJx4a65c_48 g1_a rfl ?_
    refine j_dup dJx4a65c_add_7a177_19 rfl ?_
    refine j_istore_n (lo' := [(3, _), (0, _), (1, _), (2, _)]) dJx4a65c_add_7a177_20 (by decide) rfl ?_
    refine j_aload_n dJx4a65c_add_7a177_21 rfl rfl ?_
    refine j_getf dJx4a65c_add_7a177_22 fJx4a65c_9 g1_a rfl ?_
    refine j_dup dJx4a65c_add_7a177_25 rfl ?_
    refine j_astore (lo' := [(4, _), (3, _), (0, _), (1, _), (2, _)]) dJx4a65c_add_7a177_26 rfl (by decide) rfl ?_
    refine j_alen dJx4a65c_add_7a177_28 g1_m rfl rfl ?_
    refine j_icmp_ne (tgt := 38) dJx4a65c_add_7a177_29 (by decide) (fun c_29_28 => ?_) (fun c_29_28 => ?_)
    · have hlt : L.length < n := by rcases Nat.lt_or_eq_of_le a6 with h1 | h1; exact h1; exact absurd (congrArg nI h1) c_29_28
      refine j_aload dJx4a65c_add_7a177_38 rfl rfl ?_
      refine j_iload_n dJx4a65c_add_7a177_40 rfl ?_
      refine j_aload dJx4a65c_add_7a177_41 rfl rfl ?_
      refine j_iload_n dJx4a65c_add_7a177_43 rfl ?_
      refine j_iconst (v := 1) dJx4a65c_add_7a177_44 (by decide) ?_
      refine j_iadd dJx4a65c_add_7a177_45 ?_
      refine j_top (congrArg Value.int (nI_1 j)) ?_
      refine j_iload_n dJx4a65c_add_7a177_46 rfl ?_
      refine j_iload_n dJx4a65c_add_7a177_47 rfl ?_
      refine j_isub dJx4a65c_add_7a177_48 ?_
      refine j_top (congrArg Value.int (pk_sub (a := L.length) (b := j) hj)) ?_
      have hcp : ∀ i, i < (nI (L.length - j)).toNatClampNeg → (∃ x, f ((nI (j)).toNatClampNeg + i) = .int x ∧ fits (.object "java/lang/Object") (.int x) = true) ∨ (f ((nI (j)).toNatClampNeg + i) = .null ∧ (FieldType.object "java/lang/Object").isReference = true) ∨ ∃ C E, FieldType.object "java/lang/Object" = .object E ∧ z_is w1 (f ((nI (j)).toNatClampNeg + i)) C ∧ Cond.castable C E ∈ z_nst := fun i hi => by
        rw [z_cla (n := L.length - j) (by omega)] at hi
        rw [z_cla (n := j) (by omega)]
        rcases z_elK (z_elM hel (u1.fw h.1 h.2.1)) (⟨a1, a2, a3, g1_a, g1_m, a6, a7, a8⟩ : z_liA w1 ρ a _ L m n f) (j := j + i) (by omega) with h1 | ⟨C, h1, h2⟩
        · exact Or.inr (Or.inl ⟨h1, rfl⟩)
        · exact Or.inr (Or.inr ⟨C, "java/lang/Object", rfl, h1, h2⟩)
      refine j_acopy (w' := _) dJx4a65c_add_7a177_49 lJx4a65c_112 ac_n ac_s ac_i g1_m g1_m rfl (nI_pos (by omega)) (nI_pos (by omega)) (nI_pos (by omega)) (by rw [z_cla (n := j) (by omega), z_cla (n := (L.length - j)) (by omega)]; omega) (by rw [z_cla (n := (j + 1)) (by omega), z_cla (n := (L.length - j)) (by omega)]; omega) hcp (Nat.le_of_ble_eq_true rfl) (Nat.le_of_ble_eq_true rfl) rfl ?_
      refine j_seal a1 ?_
      intro w2 u2
      have g2_a := (u2.2.1 _ (Ne.symm a3)).trans g1_a
      have g2_m := u2.1
      have hf2 := u2.2.2.2 hf1
      refine j_aload dJx4a65c_add_7a177_52 rfl rfl ?_
      refine j_iload_n dJx4a65c_add_7a177_54 rfl ?_
      refine j_aload_n dJx4a65c_add_7a177_55 rfl hx.ir ?_
      obtain ⟨C9, hD1, hD2⟩ := (hx.m ((u1.fw h.1 h.2.1).tr (u2.fw a1 a2)).2.2).2
      refine j_aastO (w' := _) dJx4a65c_add_7a177_56 g2_m rfl hD1 hD2 (vp_in_nI (by omega) (by omega)) rfl ?_
      refine j_seal a1 ?_
      intro w3 u3
      have g3_a := (u3.2.1 _ (Ne.symm a3)).trans g2_a
      have g3_m := u3.1
      have hf3 := u3.2.2.2 hf2
      refine j_aload_n dJx4a65c_add_7a177_57 rfl rfl ?_
      refine j_iload_n dJx4a65c_add_7a177_58 rfl ?_
      refine j_iconst (v := 1) dJx4a65c_add_7a177_59 (by decide) ?_
      refine j_iadd dJx4a65c_add_7a177_60 ?_
      refine j_top (congrArg Value.int (nI_1 L.length)) ?_
      refine j_put (w' := _) dJx4a65c_add_7a177_61 fJx4a65c_48 tJx4a65c_2 g3_a ⟨rfl, rfl⟩ rfl ?_
      refine j_seal h.1 ?_
      intro w4 u4
      have g4_m := (u4.2.1 _ a3).trans g3_m
      have g4_a := u4.1
      have hf4 := u4.2.2.2 hf3
      refine j_vret dJx4a65c_add_7a177_64 rfl ?_ (Nat.le_of_ble_eq_true rfl) (by show _ ≤ 2 * M + 10; omega)
      exact ⟨rfl, ((((u1.fw h.1 h.2.1).tr (u2.fw a1 a2)).tr (u3.fw a1 a2)).tr (u4.fw h.1 h.2.1)), _, z_li.of h.1 h.2.1 (z_irI h.2.2.1 hx.ir) ⟨a1, a2, a3, by rw [z_lenI hj]; exact g4_a, g4_m, by rw [z_lenI hj]; omega, a7, z_conI a7 hj (by omega) a8⟩⟩
    · have hfl : L.length = n := nI_inj c_29_28 (by omega) (by omega)
      refine j_aload_n dJx4a65c_add_7a177_32 rfl rfl ?_
      refine j_callV (q := (RJx4a65c, TJx4a65c, 3)) dJx4a65c_add_7a177_33 kJx4a65c_grow_d5877 lJx4a65c_129 inJx4a65c_grow_d5877 seJx4a65c_grow_d5877 g1_a rfl (cl_grow hl w1 ρ a _ _ M hl1 hρ hf1 hM hM2 (z_elM hel (u1.fw h.1 h.2.1)) (fun m2 n2 f2 h2 => by obtain ⟨-, -, -, h4, h5, -⟩ := h2; have e := (z_inj3 (h4.symm.trans g1_a)).2.1; cases e; have e5 := h5.symm.trans g1_m; cases e5; omega)) (Nat.le_of_ble_eq_true rfl) ⟨(Nat.le_of_ble_eq_true rfl), (by show _ ≤ 2 * M + 10; omega)⟩ rfl (Nat.le_of_ble_eq_true rfl) rfl rfl (fun _ _ h => h.elim) ?_
      rintro _ w5 ⟨m9, n9, f9, rfl, fw5, hA9, hl9⟩
      have hf5 := fw5.2.1 hf1
      obtain ⟨b1, b2, b3, gb_a, gb_m, b6, b7, b8⟩ := id hA9
      refine j_astore (lo' := [(4, _), (3, _), (0, _), (1, _), (2, _)]) dJx4a65c_add_7a177_36 rfl (by decide) rfl ?_
      refine j_aload dJx4a65c_add_7a177_38 rfl rfl ?_
      refine j_iload_n dJx4a65c_add_7a177_40 rfl ?_
      refine j_aload dJx4a65c_add_7a177_41 rfl rfl ?_
      refine j_iload_n dJx4a65c_add_7a177_43 rfl ?_
      refine j_iconst (v := 1) dJx4a65c_add_7a177_44 (by decide) ?_
      refine j_iadd dJx4a65c_add_7a177_45 ?_
      refine j_top (congrArg Value.int (nI_1 j)) ?_
      refine j_iload_n dJx4a65c_add_7a177_46 rfl ?_
      refine j_iload_n dJx4a65c_add_7a177_47 rfl ?_
      refine j_isub dJx4a65c_add_7a177_48 ?_
      refine j_top (congrArg Value.int (pk_sub (a := L.length) (b := j) hj)) ?_
      have hcp : ∀ i, i < (nI (L.length - j)).toNatClampNeg → (∃ x, f9 ((nI (j)).toNatClampNeg + i) = .int x ∧ fits (.object "java/lang/Object") (.int x) = true) ∨ (f9 ((nI (j)).toNatClampNeg + i) = .null ∧ (FieldType.object "java/lang/Object").isReference = true) ∨ ∃ C E, FieldType.object "java/lang/Object" = .object E ∧ z_is w5 (f9 ((nI (j)).toNatClampNeg + i)) C ∧ Cond.castable C E ∈ z_nst := fun i hi => by
        rw [z_cla (n := L.length - j) (by omega)] at hi
        rw [z_cla (n := j) (by omega)]
        rcases z_elK (z_elM hel ((u1.fw h.1 h.2.1).tr fw5)) hA9 (j := j + i) (by omega) with h1 | ⟨C, h1, h2⟩
        · exact Or.inr (Or.inl ⟨h1, rfl⟩)
        · exact Or.inr (Or.inr ⟨C, "java/lang/Object", rfl, h1, h2⟩)
      refine j_acopy (w' := _) dJx4a65c_add_7a177_49 lJx4a65c_112 ac_n ac_s ac_i gb_m gb_m rfl (nI_pos (by omega)) (nI_pos (by omega)) (nI_pos (by omega)) (by rw [z_cla (n := j) (by omega), z_cla (n := (L.length - j)) (by omega)]; omega) (by rw [z_cla (n := (j + 1)) (by omega), z_cla (n := (L.length - j)) (by omega)]; omega) hcp (Nat.le_of_ble_eq_true rfl) (Nat.le_of_ble_eq_true rfl) rfl ?_
      refine j_seal b1 ?_
      intro w6 u6
      have g6_a := (u6.2.1 _ (Ne.symm b3)).trans gb_a
      have g6_m := u6.1
      have hf6 := u6.2.2.2 hf5
      refine j_aload dJx4a65c_add_7a177_52 rfl rfl ?_
      refine j_iload_n dJx4a65c_add_7a177_54 rfl ?_
      refine j_aload_n dJx4a65c_add_7a177_55 rfl hx.ir ?_
      obtain ⟨C9, hD1, hD2⟩ := (hx.m (((u1.fw h.1 h.2.1).tr fw5).tr (u6.fw b1 b2)).2.2).2
      refine j_aastO (w' := _) dJx4a65c_add_7a177_56 g6_m rfl hD1 hD2 (vp_in_nI (by omega) (by omega)) rfl ?_
      refine j_seal b1 ?_
      intro w7 u7
      have g7_a := (u7.2.1 _ (Ne.symm b3)).trans g6_a
      have g7_m := u7.1
      have hf7 := u7.2.2.2 hf6
      refine j_aload_n dJx4a65c_add_7a177_57 rfl rfl ?_
      refine j_iload_n dJx4a65c_add_7a177_58 rfl ?_
      refine j_iconst (v := 1) dJx4a65c_add_7a177_59 (by decide) ?_
      refine j_iadd dJx4a65c_add_7a177_60 ?_
      refine j_top (congrArg Value.int (nI_1 L.length)) ?_
      refine j_put (w' := _) dJx4a65c_add_7a177_61 fJx4a65c_48 tJx4a65c_2 g7_a ⟨rfl, rfl⟩ rfl ?_
      refine j_seal h.1 ?_
      intro w8 u8
      have g8_m := (u8.2.1 _ b3).trans g7_m
      have g8_a := u8.1
      have hf8 := u8.2.2.2 hf7
      refine j_vret dJx4a65c_add_7a177_64 rfl ?_ (Nat.le_of_ble_eq_true rfl) (by show _ ≤ 2 * M + 10; omega)
      exact ⟨rfl, (((((u1.fw h.1 h.2.1).tr fw5).tr (u6.fw b1 b2)).tr (u7.fw b1 b2)).tr (u8.fw h.1 h.2.1)), _, z_li.of h.1 h.2.1 (z_irI h.2.2.1 hx.ir) ⟨b1, b2, b3, by rw [z_lenI hj]; exact g8_a, g8_m, by rw [z_lenI hj]; omega, b7, z_conI b7 hj hl9 b8⟩⟩
  · subst hL
    refine z_body hl (by decide) rfl (Nat.le_of_ble_eq_true rfl) ?_
    show z_J G l mJx4a65c_add_7a177 _ 0 [(0, _), (1, _), (2, _)] [] _ 0 0
    refine j_aload_n dJx4a65c_add_7a177_0 rfl rfl ?_
    refine j_iload_n dJx4a65c_add_7a177_1 rfl ?_
    refine j_callV (q := (RJx4a65c, TJx4a65c, 3)) dJx4a65c_add_7a177_2 kJx4a65c_rangeCheckForAdd_d00df lJx4a65c_135 inJx4a65c_rangeCheckForAdd_d00df seJx4a65c_rangeCheckForAdd_d00df ga rfl (cl_rck hl w _ _ _ _ j h hj) (Nat.le_of_ble_eq_true rfl) ⟨(Nat.le_of_ble_eq_true rfl), (Nat.le_of_ble_eq_true rfl)⟩ rfl (Nat.le_of_ble_eq_true rfl) rfl rfl (fun _ _ h => h.elim) ?_
    rintro _ _ ⟨rfl, hw12⟩
    refine j_w w hw12 ?_
    refine j_aload_n dJx4a65c_add_7a177_5 rfl rfl ?_
    refine j_dup dJx4a65c_add_7a177_6 rfl ?_
    refine j_getf dJx4a65c_add_7a177_7 fJx4a65c_63 ga rfl ?_
    refine j_iconst (v := 1) dJx4a65c_add_7a177_10 (by decide) ?_
    refine j_iadd dJx4a65c_add_7a177_11 ?_
    refine j_put (w' := _) dJx4a65c_add_7a177_12 fJx4a65c_63 tJx4a65c_0 ga ⟨rfl, rfl⟩ rfl ?_
    refine j_seal h.1 ?_
    intro w1 u1
    have g1_a := u1.1
    have hf1 := u1.2.2.2 hf
    have hl1 := h.md ga u1
    refine j_aload_n dJx4a65c_add_7a177_15 rfl rfl ?_
    refine j_getf dJx4a65c_add_7a177_16 fJx4a65c_48 g1_a rfl ?_
    refine j_dup dJx4a65c_add_7a177_19 rfl ?_
    refine j_istore_n (lo' := [(3, _), (0, _), (1, _), (2, _)]) dJx4a65c_add_7a177_20 (by decide) rfl ?_
    refine j_aload_n dJx4a65c_add_7a177_21 rfl rfl ?_
    refine j_getf dJx4a65c_add_7a177_22 fJx4a65c_9 g1_a rfl ?_
    refine j_dup dJx4a65c_add_7a177_25 rfl ?_
    refine j_astore (lo' := [(4, _), (3, _), (0, _), (1, _), (2, _)]) dJx4a65c_add_7a177_26 rfl (by decide) rfl ?_
    refine j_alenK (k := k) (N := 0) dJx4a65c_add_7a177_28 (fun U q h hkq => h.2.2.2.1 k q hk hkq) ?_
    refine j_icmp_ne (tgt := 38) dJx4a65c_add_7a177_29 (by decide) (fun c_29_27 => ?_) (fun c_29_27 => ?_)
    · exact absurd rfl c_29_27
    · refine j_aload_n dJx4a65c_add_7a177_32 rfl rfl ?_
      refine j_callV (q := (RJx4a65c, TJx4a65c, 3)) dJx4a65c_add_7a177_33 kJx4a65c_grow_d5877 lJx4a65c_129 inJx4a65c_grow_d5877 seJx4a65c_grow_d5877 g1_a rfl (cl_grow hl w1 ρ a _ _ M hl1 hρ hf1 hM hM2 (z_elM hel (u1.fw h.1 h.2.1)) (fun m2 n2 f2 h2 => by obtain ⟨-, -, -, h4, -⟩ := h2; have e := (z_inj3 (h4.symm.trans g1_a)).2.1; cases e)) (Nat.le_of_ble_eq_true rfl) ⟨(Nat.le_of_ble_eq_true rfl), (by show _ ≤ 2 * M + 10; omega)⟩ rfl (Nat.le_of_ble_eq_true rfl) rfl rfl (fun _ _ h => h.elim) ?_
      rintro _ w2 ⟨m9, n9, f9, rfl, fw2, hA9, hl9⟩
      have hf2 := fw2.2.1 hf1
      obtain ⟨b1, b2, b3, gb_a, gb_m, b6, b7, b8⟩ := id hA9
      refine j_astore (lo' := [(4, _), (3, _), (0, _), (1, _), (2, _)]) dJx4a65c_add_7a177_36 rfl (by decide) rfl ?_
      refine j_aload dJx4a65c_add_7a177_38 rfl rfl ?_
      refine j_iload_n dJx4a65c_add_7a177_40 rfl ?_
      refine j_aload dJx4a65c_add_7a177_41 rfl rfl ?_
      refine j_iload_n dJx4a65c_add_7a177_43 rfl ?_
      refine j_iconst (v := 1) dJx4a65c_add_7a177_44 (by decide) ?_
      refine j_iadd dJx4a65c_add_7a177_45 ?_
      refine j_top (congrArg Value.int (nI_1 j)) ?_
      refine j_iload_n dJx4a65c_add_7a177_46 rfl ?_
      refine j_iload_n dJx4a65c_add_7a177_47 rfl ?_
      refine j_isub dJx4a65c_add_7a177_48 ?_
      refine j_top (congrArg Value.int (pk_sub (a := ([] : List Value).length) (b := j) hj)) ?_
      have hcp : ∀ i, i < (nI (([] : List Value).length - j)).toNatClampNeg → (∃ x, f9 ((nI (j)).toNatClampNeg + i) = .int x ∧ fits (.object "java/lang/Object") (.int x) = true) ∨ (f9 ((nI (j)).toNatClampNeg + i) = .null ∧ (FieldType.object "java/lang/Object").isReference = true) ∨ ∃ C E, FieldType.object "java/lang/Object" = .object E ∧ z_is w2 (f9 ((nI (j)).toNatClampNeg + i)) C ∧ Cond.castable C E ∈ z_nst := fun i hi => by
        rw [z_cla (n := ([] : List Value).length - j) (by omega)] at hi
        rw [z_cla (n := j) (by omega)]
        rcases z_elK (z_elM hel ((u1.fw h.1 h.2.1).tr fw2)) hA9 (j := j + i) (by omega) with h1 | ⟨C, h1, h2⟩
        · exact Or.inr (Or.inl ⟨h1, rfl⟩)
        · exact Or.inr (Or.inr ⟨C, "java/lang/Object", rfl, h1, h2⟩)
      refine j_acopy (w' := _) dJx4a65c_add_7a177_49 lJx4a65c_112 ac_n ac_s ac_i gb_m gb_m rfl (nI_pos (by omega)) (nI_pos (by omega)) (nI_pos (by omega)) (by rw [z_cla (n := j) (by omega), z_cla (n := (([] : List Value).length - j)) (by omega)]; omega) (by rw [z_cla (n := (j + 1)) (by omega), z_cla (n := (([] : List Value).length - j)) (by omega)]; omega) hcp (Nat.le_of_ble_eq_true rfl) (Nat.le_of_ble_eq_true rfl) rfl ?_
      refine j_seal b1 ?_
      intro w3 u3
      have g3_a := (u3.2.1 _ (Ne.symm b3)).trans gb_a
      have g3_m := u3.1
      have hf3 := u3.2.2.2 hf2
      refine j_aload dJx4a65c_add_7a177_52 rfl rfl ?_
      refine j_iload_n dJx4a65c_add_7a177_54 rfl ?_
      refine j_aload_n dJx4a65c_add_7a177_55 rfl hx.ir ?_
      obtain ⟨C9, hD1, hD2⟩ := (hx.m (((u1.fw h.1 h.2.1).tr fw2).tr (u3.fw b1 b2)).2.2).2
      refine j_aastO (w' := _) dJx4a65c_add_7a177_56 g3_m rfl hD1 hD2 (vp_in_nI (by omega) (by omega)) rfl ?_
      refine j_seal b1 ?_
      intro w4 u4
      have g4_a := (u4.2.1 _ (Ne.symm b3)).trans g3_a
      have g4_m := u4.1
      have hf4 := u4.2.2.2 hf3
      refine j_aload_n dJx4a65c_add_7a177_57 rfl rfl ?_
      refine j_iload_n dJx4a65c_add_7a177_58 rfl ?_
      refine j_iconst (v := 1) dJx4a65c_add_7a177_59 (by decide) ?_
      refine j_iadd dJx4a65c_add_7a177_60 ?_
      refine j_top (congrArg Value.int (nI_1 0)) ?_
      refine j_put (w' := _) dJx4a65c_add_7a177_61 fJx4a65c_48 tJx4a65c_2 g4_a ⟨rfl, rfl⟩ rfl ?_
      refine j_seal h.1 ?_
      intro w5 u5
      have g5_m := (u5.2.1 _ b3).trans g4_m
      have g5_a := u5.1
      have hf5 := u5.2.2.2 hf4
      refine j_vret dJx4a65c_add_7a177_64 rfl ?_ (Nat.le_of_ble_eq_true rfl) (by show _ ≤ 2 * M + 10; omega)
      exact ⟨rfl, (((((u1.fw h.1 h.2.1).tr fw2).tr (u3.fw b1 b2)).tr (u4.fw b1 b2)).tr (u5.fw h.1 h.2.1)), _, z_li.of h.1 h.2.1 (z_irI h.2.2.1 hx.ir) ⟨b1, b2, b3, by rw [z_lenI hj]; exact g5_a, g5_m, by rw [z_lenI hj]; omega, b7, z_conI b7 hj hl9 b8⟩⟩
  · obtain ⟨a1, a2, a3, ga, gm, a6, a7, a8⟩ := id hA
    refine z_body hl (by decide) rfl (Nat.le_of_ble_eq_true rfl) ?_
    show z_J G l mJx4a65c_add_7a177 _ 0 [(0, _), (1, _), (2, _)] [] _ 0 0
    refine j_aload_n dJx4a65c_add_7a177_0 rfl rfl ?_
    refine j_iload_n dJx4a65c_add_7a177_1 rfl ?_
    refine j_callV (q := (RJx4a65c, TJx4a65c, 3)) dJx4a65c_add_7a177_2 kJx4a65c_rangeCheckForAdd_d00df lJx4a65c_135 inJx4a65c_rangeCheckForAdd_d00df seJx4a65c_rangeCheckForAdd_d00df ga rfl (cl_rck hl w _ _ _ _ j h hj) (Nat.le_of_ble_eq_true rfl) ⟨(Nat.le_of_ble_eq_true rfl), (Nat.le_of_ble_eq_true rfl)⟩ rfl (Nat.le_of_ble_eq_true rfl) rfl rfl (fun _ _ h => h.elim) ?_
    rintro _ _ ⟨rfl, hw13⟩
    refine j_w w hw13 ?_
    refine j_aload_n dJx4a65c_add_7a177_5 rfl rfl ?_
    refine j_dup dJx4a65c_add_7a177_6 rfl ?_
    refine j_getf dJx4a65c_add_7a177_7 fJx4a65c_63 ga rfl ?_
    refine j_iconst (v := 1) dJx4a65c_add_7a177_10 (by decide) ?_
    refine j_iadd dJx4a65c_add_7a177_11 ?_
    refine j_put (w' := _) dJx4a65c_add_7a177_12 fJx4a65c_63 tJx4a65c_0 ga ⟨rfl, rfl⟩ rfl ?_
    refine j_seal h.1 ?_
    intro w1 u1
    have g1_m := (u1.2.1 _ a3).trans gm
    have g1_a := u1.1
    have hf1 := u1.2.2.2 hf
    have hl1 := h.md ga u1
    refine j_aload_n dJx4a65c_add_7a177_15 rfl rfl ?_
    refine j_getf dJx4a65c_add_7a177_16 fJx4a65c_48 g1_a rfl ?_
    refine j_dup dJx4a65c_add_7a177_19 rfl ?_
    refine j_istore_n (lo' := [(3, _), (0, _), (1, _), (2, _)]) dJx4a65c_add_7a177_20 (by decide) rfl ?_
    refine j_aload_n dJx4a65c_add_7a177_21 rfl rfl ?_
    refine j_getf dJx4a65c_add_7a177_22 fJx4a65c_9 g1_a rfl ?_
    refine j_dup dJx4a65c_add_7a177_25 rfl ?_
    refine j_astore (lo' := [(4, _), (3, _), (0, _), (1, _), (2, _)]) dJx4a65c_add_7a177_26 rfl (by decide) rfl ?_
    refine j_alen dJx4a65c_add_7a177_28 g1_m rfl rfl ?_
    refine j_icmp_ne (tgt := 38) dJx4a65c_add_7a177_29 (by decide) (fun c_29_28 => ?_) (fun c_29_28 => ?_)
    · have hlt : L.length < n := by rcases Nat.lt_or_eq_of_le a6 with h1 | h1; exact h1; exact absurd (congrArg nI h1) c_29_28
      refine j_aload dJx4a65c_add_7a177_38 rfl rfl ?_
      refine j_iload_n dJx4a65c_add_7a177_40 rfl ?_
      refine j_aload dJx4a65c_add_7a177_41 rfl rfl ?_
      refine j_iload_n dJx4a65c_add_7a177_43 rfl ?_
      refine j_iconst (v := 1) dJx4a65c_add_7a177_44 (by decide) ?_
      refine j_iadd dJx4a65c_add_7a177_45 ?_
      refine j_top (congrArg Value.int (nI_1 j)) ?_
      refine j_iload_n dJx4a65c_add_7a177_46 rfl ?_
      refine j_iload_n dJx4a65c_add_7a177_47 rfl ?_
      refine j_isub dJx4a65c_add_7a177_48 ?_
      refine j_top (congrArg Value.int (pk_sub (a := L.length) (b := j) hj)) ?_
      have hcp : ∀ i, i < (nI (L.length - j)).toNatClampNeg → (∃ x, f ((nI (j)).toNatClampNeg + i) = .int x ∧ fits (.object "java/lang/Object") (.int x) = true) ∨ (f ((nI (j)).toNatClampNeg + i) = .null ∧ (FieldType.object "java/lang/Object").isReference = true) ∨ ∃ C E, FieldType.object "java/lang/Object" = .object E ∧ z_is w1 (f ((nI (j)).toNatClampNeg + i)) C ∧ Cond.castable C E ∈ z_nst := fun i hi => by
        rw [z_cla (n := L.length - j) (by omega)] at hi
        rw [z_cla (n := j) (by omega)]
        rcases z_elK (z_elM hel (u1.fw h.1 h.2.1)) (⟨a1, a2, a3, g1_a, g1_m, a6, a7, a8⟩ : z_liA w1 ρ a _ L m n f) (j := j + i) (by omega) with h1 | ⟨C, h1, h2⟩
        · exact Or.inr (Or.inl ⟨h1, rfl⟩)
        · exact Or.inr (Or.inr ⟨C, "java/lang/Object", rfl, h1, h2⟩)
      refine j_acopy (w' := _) dJx4a65c_add_7a177_49 lJx4a65c_112 ac_n ac_s ac_i g1_m g1_m rfl (nI_pos (by omega)) (nI_pos (by omega)) (nI_pos (by omega)) (by rw [z_cla (n := j) (by omega), z_cla (n := (L.length - j)) (by omega)]; omega) (by rw [z_cla (n := (j + 1)) (by omega), z_cla (n := (L.length - j)) (by omega)]; omega) hcp (Nat.le_of_ble_eq_true rfl) (Nat.le_of_ble_eq_true rfl) rfl ?_
      refine j_seal a1 ?_
      intro w2 u2
      have g2_a := (u2.2.1 _ (Ne.symm a3)).trans g1_a
      have g2_m := u2.1
      have hf2 := u2.2.2.2 hf1
      refine j_aload dJx4a65c_add_7a177_52 rfl rfl ?_
      refine j_iload_n dJx4a65c_add_7a177_54 rfl ?_
      refine j_aload_n dJx4a65c_add_7a177_55 rfl hx.ir ?_
      obtain ⟨C9, hD1, hD2⟩ := (hx.m ((u1.fw h.1 h.2.1).tr (u2.fw a1 a2)).2.2).2
      refine j_aastO (w' := _) dJx4a65c_add_7a177_56 g2_m rfl hD1 hD2 (vp_in_nI (by omega) (by omega)) rfl ?_
      refine j_seal a1 ?_
      intro w3 u3
      have g3_a := (u3.2.1 _ (Ne.symm a3)).trans g2_a
      have g3_m := u3.1
      have hf3 := u3.2.2.2 hf2
      refine j_aload_n dJx4a65c_add_7a177_57 rfl rfl ?_
      refine j_iload_n dJx4a65c_add_7a177_58 rfl ?_
      refine j_iconst (v := 1) dJx4a65c_add_7a177_59 (by decide) ?_
      refine j_iadd dJx4a65c_add_7a177_60 ?_
      refine j_top (congrArg Value.int (nI_1 L.length)) ?_
      refine j_put (w' := _) dJx4a65c_add_7a177_61 fJx4a65c_48 tJx4a65c_2 g3_a ⟨rfl, rfl⟩ rfl ?_
      refine j_seal h.1 ?_
      intro w4 u4
      have g4_m := (u4.2.1 _ a3).trans g3_m
      have g4_a := u4.1
      have hf4 := u4.2.2.2 hf3
      refine j_vret dJx4a65c_add_7a177_64 rfl ?_ (Nat.le_of_ble_eq_true rfl) (by show _ ≤ 2 * M + 10; omega)
      exact ⟨rfl, ((((u1.fw h.1 h.2.1).tr (u2.fw a1 a2)).tr (u3.fw a1 a2)).tr (u4.fw h.1 h.2.1)), _, z_li.of h.1 h.2.1 (z_irI h.2.2.1 hx.ir) ⟨a1, a2, a3, by rw [z_lenI hj]; exact g4_a, g4_m, by rw [z_lenI hj]; omega, a7, z_conI a7 hj (by omega) a8⟩⟩
    · have hfl : L.length = n := nI_inj c_29_28 (by omega) (by omega)
      refine j_aload_n dJx4a65c_add_7a177_32 rfl rfl ?_
      refine j_callV (q := (RJx4a65c, TJx4a65c, 3)) dJx4a65c_add_7a177_33 kJx4a65c_grow_d5877 lJx4a65c_129 inJx4a65c_grow_d5877 seJx4a65c_grow_d5877 g1_a rfl (cl_grow hl w1 ρ a _ _ M hl1 hρ hf1 hM hM2 (z_elM hel (u1.fw h.1 h.2.1)) (fun m2 n2 f2 h2 => by obtain ⟨-, -, -, h4, h5, -⟩ := h2; have e := (z_inj3 (h4.symm.trans g1_a)).2.1; cases e; have e5 := h5.symm.trans g1_m; cases e5; omega)) (Nat.le_of_ble_eq_true rfl) ⟨(Nat.le_of_ble_eq_true rfl), (by show _ ≤ 2 * M + 10; omega)⟩ rfl (Nat.le_of_ble_eq_true rfl) rfl rfl (fun _ _ h => h.elim) ?_
      rintro _ w5 ⟨m9, n9, f9, rfl, fw5, hA9, hl9⟩
      have hf5 := fw5.2.1 hf1
      obtain ⟨b1, b2, b3, gb_a, gb_m, b6, b7, b8⟩ := id hA9
      refine j_astore (lo' := [(4, _), (3, _), (0, _), (1, _), (2, _)]) dJx4a65c_add_7a177_36 rfl (by decide) rfl ?_
      refine j_aload dJx4a65c_add_7a177_38 rfl rfl ?_
      refine j_iload_n dJx4a65c_add_7a177_40 rfl ?_
      refine j_aload dJx4a65c_add_7a177_41 rfl rfl ?_
      refine j_iload_n dJx4a65c_add_7a177_43 rfl ?_
      refine j_iconst (v := 1) dJx4a65c_add_7a177_44 (by decide) ?_
      refine j_iadd dJx4a65c_add_7a177_45 ?_
      refine j_top (congrArg Value.int (nI_1 j)) ?_
      refine j_iload_n dJx4a65c_add_7a177_46 rfl ?_
      refine j_iload_n dJx4a65c_add_7a177_47 rfl ?_
      refine j_isub dJx4a65c_add_7a177_48 ?_
      refine j_top (congrArg Value.int (pk_sub (a := L.length) (b := j) hj)) ?_
      have hcp : ∀ i, i < (nI (L.length - j)).toNatClampNeg → (∃ x, f9 ((nI (j)).toNatClampNeg + i) = .int x ∧ fits (.object "java/lang/Object") (.int x) = true) ∨ (f9 ((nI (j)).toNatClampNeg + i) = .null ∧ (FieldType.object "java/lang/Object").isReference = true) ∨ ∃ C E, FieldType.object "java/lang/Object" = .object E ∧ z_is w5 (f9 ((nI (j)).toNatClampNeg + i)) C ∧ Cond.castable C E ∈ z_nst := fun i hi => by
        rw [z_cla (n := L.length - j) (by omega)] at hi
        rw [z_cla (n := j) (by omega)]
        rcases z_elK (z_elM hel ((u1.fw h.1 h.2.1).tr fw5)) hA9 (j := j + i) (by omega) with h1 | ⟨C, h1, h2⟩
        · exact Or.inr (Or.inl ⟨h1, rfl⟩)
        · exact Or.inr (Or.inr ⟨C, "java/lang/Object", rfl, h1, h2⟩)
      refine j_acopy (w' := _) dJx4a65c_add_7a177_49 lJx4a65c_112 ac_n ac_s ac_i gb_m gb_m rfl (nI_pos (by omega)) (nI_pos (by omega)) (nI_pos (by omega)) (by rw [z_cla (n := j) (by omega), z_cla (n := (L.length - j)) (by omega)]; omega) (by rw [z_cla (n := (j + 1)) (by omega), z_cla (n := (L.length - j)) (by omega)]; omega) hcp (Nat.le_of_ble_eq_true rfl) (Nat.le_of_ble_eq_true rfl) rfl ?_
      refine j_seal b1 ?_
      intro w6 u6
      have g6_a := (u6.2.1 _ (Ne.symm b3)).trans gb_a
      have g6_m := u6.1
      have hf6 := u6.2.2.2 hf5
      refine j_aload dJx4a65c_add_7a177_52 rfl rfl ?_
      refine j_iload_n dJx4a65c_add_7a177_54 rfl ?_
      refine j_aload_n dJx4a65c_add_7a177_55 rfl hx.ir ?_
      obtain ⟨C9, hD1, hD2⟩ := (hx.m (((u1.fw h.1 h.2.1).tr fw5).tr (u6.fw b1 b2)).2.2).2
      refine j_aastO (w' := _) dJx4a65c_add_7a177_56 g6_m rfl hD1 hD2 (vp_in_nI (by omega) (by omega)) rfl ?_
      refine j_seal b1 ?_
      intro w7 u7
      have g7_a := (u7.2.1 _ (Ne.symm b3)).trans g6_a
      have g7_m := u7.1
      have hf7 := u7.2.2.2 hf6
      refine j_aload_n dJx4a65c_add_7a177_57 rfl rfl ?_
      refine j_iload_n dJx4a65c_add_7a177_58 rfl ?_
      refine j_iconst (v := 1) dJx4a65c_add_7a177_59 (by decide) ?_
      refine j_iadd dJx4a65c_add_7a177_60 ?_
      refine j_top (congrArg Value.int (nI_1 L.length)) ?_
      refine j_put (w' := _) dJx4a65c_add_7a177_61 fJx4a65c_48 tJx4a65c_2 g7_a ⟨rfl, rfl⟩ rfl ?_
      refine j_seal h.1 ?_
      intro w8 u8
      have g8_m := (u8.2.1 _ b3).trans g7_m
      have g8_a := u8.1
      have hf8 := u8.2.2.2 hf7
      refine j_vret dJx4a65c_add_7a177_64 rfl ?_ (Nat.le_of_ble_eq_true rfl) (by show _ ≤ 2 * M + 10; omega)
      exact ⟨rfl, (((((u1.fw h.1 h.2.1).tr fw5).tr (u6.fw b1 b2)).tr (u7.fw b1 b2)).tr (u8.fw h.1 h.2.1)), _, z_li.of h.1 h.2.1 (z_irI h.2.2.1 hx.ir) ⟨b1, b2, b3, by rw [z_lenI hj]; exact g8_a, g8_m, by rw [z_lenI hj]; omega, b7, z_conI b7 hj hl9 b8⟩⟩
  · subst hL
    refine z_body hl (by decide) rfl (Nat.le_of_ble_eq_true rfl) ?_
    show z_J G l mJx4a65c_add_7a177 _ 0 [(0, _), (1, _), (2, _)] [] _ 0 0
    refine j_aload_n dJx4a65c_add_7a177_0 rfl rfl ?_
    refine j_iload_n dJx4a65c_add_7a177_1 rfl ?_
    refine j_callV (q := (RJx4a65c, TJx4a65c, 3)) dJx4a65c_add_7a177_2 kJx4a65c_rangeCheckForAdd_d00df lJx4a65c_135 inJx4a65c_rangeCheckForAdd_d00df seJx4a65c_rangeCheckForAdd_d00df ga rfl (cl_rck hl w _ _ _ _ j h hj) (Nat.le_of_ble_eq_true rfl) ⟨(Nat.le_of_ble_eq_true rfl), (Nat.le_of_ble_eq_true rfl)⟩ rfl (Nat.le_of_ble_eq_true rfl) rfl rfl (fun _ _ h => h.elim) ?_
    rintro _ _ ⟨rfl, hw14⟩
    refine j_w w hw14 ?_
    refine j_aload_n dJx4a65c_add_7a177_5 rfl rfl ?_
    refine j_dup dJx4a65c_add_7a177_6 rfl ?_
    refine j_getf dJx4a65c_add_7a177_7 fJx4a65c_63 ga rfl ?_
    refine j_iconst (v := 1) dJx4a65c_add_7a177_10 (by decide) ?_
    refine j_iadd dJx4a65c_add_7a177_11 ?_
    refine j_put (w' := _) dJx4a65c_add_7a177_12 fJx4a65c_63 tJx4a65c_0 ga ⟨rfl, rfl⟩ rfl ?_
    refine j_seal h.1 ?_
    intro w1 u1
    have g1_a := u1.1
    have hf1 := u1.2.2.2 hf
    have hl1 := h.md ga u1
    refine j_aload_n dJx4a65c_add_7a177_15 rfl rfl ?_
    refine j_getf dJx4a65c_add_7a177_16 fJx4a65c_48 g1_a rfl ?_
    refine j_dup dJx4a65c_add_7a177_19 rfl ?_
    refine j_istore_n (lo' := [(3, _), (0, _), (1, _), (2, _)]) dJx4a65c_add_7a177_20 (by decide) rfl ?_
    refine j_aload_n dJx4a65c_add_7a177_21 rfl rfl ?_
    refine j_getf dJx4a65c_add_7a177_22 fJx4a65c_9 g1_a rfl ?_
    refine j_dup dJx4a65c_add_7a177_25 rfl ?_
    refine j_astore (lo' := [(4, _), (3, _), (0, _), (1, _), (2, _)]) dJx4a65c_add_7a177_26 rfl (by decide) rfl ?_
    refine j_alenK (k := k) (N := 0) dJx4a65c_add_7a177_28 (fun U q h hkq => h.2.2.2.1 k q hk hkq) ?_
    refine j_icmp_ne (tgt := 38) dJx4a65c_add_7a177_29 (by decide) (fun c_29_27 => ?_) (fun c_29_27 => ?_)
    · exact absurd rfl c_29_27
    · refine j_aload_n dJx4a65c_add_7a177_32 rfl rfl ?_
      refine j_callV (q := (RJx4a65c, TJx4a65c, 3)) dJx4a65c_add_7a177_33 kJx4a65c_grow_d5877 lJx4a65c_129 inJx4a65c_grow_d5877 seJx4a65c_grow_d5877 g1_a rfl (cl_grow hl w1 ρ a _ _ M hl1 hρ hf1 hM hM2 (z_elM hel (u1.fw h.1 h.2.1)) (fun m2 n2 f2 h2 => by obtain ⟨-, -, -, h4, -⟩ := h2; have e := (z_inj3 (h4.symm.trans g1_a)).2.1; cases e)) (Nat.le_of_ble_eq_true rfl) ⟨(Nat.le_of_ble_eq_true rfl), (by show _ ≤ 2 * M + 10; omega)⟩ rfl (Nat.le_of_ble_eq_true rfl) rfl rfl (fun _ _ h => h.elim) ?_
      rintro _ w2 ⟨m9, n9, f9, rfl, fw2, hA9, hl9⟩
      have hf2 := fw2.2.1 hf1
      obtain ⟨b1, b2, b3, gb_a, gb_m, b6, b7, b8⟩ := id hA9
      refine j_astore (lo' := [(4, _), (3, _), (0, _), (1, _), (2, _)]) dJx4a65c_add_7a177_36 rfl (by decide) rfl ?_
      refine j_aload dJx4a65c_add_7a177_38 rfl rfl ?_
      refine j_iload_n dJx4a65c_add_7a177_40 rfl ?_
      refine j_aload dJx4a65c_add_7a177_41 rfl rfl ?_
      refine j_iload_n dJx4a65c_add_7a177_43 rfl ?_
      refine j_iconst (v := 1) dJx4a65c_add_7a177_44 (by decide) ?_
      refine j_iadd dJx4a65c_add_7a177_45 ?_
      refine j_top (congrArg Value.int (nI_1 j)) ?_
      refine j_iload_n dJx4a65c_add_7a177_46 rfl ?_
      refine j_iload_n dJx4a65c_add_7a177_47 rfl ?_
      refine j_isub dJx4a65c_add_7a177_48 ?_
      refine j_top (congrArg Value.int (pk_sub (a := ([] : List Value).length) (b := j) hj)) ?_
      have hcp : ∀ i, i < (nI (([] : List Value).length - j)).toNatClampNeg → (∃ x, f9 ((nI (j)).toNatClampNeg + i) = .int x ∧ fits (.object "java/lang/Object") (.int x) = true) ∨ (f9 ((nI (j)).toNatClampNeg + i) = .null ∧ (FieldType.object "java/lang/Object").isReference = true) ∨ ∃ C E, FieldType.object "java/lang/Object" = .object E ∧ z_is w2 (f9 ((nI (j)).toNatClampNeg + i)) C ∧ Cond.castable C E ∈ z_nst := fun i hi => by
        rw [z_cla (n := ([] : List Value).length - j) (by omega)] at hi
        rw [z_cla (n := j) (by omega)]
        rcases z_elK (z_elM hel ((u1.fw h.1 h.2.1).tr fw2)) hA9 (j := j + i) (by omega) with h1 | ⟨C, h1, h2⟩
        · exact Or.inr (Or.inl ⟨h1, rfl⟩)
        · exact Or.inr (Or.inr ⟨C, "java/lang/Object", rfl, h1, h2⟩)
      refine j_acopy (w' := _) dJx4a65c_add_7a177_49 lJx4a65c_112 ac_n ac_s ac_i gb_m gb_m rfl (nI_pos (by omega)) (nI_pos (by omega)) (nI_pos (by omega)) (by rw [z_cla (n := j) (by omega), z_cla (n := (([] : List Value).length - j)) (by omega)]; omega) (by rw [z_cla (n := (j + 1)) (by omega), z_cla (n := (([] : List Value).length - j)) (by omega)]; omega) hcp (Nat.le_of_ble_eq_true rfl) (Nat.le_of_ble_eq_true rfl) rfl ?_
      refine j_seal b1 ?_
      intro w3 u3
      have g3_a := (u3.2.1 _ (Ne.symm b3)).trans gb_a
      have g3_m := u3.1
      have hf3 := u3.2.2.2 hf2
      refine j_aload dJx4a65c_add_7a177_52 rfl rfl ?_
      refine j_iload_n dJx4a65c_add_7a177_54 rfl ?_
      refine j_aload_n dJx4a65c_add_7a177_55 rfl hx.ir ?_
      obtain ⟨C9, hD1, hD2⟩ := (hx.m (((u1.fw h.1 h.2.1).tr fw2).tr (u3.fw b1 b2)).2.2).2
      refine j_aastO (w' := _) dJx4a65c_add_7a177_56 g3_m rfl hD1 hD2 (vp_in_nI (by omega) (by omega)) rfl ?_
      refine j_seal b1 ?_
      intro w4 u4
      have g4_a := (u4.2.1 _ (Ne.symm b3)).trans g3_a
      have g4_m := u4.1
      have hf4 := u4.2.2.2 hf3
      refine j_aload_n dJx4a65c_add_7a177_57 rfl rfl ?_
      refine j_iload_n dJx4a65c_add_7a177_58 rfl ?_
      refine j_iconst (v := 1) dJx4a65c_add_7a177_59 (by decide) ?_
      refine j_iadd dJx4a65c_add_7a177_60 ?_
      refine j_top (congrArg Value.int (nI_1 0)) ?_
      refine j_put (w' := _) dJx4a65c_add_7a177_61 fJx4a65c_48 tJx4a65c_2 g4_a ⟨rfl, rfl⟩ rfl ?_
      refine j_seal h.1 ?_
      intro w5 u5
      have g5_m := (u5.2.1 _ b3).trans g4_m
      have g5_a := u5.1
      have hf5 := u5.2.2.2 hf4
      refine j_vret dJx4a65c_add_7a177_64 rfl ?_ (Nat.le_of_ble_eq_true rfl) (by show _ ≤ 2 * M + 10; omega)
      exact ⟨rfl, (((((u1.fw h.1 h.2.1).tr fw2).tr (u3.fw b1 b2)).tr (u4.fw b1 b2)).tr (u5.fw h.1 h.2.1)), _, z_li.of h.1 h.2.1 (z_irI h.2.2.1 hx.ir) ⟨b1, b2, b3, by rw [z_lenI hj]; exact g5_a, g5_m, by rw [z_lenI hj]; omega, b7, z_conI b7 hj hl9 b8⟩⟩
end ZLs
