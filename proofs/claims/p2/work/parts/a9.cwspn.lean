section ZCws
variable {G : z_G} {l : Launch}
set_option maxRecDepth 100000 in
set_option maxHeartbeats 8000000 in
theorem c_X3_isMore_e (hl : l.stackTraces = false) (k u t b a : Int32) (c : Nat → Int32)  : z_CF G l mX3_isMore 10 0 0 [.inr (8, [.ref 1, .int k, .int u, .int t, .int b, .int a]), .inr (11, [.ref 2]), z_ia 7 c] [.ref 0] (fun v L => v = some (.int (z_bi (decide (a ≤ t)))) ∧ L = [.inr (8, [.ref 1, .int k, .int u, .int t, .int b, .int a]), .inr (11, [.ref 2]), z_ia 7 c]) := by
  refine z_body hl (by decide) rfl (Nat.le_of_ble_eq_true rfl) ?_
  show z_J G l mX3_isMore (z_SF 10 0 0 [.inr (8, [.ref 1, .int k, .int u, .int t, .int b, .int a]), .inr (11, [.ref 2]), z_ia 7 c] (fun v L => v = some (.int (z_bi (decide (a ≤ t)))) ∧ L = [.inr (8, [.ref 1, .int k, .int u, .int t, .int b, .int a]), .inr (11, [.ref 2]), z_ia 7 c])) 0 [(0, _)] [] _ 0 0
  refine j_aload_n dX3_isMore_0 rfl rfl ?_
  refine j_getf dX3_isMore_1 fX3_12 rfl rfl ?_
  refine j_aload_n dX3_isMore_4 rfl rfl ?_
  refine j_getf dX3_isMore_5 fX3_18 rfl rfl ?_
  refine j_icmp_gt (tgt := 15) dX3_isMore_8 (by decide) (fun c_8 => ?_) (fun c_8 => ?_)
  · refine j_iconst (v := 0) dX3_isMore_15 (by decide) ?_
    refine j_iret dX3_isMore_16 rfl rfl ?_ (Nat.le_of_ble_eq_true rfl) (Nat.le_of_ble_eq_true rfl)
    first | exact ⟨rfl, rfl, by rw [q_b1 (Int32.not_lt.mp c_8)], rfl⟩ | exact ⟨rfl, rfl, by rw [q_b0 (Int32.not_le.mpr c_8)], rfl⟩
  · refine j_iconst (v := 1) dX3_isMore_11 (by decide) ?_
    refine j_goto (tgt := 16) dX3_isMore_12 (by decide) ?_
    refine j_iret dX3_isMore_16 rfl rfl ?_ (Nat.le_of_ble_eq_true rfl) (Nat.le_of_ble_eq_true rfl)
    first | exact ⟨rfl, rfl, by rw [q_b1 (Int32.not_lt.mp c_8)], rfl⟩ | exact ⟨rfl, rfl, by rw [q_b0 (Int32.not_le.mpr c_8)], rfl⟩
set_option maxRecDepth 100000 in
set_option maxHeartbeats 8000000 in
theorem c_X3_next_e (hl : l.stackTraces = false) (k u t b a : Int32) (c : Nat → Int32)  : z_CF G l mX3_next 12 0 0 [.inr (8, [.ref 1, .int k, .int u, .int t, .int b, .int a]), .inr (11, [.ref 2]), z_ia 7 c] [.ref 0] (fun v L => v = some (.int a) ∧ L = [.inr (8, [.ref 1, .int k, .int a, .int t, .int b, .int (a + b)]), .inr (11, [.ref 2]), z_ia 7 c]) := by
  refine z_body hl (by decide) rfl (Nat.le_of_ble_eq_true rfl) ?_
  show z_J G l mX3_next (z_SF 12 0 0 [.inr (8, [.ref 1, .int k, .int u, .int t, .int b, .int a]), .inr (11, [.ref 2]), z_ia 7 c] (fun v L => v = some (.int a) ∧ L = [.inr (8, [.ref 1, .int k, .int a, .int t, .int b, .int (a + b)]), .inr (11, [.ref 2]), z_ia 7 c])) 0 [(0, _)] [] _ 0 0
  refine j_aload_n dX3_next_0 rfl rfl ?_
  refine j_aload_n dX3_next_1 rfl rfl ?_
  refine j_getf dX3_next_2 fX3_12 rfl rfl ?_
  refine j_put (w' := ([.inr (8, [_, _, _, _, _, _]), .inr (11, [_]), z_ia 7 _], z_no)) dX3_next_5 fX3_24 tX3_2 rfl ⟨rfl, rfl⟩ rfl ?_
  refine j_aload_n dX3_next_8 rfl rfl ?_
  refine j_dup dX3_next_9 rfl ?_
  refine j_getf dX3_next_10 fX3_12 rfl rfl ?_
  refine j_aload_n dX3_next_13 rfl rfl ?_
  refine j_getf dX3_next_14 fX3_21 rfl rfl ?_
  refine j_iadd dX3_next_17 ?_
  refine j_put (w' := ([.inr (8, [_, _, _, _, _, _]), .inr (11, [_]), z_ia 7 _], z_no)) dX3_next_18 fX3_12 tX3_5 rfl ⟨rfl, rfl⟩ rfl ?_
  refine j_aload_n dX3_next_21 rfl rfl ?_
  refine j_getf dX3_next_22 fX3_24 rfl rfl ?_
  refine j_iret dX3_next_25 rfl rfl ?_ (Nat.le_of_ble_eq_true rfl) (Nat.le_of_ble_eq_true rfl)
  exact ⟨rfl, rfl, rfl, rfl⟩
set_option maxRecDepth 100000 in
set_option maxHeartbeats 8000000 in
theorem c_X7_ask_X3_e (hl : l.stackTraces = false) (k u t b a : Int32) (c : Nat → Int32)  : z_CF G l mX7_ask 13 0 0 [.inr (8, [.ref 1, .int k, .int u, .int t, .int b, .int a]), .inr (11, [.ref 2]), z_ia 7 c] [.ref 0] (fun v L => v = some (.int (z_bi (decide (a ≤ t)))) ∧ L = [.inr (8, [.ref 1, .int k, .int u, .int t, .int b, .int a]), .inr (11, [.ref 2]), z_ia 7 (z_bp c 1)]) := by
  refine z_body hl (by decide) rfl (Nat.le_of_ble_eq_true rfl) ?_
  show z_J G l mX7_ask (z_SF 13 0 0 [.inr (8, [.ref 1, .int k, .int u, .int t, .int b, .int a]), .inr (11, [.ref 2]), z_ia 7 c] (fun v L => v = some (.int (z_bi (decide (a ≤ t)))) ∧ L = [.inr (8, [.ref 1, .int k, .int u, .int t, .int b, .int a]), .inr (11, [.ref 2]), z_ia 7 (z_bp c 1)])) 0 [(0, _)] [] _ 0 0
  refine j_aload_n dX7_ask_0 rfl rfl ?_
  refine j_getf dX7_ask_1 fX7_9_X3 rfl rfl ?_
  refine j_iconst (v := 1) dX7_ask_4 (by decide) ?_
  refine j_callV (q := (RX6, TX6, 1)) dX7_ask_5 kX6_add lX7_15 inX6_add seX6_add rfl rfl (z_frame [1, 2] rfl (by decide) (Nat.le_of_ble_eq_true rfl) (c_X6_add_e hl _ 1 (by decide))) (Nat.le_of_ble_eq_true rfl) ⟨(Nat.le_of_ble_eq_true rfl), (Nat.le_of_ble_eq_true rfl)⟩ rfl (Nat.le_of_ble_eq_true rfl) rfl rfl (fun _ _ h => h.elim) ?_
  rintro _ _ ⟨_, _, ⟨rfl, rfl⟩, rfl, rfl⟩
  refine j_w ([.inr (8, [_, _, _, _, _, _]), .inr (11, [_]), z_ia 7 _], z_no) rfl ?_
  refine j_aload_n dX7_ask_8 rfl rfl ?_
  refine j_callU (q := (RX3, TX3, 6)) dX7_ask_9 kX3_isMore cuX7_21_X3 rfl rfl (z_frame [0, 1, 2] rfl (by decide) (Nat.le_of_ble_eq_true rfl) (c_X3_isMore_e hl _ _ _ _ _ _)) (Nat.le_of_ble_eq_true rfl) ⟨(Nat.le_of_ble_eq_true rfl), (Nat.le_of_ble_eq_true rfl)⟩ rfl (Nat.le_of_ble_eq_true rfl) rfl rfl (fun _ _ h => h.elim) ?_
  rintro _ _ ⟨_, _, ⟨rfl, rfl⟩, rfl, rfl⟩
  refine j_w ([.inr (8, [_, _, _, _, _, _]), .inr (11, [_]), z_ia 7 _], z_no) rfl ?_
  refine j_iret dX7_ask_12 rfl (z_bn _) ?_ (Nat.le_of_ble_eq_true rfl) (Nat.le_of_ble_eq_true rfl)
  exact ⟨rfl, rfl, rfl, rfl⟩
set_option maxRecDepth 100000 in
set_option maxHeartbeats 8000000 in
theorem c_X7_give_X3_e (hl : l.stackTraces = false) (k u t b a : Int32) (c : Nat → Int32)  : z_CF G l mX7_give 13 0 0 [.inr (8, [.ref 1, .int k, .int u, .int t, .int b, .int a]), .inr (11, [.ref 2]), z_ia 7 c] [.ref 0] (fun v L => v = some (.int a) ∧ L = [.inr (8, [.ref 1, .int k, .int a, .int t, .int b, .int (a + b)]), .inr (11, [.ref 2]), z_ia 7 (z_bp c 2)]) := by
  refine z_body hl (by decide) rfl (Nat.le_of_ble_eq_true rfl) ?_
  show z_J G l mX7_give (z_SF 13 0 0 [.inr (8, [.ref 1, .int k, .int u, .int t, .int b, .int a]), .inr (11, [.ref 2]), z_ia 7 c] (fun v L => v = some (.int a) ∧ L = [.inr (8, [.ref 1, .int k, .int a, .int t, .int b, .int (a + b)]), .inr (11, [.ref 2]), z_ia 7 (z_bp c 2)])) 0 [(0, _)] [] _ 0 0
  refine j_aload_n dX7_give_0 rfl rfl ?_
  refine j_getf dX7_give_1 fX7_9_X3 rfl rfl ?_
  refine j_iconst (v := 2) dX7_give_4 (by decide) ?_
  refine j_callV (q := (RX6, TX6, 1)) dX7_give_5 kX6_add lX7_15 inX6_add seX6_add rfl rfl (z_frame [1, 2] rfl (by decide) (Nat.le_of_ble_eq_true rfl) (c_X6_add_e hl _ 2 (by decide))) (Nat.le_of_ble_eq_true rfl) ⟨(Nat.le_of_ble_eq_true rfl), (Nat.le_of_ble_eq_true rfl)⟩ rfl (Nat.le_of_ble_eq_true rfl) rfl rfl (fun _ _ h => h.elim) ?_
  rintro _ _ ⟨_, _, ⟨rfl, rfl⟩, rfl, rfl⟩
  refine j_w ([.inr (8, [_, _, _, _, _, _]), .inr (11, [_]), z_ia 7 _], z_no) rfl ?_
  refine j_aload_n dX7_give_8 rfl rfl ?_
  refine j_callU (q := (RX3, TX3, 6)) dX7_give_9 kX3_next cuX7_25_X3 rfl rfl (z_frame [0, 1, 2] rfl (by decide) (Nat.le_of_ble_eq_true rfl) (c_X3_next_e hl _ _ _ _ _ _)) (Nat.le_of_ble_eq_true rfl) ⟨(Nat.le_of_ble_eq_true rfl), (Nat.le_of_ble_eq_true rfl)⟩ rfl (Nat.le_of_ble_eq_true rfl) rfl rfl (fun _ _ h => h.elim) ?_
  rintro _ _ ⟨_, _, ⟨rfl, rfl⟩, rfl, rfl⟩
  refine j_w ([.inr (8, [_, _, _, _, _, _]), .inr (11, [_]), z_ia 7 _], z_no) rfl ?_
  refine j_iret dX7_give_12 rfl rfl ?_ (Nat.le_of_ble_eq_true rfl) (Nat.le_of_ble_eq_true rfl)
  exact ⟨rfl, rfl, rfl, rfl⟩
set_option maxRecDepth 100000 in
set_option maxHeartbeats 8000000 in
theorem c_X8_passBy_X3_e (hl : l.stackTraces = false) (k u t b a : Int32) (c : Nat → Int32) (j d : Nat) (hd : d < 1000) : z_CF G l mX8_passBy 15 0 0 [.inr (8, [.ref 1, .int k, .int u, .int t, .int b, .int (a + nI j * b)]), .inr (11, [.ref 2]), z_ia 7 c] [.ref 0, .int (nI d)] (fun v L => v = none ∧ ∃ (u' : Int32) (c' : Nat → Int32), L = [.inr (8, [.ref 1, .int k, .int u', .int t, .int b, .int (a + nI (j + d) * b)]), .inr (11, [.ref 2]), z_ia 7 c']) := by
  refine z_body hl (by decide) rfl (Nat.le_of_ble_eq_true rfl) ?_
  show z_J G l mX8_passBy (z_SF 15 0 0 [.inr (8, [.ref 1, .int k, .int u, .int t, .int b, .int (a + nI j * b)]), .inr (11, [.ref 2]), z_ia 7 c] (fun v L => v = none ∧ ∃ (u' : Int32) (c' : Nat → Int32), L = [.inr (8, [.ref 1, .int k, .int u', .int t, .int b, .int (a + nI (j + d) * b)]), .inr (11, [.ref 2]), z_ia 7 c'])) 0 [(0, _), (1, _)] [] _ 0 0
  refine j_iconst (v := 0) dX8_passBy_0 (by decide) ?_
  refine j_istore_n (lo' := [(2, _), (0, _), (1, _)]) dX8_passBy_1 (by decide) rfl ?_
  have loop : ∀ (n9 : Nat) (u' : Int32) (c' : Nat → Int32) (i : Nat), (i ≤ d) → (d < i + n9) → z_J G l mX8_passBy (z_SF 15 0 0 [.inr (8, [.ref 1, .int k, .int u, .int t, .int b, .int (a + nI j * b)]), .inr (11, [.ref 2]), z_ia 7 c] (fun v L => v = none ∧ ∃ (u' : Int32) (c' : Nat → Int32), L = [.inr (8, [.ref 1, .int k, .int u', .int t, .int b, .int (a + nI (j + d) * b)]), .inr (11, [.ref 2]), z_ia 7 c'])) 2 [(0, .ref 0), (1, .int (nI d)), (2, .int (nI i))] [] ([.inr (8, [.ref 1, .int k, .int u', .int t, .int b, .int (a + nI (j + i) * b)]), .inr (11, [.ref 2]), z_ia 7 c'], z_no) 0 0 := by
    intro n9
    induction n9 with
    | zero => intro u' c' i hi hf9; exact absurd hf9 (by omega)
    | succ n9 ih =>
      intro u' c' i hi hf9
      refine j_iload_n dX8_passBy_2 rfl ?_
      refine j_iload_n dX8_passBy_3 rfl ?_
      refine j_icmp_ge (tgt := 18) dX8_passBy_4 (by decide) (fun c_4 => ?_) (fun c_4 => ?_)
      · have hb4 : d ≤ i := (nI_leI (a := d) (b := i) (by omega) (by omega)).mp c_4
        have hia : i = d := by omega
        subst hia
        refine j_vret dX8_passBy_18 rfl ?_ (Nat.le_of_ble_eq_true rfl) (Nat.le_of_ble_eq_true rfl)
        exact ⟨rfl, rfl, rfl, _, _, rfl⟩
      · have hb4 : i < d := Nat.not_le.mp (fun z => c_4 ((nI_leI (a := d) (b := i) (by omega) (by omega)).mpr z))
        refine j_aload_n dX8_passBy_7 rfl rfl ?_
        refine j_callU (q := (RX3, TX3, 6)) dX8_passBy_8 kX7_give cuX8_315_X3 rfl rfl (z_frame [0, 1, 2] rfl (by decide) (Nat.le_of_ble_eq_true rfl) (c_X7_give_X3_e hl _ _ _ _ (a + nI (j + i) * b) _)) (Nat.le_of_ble_eq_true rfl) ⟨(Nat.le_of_ble_eq_true rfl), (Nat.le_of_ble_eq_true rfl)⟩ rfl (Nat.le_of_ble_eq_true rfl) rfl rfl (fun _ _ h => h.elim) ?_
        rintro _ _ ⟨_, _, ⟨rfl, rfl⟩, rfl, rfl⟩
        refine j_w ([.inr (8, [_, _, _, _, _, _]), .inr (11, [_]), z_ia 7 _], z_no) rfl ?_
        rw [sp_stp]
        refine j_pop dX8_passBy_11 rfl ?_
        refine j_iinc (lo' := [(2, _), (0, _), (1, _)]) dX8_passBy_12 rfl (z_inc _) (by decide) rfl ?_
        refine j_goto (tgt := 2) dX8_passBy_15 (by decide) ?_
        exact j_lo2 (ih _ _ (i + 1) (by omega) (by omega)) (z_q1 rfl (z_q1 rfl (z_q1 rfl z_q0)))
  exact j_lo2 (loop (d + 1) _ _ 0 (by omega) (by omega)) (z_q1 rfl (z_q1 rfl (z_q1 rfl z_q0)))
set_option maxRecDepth 100000 in
set_option maxHeartbeats 8000000 in
theorem c_X8_hearOut_X3_e (hl : l.stackTraces = false) (k u t b a : Int32) (c : Nat → Int32) (j : Nat) (h : sp_H) (ef : Nat → Int32) (hav : z_vl a) (htv : z_vl t) (hbv : 1 ≤ b ∧ b ≤ 99) (h40 : z_mny a t b ≤ 40) (hm40 : (z_mny a t b).toNatClampNeg ≤ 40) (hj : j ≤ (z_mny a t b).toNatClampNeg) (he : z_row 10 (nI h.2.length) ef h.2) : z_CF G l mX8_hearOut 15 0 0 [.inr (8, [.ref 1, .int k, .int u, .int t, .int b, .int (a + nI j * b)]), .inr (11, [.ref 2]), z_ia 7 c, .inr (5, [.ref 4, .int (nI h.2.length), .int h.1.2.1, .int h.1.2.2.1, .int h.1.2.2.2, .int h.1.1]), z_ia 10 ef] [.ref 0, .ref 3] (fun v L => v = some (.int (((sp_ho c h 0 (sp_spn a b j ((z_mny a t b).toNatClampNeg - j))).1.map nI).getD (-1001))) ∧ ∃ (u' : Int32) (a' : Int32) (ef' : Nat → Int32), z_row 10 (nI (sp_ho c h 0 (sp_spn a b j ((z_mny a t b).toNatClampNeg - j))).2.2.2.length) ef' (sp_ho c h 0 (sp_spn a b j ((z_mny a t b).toNatClampNeg - j))).2.2.2 ∧ L = [.inr (8, [.ref 1, .int k, .int u', .int t, .int b, .int a']), .inr (11, [.ref 2]), z_ia 7 (sp_ho c h 0 (sp_spn a b j ((z_mny a t b).toNatClampNeg - j))).2.1, .inr (5, [.ref 4, .int (nI (sp_ho c h 0 (sp_spn a b j ((z_mny a t b).toNatClampNeg - j))).2.2.2.length), .int (sp_ho c h 0 (sp_spn a b j ((z_mny a t b).toNatClampNeg - j))).2.2.1.2.1, .int (sp_ho c h 0 (sp_spn a b j ((z_mny a t b).toNatClampNeg - j))).2.2.1.2.2.1, .int (sp_ho c h 0 (sp_spn a b j ((z_mny a t b).toNatClampNeg - j))).2.2.1.2.2.2, .int (sp_ho c h 0 (sp_spn a b j ((z_mny a t b).toNatClampNeg - j))).2.2.1.1]), z_ia 10 ef']) := by
  refine z_body hl (by decide) rfl (Nat.le_of_ble_eq_true rfl) ?_
  show z_J G l mX8_hearOut (z_SF 15 0 0 [.inr (8, [.ref 1, .int k, .int u, .int t, .int b, .int (a + nI j * b)]), .inr (11, [.ref 2]), z_ia 7 c, .inr (5, [.ref 4, .int (nI h.2.length), .int h.1.2.1, .int h.1.2.2.1, .int h.1.2.2.2, .int h.1.1]), z_ia 10 ef] (fun v L => v = some (.int (((sp_ho c h 0 (sp_spn a b j ((z_mny a t b).toNatClampNeg - j))).1.map nI).getD (-1001))) ∧ ∃ (u' : Int32) (a' : Int32) (ef' : Nat → Int32), z_row 10 (nI (sp_ho c h 0 (sp_spn a b j ((z_mny a t b).toNatClampNeg - j))).2.2.2.length) ef' (sp_ho c h 0 (sp_spn a b j ((z_mny a t b).toNatClampNeg - j))).2.2.2 ∧ L = [.inr (8, [.ref 1, .int k, .int u', .int t, .int b, .int a']), .inr (11, [.ref 2]), z_ia 7 (sp_ho c h 0 (sp_spn a b j ((z_mny a t b).toNatClampNeg - j))).2.1, .inr (5, [.ref 4, .int (nI (sp_ho c h 0 (sp_spn a b j ((z_mny a t b).toNatClampNeg - j))).2.2.2.length), .int (sp_ho c h 0 (sp_spn a b j ((z_mny a t b).toNatClampNeg - j))).2.2.1.2.1, .int (sp_ho c h 0 (sp_spn a b j ((z_mny a t b).toNatClampNeg - j))).2.2.1.2.2.1, .int (sp_ho c h 0 (sp_spn a b j ((z_mny a t b).toNatClampNeg - j))).2.2.1.2.2.2, .int (sp_ho c h 0 (sp_spn a b j ((z_mny a t b).toNatClampNeg - j))).2.2.1.1]), z_ia 10 ef'])) 0 [(0, _), (1, _)] [] _ 0 0
  refine j_iconst (v := 0) dX8_hearOut_0 (by decide) ?_
  refine j_istore_n (lo' := [(2, _), (0, _), (1, _)]) dX8_hearOut_1 (by decide) rfl ?_
  refine j_iconst (v := 0) dX8_hearOut_2 (by decide) ?_
  refine j_istore_n (lo' := [(3, _), (2, _), (0, _), (1, _)]) dX8_hearOut_3 (by decide) rfl ?_
  have loop : ∀ (n9 : Nat) (h1 : sp_H) (c1 ef1 : Nat → Int32) (m s1 : Nat) (u1 : Int32) (j1 : Nat), (j1 ≤ (z_mny a t b).toNatClampNeg) → (s1 ≤ j1) → (m ≤ j1) → ((z_mny a t b).toNatClampNeg < j1 + n9) → (z_row 10 (nI h1.2.length) ef1 h1.2) → (sp_ho c1 h1 m (sp_spn a b j1 ((z_mny a t b).toNatClampNeg - j1)) = (sp_ho c h 0 (sp_spn a b j ((z_mny a t b).toNatClampNeg - j)))) → z_J G l mX8_hearOut (z_SF 15 0 0 [.inr (8, [.ref 1, .int k, .int u, .int t, .int b, .int (a + nI j * b)]), .inr (11, [.ref 2]), z_ia 7 c, .inr (5, [.ref 4, .int (nI h.2.length), .int h.1.2.1, .int h.1.2.2.1, .int h.1.2.2.2, .int h.1.1]), z_ia 10 ef] (fun v L => v = some (.int (((sp_ho c h 0 (sp_spn a b j ((z_mny a t b).toNatClampNeg - j))).1.map nI).getD (-1001))) ∧ ∃ (u' : Int32) (a' : Int32) (ef' : Nat → Int32), z_row 10 (nI (sp_ho c h 0 (sp_spn a b j ((z_mny a t b).toNatClampNeg - j))).2.2.2.length) ef' (sp_ho c h 0 (sp_spn a b j ((z_mny a t b).toNatClampNeg - j))).2.2.2 ∧ L = [.inr (8, [.ref 1, .int k, .int u', .int t, .int b, .int a']), .inr (11, [.ref 2]), z_ia 7 (sp_ho c h 0 (sp_spn a b j ((z_mny a t b).toNatClampNeg - j))).2.1, .inr (5, [.ref 4, .int (nI (sp_ho c h 0 (sp_spn a b j ((z_mny a t b).toNatClampNeg - j))).2.2.2.length), .int (sp_ho c h 0 (sp_spn a b j ((z_mny a t b).toNatClampNeg - j))).2.2.1.2.1, .int (sp_ho c h 0 (sp_spn a b j ((z_mny a t b).toNatClampNeg - j))).2.2.1.2.2.1, .int (sp_ho c h 0 (sp_spn a b j ((z_mny a t b).toNatClampNeg - j))).2.2.1.2.2.2, .int (sp_ho c h 0 (sp_spn a b j ((z_mny a t b).toNatClampNeg - j))).2.2.1.1]), z_ia 10 ef'])) 4 [(0, .ref 0), (1, .ref 3), (2, .int (nI m)), (3, .int (nI s1))] [] ([.inr (8, [.ref 1, .int k, .int u1, .int t, .int b, .int (a + nI j1 * b)]), .inr (11, [.ref 2]), z_ia 7 c1, .inr (5, [.ref 4, .int (nI h1.2.length), .int h1.1.2.1, .int h1.1.2.2.1, .int h1.1.2.2.2, .int h1.1.1]), z_ia 10 ef1], z_no) 0 0 := by
    intro n9
    induction n9 with
    | zero => intro h1 c1 ef1 m s1 u1 j1 hj1 hs1 hm hf9 he1 ho; exact absurd hf9 (by omega)
    | succ n9 ih =>
      intro h1 c1 ef1 m s1 u1 j1 hj1 hs1 hm hf9 he1 ho
      refine j_iload_n dX8_hearOut_4 rfl ?_
      refine j_sipush (v := 1000) dX8_hearOut_5 (by decide) ?_
      refine j_icmp_ge (tgt := 42) dX8_hearOut_8 (by decide) (fun c_8 => ?_) (fun c_8 => ?_)
      · have hb8 : 1000 ≤ s1 := (nI_leI (a := 1000) (b := s1) (by omega) (by omega)).mp c_8
        exact absurd hb8 (by omega)
      · have hb8 : s1 < 1000 := Nat.not_le.mp (fun z => c_8 ((nI_leI (a := 1000) (b := s1) (by omega) (by omega)).mpr z))
        refine j_aload_n dX8_hearOut_11 rfl rfl ?_
        refine j_callU (q := (RX3, TX3, 6)) dX8_hearOut_12 kX7_ask cuX8_320_X3 rfl rfl (z_frame [0, 1, 2] rfl (by decide) (Nat.le_of_ble_eq_true rfl) (c_X7_ask_X3_e hl _ _ _ _ (a + nI j1 * b) _)) (Nat.le_of_ble_eq_true rfl) ⟨(Nat.le_of_ble_eq_true rfl), (Nat.le_of_ble_eq_true rfl)⟩ rfl (Nat.le_of_ble_eq_true rfl) rfl rfl (fun _ _ h => h.elim) ?_
        rintro _ _ ⟨_, _, ⟨rfl, rfl⟩, rfl, rfl⟩
        refine j_w ([.inr (8, [_, _, _, _, _, _]), .inr (11, [_]), z_ia 7 _, .inr (5, [_, _, _, _, _, _]), z_ia 10 _], z_no) rfl ?_
        refine j_if_eq (tgt := 42) dX8_hearOut_15 (by decide) (fun c_15 => ?_) (fun c_15 => ?_)
        · have hb15 := z_bF c_15
          have hnl : ¬ j1 < (z_mny a t b).toNatClampNeg := fun z => of_decide_eq_false hb15 ((sp_spm hav htv hbv h40 (by omega)).mpr z)
          rw [show (z_mny a t b).toNatClampNeg - j1 = 0 by omega] at ho
          refine j_iload_n dX8_hearOut_42 rfl ?_
          refine j_iret dX8_hearOut_43 rfl rfl ?_ (Nat.le_of_ble_eq_true rfl) (Nat.le_of_ble_eq_true rfl)
          exact ⟨rfl, rfl, (by rw [← ho]; rfl), _, _, _, (by rw [← ho]; exact he1), (by rw [← ho]; rfl)⟩
        · have hb15 := z_bt c_15
          have hjl : j1 < (z_mny a t b).toNatClampNeg := (sp_spm hav htv hbv h40 (by omega)).mp (of_decide_eq_true hb15)
          rw [show (z_mny a t b).toNatClampNeg - j1 = ((z_mny a t b).toNatClampNeg - (j1 + 1)) + 1 by omega] at ho
          rw [sp_spnS] at ho
          refine j_aload_n dX8_hearOut_18 rfl rfl ?_
          refine j_aload_n dX8_hearOut_19 rfl rfl ?_
          refine j_callU (q := (RX3, TX3, 6)) dX8_hearOut_20 kX7_give cuX8_315_X3 rfl rfl (z_frame [0, 1, 2] rfl (by decide) (Nat.le_of_ble_eq_true rfl) (c_X7_give_X3_e hl _ _ _ _ (a + nI j1 * b) _)) (Nat.le_of_ble_eq_true rfl) ⟨(Nat.le_of_ble_eq_true rfl), (Nat.le_of_ble_eq_true rfl)⟩ rfl (Nat.le_of_ble_eq_true rfl) rfl rfl (fun _ _ h => h.elim) ?_
          rintro _ _ ⟨_, _, ⟨rfl, rfl⟩, rfl, rfl⟩
          refine j_w ([.inr (8, [_, _, _, _, _, _]), .inr (11, [_]), z_ia 7 _, .inr (5, [_, _, _, _, _, _]), z_ia 10 _], z_no) rfl ?_
          rw [sp_stp]
          refine j_callV (q := (RX0, TX0, 6)) dX8_hearOut_23 kX0_takesIn lX8_323 inX0_takesIn seX0_takesIn rfl rfl (z_frame [3, 4] rfl (by decide) (Nat.le_of_ble_eq_true rfl) (c_X0_takesIn_e hl h1 _ (a + nI j1 * b) he1)) (Nat.le_of_ble_eq_true rfl) ⟨(Nat.le_of_ble_eq_true rfl), (Nat.le_of_ble_eq_true rfl)⟩ rfl (Nat.le_of_ble_eq_true rfl) rfl rfl (fun _ _ h => h.elim) ?_
          rintro _ _ ⟨_, _, ⟨rfl, ef2, hf9e, rfl⟩, rfl, rfl⟩
          refine j_w ([.inr (8, [_, _, _, _, _, _]), .inr (11, [_]), z_ia 7 _, .inr (5, [_, _, _, _, _, _]), z_ia 10 _], z_no) rfl ?_
          refine j_if_ne (tgt := 33) dX8_hearOut_26 (by decide) (fun c_26 => ?_) (fun c_26 => ?_)
          · have hb26 := z_bt c_26
            rw [sp_hoS2 hb26] at ho
            refine j_iinc (lo' := [(2, _), (0, _), (1, _), (3, _)]) dX8_hearOut_33 rfl (z_inc _) (by decide) rfl ?_
            refine j_iinc (lo' := [(3, _), (2, _), (0, _), (1, _)]) dX8_hearOut_36 rfl (z_inc _) (by decide) rfl ?_
            refine j_goto (tgt := 4) dX8_hearOut_39 (by decide) ?_
            exact j_lo2 (ih _ _ _ (m + 1) (s1 + 1) _ (j1 + 1) (by omega) (by omega) (by omega) (by omega) hf9e ho) (z_q1 rfl (z_q1 rfl (z_q1 rfl (z_q1 rfl z_q0))))
          · have hb26 := z_bF c_26
            rw [sp_hoN2 hb26] at ho
            refine j_sipush (v := (-1001)) dX8_hearOut_29 (by decide) ?_
            refine j_iret dX8_hearOut_32 rfl rfl ?_ (Nat.le_of_ble_eq_true rfl) (Nat.le_of_ble_eq_true rfl)
            exact ⟨rfl, rfl, (by rw [← ho]; rfl), _, _, _, (by rw [← ho]; exact hf9e), (by rw [← ho] <;> rfl)⟩
  exact j_lo2 (loop ((z_mny a t b).toNatClampNeg + 1) h c ef 0 0 u j (by omega) (by omega) (by omega) (by omega) he rfl) (z_q1 rfl (z_q1 rfl (z_q1 rfl (z_q1 rfl z_q0))))
end ZCws
