section ZCw
variable {G : z_G} {l : Launch}
set_option maxRecDepth 100000 in
set_option maxHeartbeats 8000000 in
theorem c_X7_init_X2_e (hl : l.stackTraces = false) (k u p : Int32) (c : Nat → Int32)  : z_CF G l mX7_init 12 0 0 [.inr (7, [.null, .int k, .int u, .null, .int p]), .inr (11, [.ref 2]), z_ia 7 c] [.ref 0, .ref 1] (fun v L => v = none ∧ L = [.inr (7, [.ref 1, .int k, .int u, .null, .int p]), .inr (11, [.ref 2]), z_ia 7 (z_bp c 0)]) := by
  refine z_body hl (by decide) rfl (Nat.le_of_ble_eq_true rfl) ?_
  show z_J G l mX7_init (z_SF 12 0 0 [.inr (7, [.null, .int k, .int u, .null, .int p]), .inr (11, [.ref 2]), z_ia 7 c] (fun v L => v = none ∧ L = [.inr (7, [.ref 1, .int k, .int u, .null, .int p]), .inr (11, [.ref 2]), z_ia 7 (z_bp c 0)])) 0 [(0, _), (1, _)] [] _ 0 0
  refine j_aload_n dX7_init_0 rfl rfl ?_
  refine j_objI dX7_init_1 oX7_3 z_oi1 z_oi2 (Nat.le_of_ble_eq_true rfl) (Nat.le_of_ble_eq_true rfl) ?_
  refine j_aload_n dX7_init_4 rfl rfl ?_
  refine j_aload_n dX7_init_5 rfl rfl ?_
  refine j_putF (w' := ([.inr (7, [_, _, _, _, _]), .inr (11, [_]), z_ia 7 _], z_no)) dX7_init_6 fX7_9_X2 tX2_0 rfl (z_dc rfl rfl (z_w 254 ((lwg_1 209).trans (by decide +kernel)) (by decide +kernel))) rfl (Or.inl ⟨_, rfl⟩) rfl ?_
  refine j_aload_n dX7_init_9 rfl rfl ?_
  refine j_iconst (v := 0) dX7_init_10 (by decide) ?_
  refine j_callV (q := (RX6, TX6, 1)) dX7_init_11 kX6_add lX7_15 inX6_add seX6_add rfl rfl (z_frame [1, 2] rfl (by decide) (Nat.le_of_ble_eq_true rfl) (c_X6_add_e hl _ 0 (by decide))) (Nat.le_of_ble_eq_true rfl) ⟨(Nat.le_of_ble_eq_true rfl), (Nat.le_of_ble_eq_true rfl)⟩ rfl (Nat.le_of_ble_eq_true rfl) rfl rfl (fun _ _ h => h.elim) ?_
  rintro _ _ ⟨_, _, ⟨rfl, rfl⟩, rfl, rfl⟩
  refine j_w ([.inr (7, [_, _, _, _, _]), .inr (11, [_]), z_ia 7 _], z_no) rfl ?_
  refine j_vret dX7_init_14 rfl ?_ (Nat.le_of_ble_eq_true rfl) (Nat.le_of_ble_eq_true rfl)
  exact ⟨rfl, rfl, rfl, rfl⟩
set_option maxRecDepth 100000 in
set_option maxHeartbeats 8000000 in
theorem c_X7_init_X5_e (hl : l.stackTraces = false) (k u p : Int32) (c : Nat → Int32)  : z_CF G l mX7_init 12 0 0 [.inr (10, [.null, .int k, .int u, .null, .int p]), .inr (11, [.ref 2]), z_ia 7 c] [.ref 0, .ref 1] (fun v L => v = none ∧ L = [.inr (10, [.ref 1, .int k, .int u, .null, .int p]), .inr (11, [.ref 2]), z_ia 7 (z_bp c 0)]) := by
  refine z_body hl (by decide) rfl (Nat.le_of_ble_eq_true rfl) ?_
  show z_J G l mX7_init (z_SF 12 0 0 [.inr (10, [.null, .int k, .int u, .null, .int p]), .inr (11, [.ref 2]), z_ia 7 c] (fun v L => v = none ∧ L = [.inr (10, [.ref 1, .int k, .int u, .null, .int p]), .inr (11, [.ref 2]), z_ia 7 (z_bp c 0)])) 0 [(0, _), (1, _)] [] _ 0 0
  refine j_aload_n dX7_init_0 rfl rfl ?_
  refine j_objI dX7_init_1 oX7_3 z_oi1 z_oi2 (Nat.le_of_ble_eq_true rfl) (Nat.le_of_ble_eq_true rfl) ?_
  refine j_aload_n dX7_init_4 rfl rfl ?_
  refine j_aload_n dX7_init_5 rfl rfl ?_
  refine j_putF (w' := ([.inr (10, [_, _, _, _, _]), .inr (11, [_]), z_ia 7 _], z_no)) dX7_init_6 fX7_9_X5 tX5_0 rfl (z_dc rfl rfl (z_w 254 ((lwg_1 209).trans (by decide +kernel)) (by decide +kernel))) rfl (Or.inl ⟨_, rfl⟩) rfl ?_
  refine j_aload_n dX7_init_9 rfl rfl ?_
  refine j_iconst (v := 0) dX7_init_10 (by decide) ?_
  refine j_callV (q := (RX6, TX6, 1)) dX7_init_11 kX6_add lX7_15 inX6_add seX6_add rfl rfl (z_frame [1, 2] rfl (by decide) (Nat.le_of_ble_eq_true rfl) (c_X6_add_e hl _ 0 (by decide))) (Nat.le_of_ble_eq_true rfl) ⟨(Nat.le_of_ble_eq_true rfl), (Nat.le_of_ble_eq_true rfl)⟩ rfl (Nat.le_of_ble_eq_true rfl) rfl rfl (fun _ _ h => h.elim) ?_
  rintro _ _ ⟨_, _, ⟨rfl, rfl⟩, rfl, rfl⟩
  refine j_w ([.inr (10, [_, _, _, _, _]), .inr (11, [_]), z_ia 7 _], z_no) rfl ?_
  refine j_vret dX7_init_14 rfl ?_ (Nat.le_of_ble_eq_true rfl) (Nat.le_of_ble_eq_true rfl)
  exact ⟨rfl, rfl, rfl, rfl⟩
set_option maxRecDepth 100000 in
set_option maxHeartbeats 8000000 in
theorem c_X2_init_e (hl : l.stackTraces = false) (m : Int32) (x : Bool) (f c : Nat → Int32)  : z_CF G l mX2_init 13 0 0 [.inr (7, [.null, .int 0, .int 0, .null, .int 0]), .inr (6, [.ref 2, .ref 3, .int m, .int (z_bi x)]), z_ia 12 f, .inr (11, [.ref 4]), z_ia 7 c] [.ref 0, .ref 1] (fun v L => v = none ∧ L = [.inr (7, [.ref 3, .int 0, .int 0, .ref 1, .int 0]), .inr (6, [.ref 2, .ref 3, .int m, .int (z_bi x)]), z_ia 12 f, .inr (11, [.ref 4]), z_ia 7 (z_bp c 0)]) := by
  refine z_body hl (by decide) rfl (Nat.le_of_ble_eq_true rfl) ?_
  show z_J G l mX2_init (z_SF 13 0 0 [.inr (7, [.null, .int 0, .int 0, .null, .int 0]), .inr (6, [.ref 2, .ref 3, .int m, .int (z_bi x)]), z_ia 12 f, .inr (11, [.ref 4]), z_ia 7 c] (fun v L => v = none ∧ L = [.inr (7, [.ref 3, .int 0, .int 0, .ref 1, .int 0]), .inr (6, [.ref 2, .ref 3, .int m, .int (z_bi x)]), z_ia 12 f, .inr (11, [.ref 4]), z_ia 7 (z_bp c 0)])) 0 [(0, _), (1, _)] [] _ 0 0
  refine j_aload_n dX2_init_0 rfl rfl ?_
  refine j_aload_n dX2_init_1 rfl rfl ?_
  refine j_getf dX2_init_2 fX2_3 rfl rfl ?_
  refine j_callI dX2_init_5 kX7_init rfl lX2_9 inX7_init rfl (z_frame [0, 3, 4] rfl (by decide) (Nat.le_of_ble_eq_true rfl) (c_X7_init_X2_e hl _ _ _ _)) (Nat.le_of_ble_eq_true rfl) ⟨(Nat.le_of_ble_eq_true rfl), (Nat.le_of_ble_eq_true rfl)⟩ rfl (Nat.le_of_ble_eq_true rfl) rfl rfl (fun _ _ h => h.elim) ?_
  rintro _ _ ⟨_, _, ⟨rfl, rfl⟩, rfl, rfl⟩
  refine j_w ([.inr (7, [_, _, _, _, _]), .inr (6, [_, _, _, _]), z_ia 12 _, .inr (11, [_]), z_ia 7 _], z_no) rfl ?_
  refine j_aload_n dX2_init_8 rfl rfl ?_
  refine j_aload_n dX2_init_9 rfl rfl ?_
  refine j_putF (w' := ([.inr (7, [_, _, _, _, _]), .inr (6, [_, _, _, _]), z_ia 12 _, .inr (11, [_]), z_ia 7 _], z_no)) dX2_init_10 fX2_15 tX2_3 rfl (z_dc rfl rfl (z_w 252 ((lwg_1 207).trans (by decide +kernel)) (by decide +kernel))) rfl (Or.inl ⟨_, rfl⟩) rfl ?_
  refine j_vret dX2_init_13 rfl ?_ (Nat.le_of_ble_eq_true rfl) (Nat.le_of_ble_eq_true rfl)
  exact ⟨rfl, rfl, rfl, rfl⟩
set_option maxRecDepth 100000 in
set_option maxHeartbeats 8000000 in
theorem c_X8_passBy_X2_e (hl : l.stackTraces = false) (k u : Int32) (x : Bool) (f c : Nat → Int32) (B : List Int32) (M a : Nat) (hr : z_row 12 (nI M) f B) (hM : M = B.length) (hja : a ≤ B.length) : z_CF G l mX8_passBy 15 0 0 [.inr (7, [.ref 3, .int k, .int u, .ref 1, .int (nI 0)]), .inr (6, [.ref 2, .ref 3, .int (nI M), .int (z_bi x)]), z_ia 12 f, .inr (11, [.ref 4]), z_ia 7 c] [.ref 0, .int (nI a)] (fun v L => v = none ∧ ∃ u' : Int32, L = [.inr (7, [.ref 3, .int k, .int u', .ref 1, .int (nI a)]), .inr (6, [.ref 2, .ref 3, .int (nI M), .int (z_bi x)]), z_ia 12 f, .inr (11, [.ref 4]), z_ia 7 (sp_bps c 2 a)]) := by
  refine z_body hl (by decide) rfl (Nat.le_of_ble_eq_true rfl) ?_
  show z_J G l mX8_passBy (z_SF 15 0 0 [.inr (7, [.ref 3, .int k, .int u, .ref 1, .int (nI 0)]), .inr (6, [.ref 2, .ref 3, .int (nI M), .int (z_bi x)]), z_ia 12 f, .inr (11, [.ref 4]), z_ia 7 c] (fun v L => v = none ∧ ∃ u' : Int32, L = [.inr (7, [.ref 3, .int k, .int u', .ref 1, .int (nI a)]), .inr (6, [.ref 2, .ref 3, .int (nI M), .int (z_bi x)]), z_ia 12 f, .inr (11, [.ref 4]), z_ia 7 (sp_bps c 2 a)])) 0 [(0, _), (1, _)] [] _ 0 0
  have hln := hr.2.1
  refine j_iconst (v := 0) dX8_passBy_0 (by decide) ?_
  refine j_istore_n (lo' := [(2, _), (0, _), (1, _)]) dX8_passBy_1 (by decide) rfl ?_
  have loop : ∀ (n9 : Nat) (u' : Int32) (i : Nat), (i ≤ a) → (a < i + n9) → z_J G l mX8_passBy (z_SF 15 0 0 [.inr (7, [.ref 3, .int k, .int u, .ref 1, .int (nI 0)]), .inr (6, [.ref 2, .ref 3, .int (nI M), .int (z_bi x)]), z_ia 12 f, .inr (11, [.ref 4]), z_ia 7 c] (fun v L => v = none ∧ ∃ u' : Int32, L = [.inr (7, [.ref 3, .int k, .int u', .ref 1, .int (nI a)]), .inr (6, [.ref 2, .ref 3, .int (nI M), .int (z_bi x)]), z_ia 12 f, .inr (11, [.ref 4]), z_ia 7 (sp_bps c 2 a)])) 2 [(0, .ref 0), (1, .int (nI a)), (2, .int (nI i))] [] ([.inr (7, [.ref 3, .int k, .int u', .ref 1, .int (nI i)]), .inr (6, [.ref 2, .ref 3, .int (nI M), .int (z_bi x)]), z_ia 12 f, .inr (11, [.ref 4]), z_ia 7 (sp_bps c 2 i)], z_no) 0 0 := by
    intro n9
    induction n9 with
    | zero => intro u' i hi hf9; exact absurd hf9 (by omega)
    | succ n9 ih =>
      intro u' i hi hf9
      refine j_iload_n dX8_passBy_2 rfl ?_
      refine j_iload_n dX8_passBy_3 rfl ?_
      refine j_icmp_ge (tgt := 18) dX8_passBy_4 (by decide) (fun c_4 => ?_) (fun c_4 => ?_)
      · have hb4 : a ≤ i := (nI_leI (a := a) (b := i) (by omega) (by omega)).mp c_4
        have hia : i = a := by omega
        subst hia
        refine j_vret dX8_passBy_18 rfl ?_ (Nat.le_of_ble_eq_true rfl) (Nat.le_of_ble_eq_true rfl)
        exact ⟨rfl, rfl, rfl, _, rfl⟩
      · have hb4 : i < a := Nat.not_le.mp (fun z => c_4 ((nI_leI (a := a) (b := i) (by omega) (by omega)).mpr z))
        refine j_aload_n dX8_passBy_7 rfl rfl ?_
        refine j_callU (q := (RX2, TX2, 5)) dX8_passBy_8 kX7_give cuX8_315_X2 rfl rfl (z_frame [0, 1, 2, 3, 4] rfl (by decide) (Nat.le_of_ble_eq_true rfl) (c_X7_give_X2_e hl _ _ i _ _ _ B M hr hM (by omega))) (Nat.le_of_ble_eq_true rfl) ⟨(Nat.le_of_ble_eq_true rfl), (Nat.le_of_ble_eq_true rfl)⟩ rfl (Nat.le_of_ble_eq_true rfl) rfl rfl (fun _ _ h => h.elim) ?_
        rintro _ _ ⟨_, _, ⟨rfl, rfl⟩, rfl, rfl⟩
        refine j_w ([.inr (7, [_, _, _, _, _]), .inr (6, [_, _, _, _]), z_ia 12 _, .inr (11, [_]), z_ia 7 _], z_no) rfl ?_
        refine j_pop dX8_passBy_11 rfl ?_
        refine j_iinc (lo' := [(2, _), (0, _), (1, _)]) dX8_passBy_12 rfl (z_inc _) (by decide) rfl ?_
        refine j_goto (tgt := 2) dX8_passBy_15 (by decide) ?_
        exact j_lo2 (ih _ (i + 1) (by omega) (by omega)) (z_q1 rfl (z_q1 rfl (z_q1 rfl z_q0)))
  exact j_lo2 (loop (a + 1) _ 0 (by omega) (by omega)) (z_q1 rfl (z_q1 rfl (z_q1 rfl z_q0)))
set_option maxRecDepth 100000 in
set_option maxHeartbeats 8000000 in
theorem c_X8_hearOut_X2_e (hl : l.stackTraces = false) (k u : Int32) (j : Nat) (x : Bool) (f c : Nat → Int32) (B : List Int32) (M : Nat) (h : sp_H) (ef : Nat → Int32) (hr : z_row 12 (nI M) f B) (hM : M = B.length) (hj : j ≤ B.length) (he : z_row 10 (nI h.2.length) ef h.2) : z_CF G l mX8_hearOut 15 0 0 [.inr (7, [.ref 3, .int k, .int u, .ref 1, .int (nI j)]), .inr (6, [.ref 2, .ref 3, .int (nI M), .int (z_bi x)]), z_ia 12 f, .inr (11, [.ref 4]), z_ia 7 c, .inr (5, [.ref 6, .int (nI h.2.length), .int h.1.2.1, .int h.1.2.2.1, .int h.1.2.2.2, .int h.1.1]), z_ia 10 ef] [.ref 0, .ref 5] (fun v L => v = some (.int (((sp_ho c h 0 (B.drop j)).1.map nI).getD (-1001))) ∧ ∃ (u' : Int32) (p' : Int32) (ef' : Nat → Int32), z_row 10 (nI (sp_ho c h 0 (B.drop j)).2.2.2.length) ef' (sp_ho c h 0 (B.drop j)).2.2.2 ∧ L = [.inr (7, [.ref 3, .int k, .int u', .ref 1, .int p']), .inr (6, [.ref 2, .ref 3, .int (nI M), .int (z_bi x)]), z_ia 12 f, .inr (11, [.ref 4]), z_ia 7 (sp_ho c h 0 (B.drop j)).2.1, .inr (5, [.ref 6, .int (nI (sp_ho c h 0 (B.drop j)).2.2.2.length), .int (sp_ho c h 0 (B.drop j)).2.2.1.2.1, .int (sp_ho c h 0 (B.drop j)).2.2.1.2.2.1, .int (sp_ho c h 0 (B.drop j)).2.2.1.2.2.2, .int (sp_ho c h 0 (B.drop j)).2.2.1.1]), z_ia 10 ef']) := by
  refine z_body hl (by decide) rfl (Nat.le_of_ble_eq_true rfl) ?_
  show z_J G l mX8_hearOut (z_SF 15 0 0 [.inr (7, [.ref 3, .int k, .int u, .ref 1, .int (nI j)]), .inr (6, [.ref 2, .ref 3, .int (nI M), .int (z_bi x)]), z_ia 12 f, .inr (11, [.ref 4]), z_ia 7 c, .inr (5, [.ref 6, .int (nI h.2.length), .int h.1.2.1, .int h.1.2.2.1, .int h.1.2.2.2, .int h.1.1]), z_ia 10 ef] (fun v L => v = some (.int (((sp_ho c h 0 (B.drop j)).1.map nI).getD (-1001))) ∧ ∃ (u' : Int32) (p' : Int32) (ef' : Nat → Int32), z_row 10 (nI (sp_ho c h 0 (B.drop j)).2.2.2.length) ef' (sp_ho c h 0 (B.drop j)).2.2.2 ∧ L = [.inr (7, [.ref 3, .int k, .int u', .ref 1, .int p']), .inr (6, [.ref 2, .ref 3, .int (nI M), .int (z_bi x)]), z_ia 12 f, .inr (11, [.ref 4]), z_ia 7 (sp_ho c h 0 (B.drop j)).2.1, .inr (5, [.ref 6, .int (nI (sp_ho c h 0 (B.drop j)).2.2.2.length), .int (sp_ho c h 0 (B.drop j)).2.2.1.2.1, .int (sp_ho c h 0 (B.drop j)).2.2.1.2.2.1, .int (sp_ho c h 0 (B.drop j)).2.2.1.2.2.2, .int (sp_ho c h 0 (B.drop j)).2.2.1.1]), z_ia 10 ef'])) 0 [(0, _), (1, _)] [] _ 0 0
  have hln := hr.2.1
  refine j_iconst (v := 0) dX8_hearOut_0 (by decide) ?_
  refine j_istore_n (lo' := [(2, _), (0, _), (1, _)]) dX8_hearOut_1 (by decide) rfl ?_
  refine j_iconst (v := 0) dX8_hearOut_2 (by decide) ?_
  refine j_istore_n (lo' := [(3, _), (2, _), (0, _), (1, _)]) dX8_hearOut_3 (by decide) rfl ?_
  have loop : ∀ (n9 : Nat) (h1 : sp_H) (c1 ef1 : Nat → Int32) (m s1 : Nat) (u1 : Int32) (j1 : Nat), (j1 ≤ B.length) → (s1 ≤ j1) → (m ≤ j1) → (B.length < j1 + n9) → (z_row 10 (nI h1.2.length) ef1 h1.2) → (sp_ho c1 h1 m (B.drop j1) = (sp_ho c h 0 (B.drop j))) → z_J G l mX8_hearOut (z_SF 15 0 0 [.inr (7, [.ref 3, .int k, .int u, .ref 1, .int (nI j)]), .inr (6, [.ref 2, .ref 3, .int (nI M), .int (z_bi x)]), z_ia 12 f, .inr (11, [.ref 4]), z_ia 7 c, .inr (5, [.ref 6, .int (nI h.2.length), .int h.1.2.1, .int h.1.2.2.1, .int h.1.2.2.2, .int h.1.1]), z_ia 10 ef] (fun v L => v = some (.int (((sp_ho c h 0 (B.drop j)).1.map nI).getD (-1001))) ∧ ∃ (u' : Int32) (p' : Int32) (ef' : Nat → Int32), z_row 10 (nI (sp_ho c h 0 (B.drop j)).2.2.2.length) ef' (sp_ho c h 0 (B.drop j)).2.2.2 ∧ L = [.inr (7, [.ref 3, .int k, .int u', .ref 1, .int p']), .inr (6, [.ref 2, .ref 3, .int (nI M), .int (z_bi x)]), z_ia 12 f, .inr (11, [.ref 4]), z_ia 7 (sp_ho c h 0 (B.drop j)).2.1, .inr (5, [.ref 6, .int (nI (sp_ho c h 0 (B.drop j)).2.2.2.length), .int (sp_ho c h 0 (B.drop j)).2.2.1.2.1, .int (sp_ho c h 0 (B.drop j)).2.2.1.2.2.1, .int (sp_ho c h 0 (B.drop j)).2.2.1.2.2.2, .int (sp_ho c h 0 (B.drop j)).2.2.1.1]), z_ia 10 ef'])) 4 [(0, .ref 0), (1, .ref 5), (2, .int (nI m)), (3, .int (nI s1))] [] ([.inr (7, [.ref 3, .int k, .int u1, .ref 1, .int (nI j1)]), .inr (6, [.ref 2, .ref 3, .int (nI M), .int (z_bi x)]), z_ia 12 f, .inr (11, [.ref 4]), z_ia 7 c1, .inr (5, [.ref 6, .int (nI h1.2.length), .int h1.1.2.1, .int h1.1.2.2.1, .int h1.1.2.2.2, .int h1.1.1]), z_ia 10 ef1], z_no) 0 0 := by
    intro n9
    induction n9 with
    | zero => intro h1 c1 ef1 m s1 u1 j1 hj1 hs1 hm hf9 he1 ho; exact absurd hf9 (by omega)
    | succ n9 ih =>
      intro h1 c1 ef1 m s1 u1 j1 hj1 hs1 hm hf9 he1 ho
      refine j_iload_n dX8_hearOut_4 rfl ?_
      refine j_sipush (v := 1000) dX8_hearOut_5 (by decide) ?_
      refine j_icmp_ge (tgt := 42) dX8_hearOut_8 (by decide) (fun c_8 => ?_) (fun c_8 => ?_)
      · have hb8 : 1000 ≤ s1 := (nI_leI (a := 1000) (b := s1) (by omega) (by omega)).mp c_8
        exact absurd hb8 (by omega)
      · have hb8 : s1 < 1000 := Nat.not_le.mp (fun z => c_8 ((nI_leI (a := 1000) (b := s1) (by omega) (by omega)).mpr z))
        refine j_aload_n dX8_hearOut_11 rfl rfl ?_
        refine j_callU (q := (RX2, TX2, 5)) dX8_hearOut_12 kX7_ask cuX8_320_X2 rfl rfl (z_frame [0, 1, 2, 3, 4] rfl (by decide) (Nat.le_of_ble_eq_true rfl) (c_X7_ask_X2_e hl _ _ j1 _ _ _ B M hr hM (by omega))) (Nat.le_of_ble_eq_true rfl) ⟨(Nat.le_of_ble_eq_true rfl), (Nat.le_of_ble_eq_true rfl)⟩ rfl (Nat.le_of_ble_eq_true rfl) rfl rfl (fun _ _ h => h.elim) ?_
        rintro _ _ ⟨_, _, ⟨rfl, rfl⟩, rfl, rfl⟩
        refine j_w ([.inr (7, [_, _, _, _, _]), .inr (6, [_, _, _, _]), z_ia 12 _, .inr (11, [_]), z_ia 7 _, .inr (5, [_, _, _, _, _, _]), z_ia 10 _], z_no) rfl ?_
        refine j_if_eq (tgt := 42) dX8_hearOut_15 (by decide) (fun c_15 => ?_) (fun c_15 => ?_)
        · have hb15 := z_bF c_15
          have hnil : B.drop j1 = [] := sp_drop_nil (by have := of_decide_eq_false hb15; omega)
          rw [hnil] at ho
          refine j_iload_n dX8_hearOut_42 rfl ?_
          refine j_iret dX8_hearOut_43 rfl rfl ?_ (Nat.le_of_ble_eq_true rfl) (Nat.le_of_ble_eq_true rfl)
          exact ⟨rfl, rfl, (by rw [← ho]; rfl), _, _, _, (by rw [← ho]; exact he1), (by rw [← ho]; rfl)⟩
        · have hb15 := z_bt c_15
          have hjl : j1 < B.length := by have := of_decide_eq_true hb15; omega
          rw [hr.drop hjl] at ho
          refine j_aload_n dX8_hearOut_18 rfl rfl ?_
          refine j_aload_n dX8_hearOut_19 rfl rfl ?_
          refine j_callU (q := (RX2, TX2, 5)) dX8_hearOut_20 kX7_give cuX8_315_X2 rfl rfl (z_frame [0, 1, 2, 3, 4] rfl (by decide) (Nat.le_of_ble_eq_true rfl) (c_X7_give_X2_e hl _ _ j1 _ _ _ B M hr hM hjl)) (Nat.le_of_ble_eq_true rfl) ⟨(Nat.le_of_ble_eq_true rfl), (Nat.le_of_ble_eq_true rfl)⟩ rfl (Nat.le_of_ble_eq_true rfl) rfl rfl (fun _ _ h => h.elim) ?_
          rintro _ _ ⟨_, _, ⟨rfl, rfl⟩, rfl, rfl⟩
          refine j_w ([.inr (7, [_, _, _, _, _]), .inr (6, [_, _, _, _]), z_ia 12 _, .inr (11, [_]), z_ia 7 _, .inr (5, [_, _, _, _, _, _]), z_ia 10 _], z_no) rfl ?_
          refine j_callV (q := (RX0, TX0, 6)) dX8_hearOut_23 kX0_takesIn lX8_323 inX0_takesIn seX0_takesIn rfl rfl (z_frame [5, 6] rfl (by decide) (Nat.le_of_ble_eq_true rfl) (c_X0_takesIn_e hl h1 _ (f j1) he1)) (Nat.le_of_ble_eq_true rfl) ⟨(Nat.le_of_ble_eq_true rfl), (Nat.le_of_ble_eq_true rfl)⟩ rfl (Nat.le_of_ble_eq_true rfl) rfl rfl (fun _ _ h => h.elim) ?_
          rintro _ _ ⟨_, _, ⟨rfl, ef2, hf9e, rfl⟩, rfl, rfl⟩
          refine j_w ([.inr (7, [_, _, _, _, _]), .inr (6, [_, _, _, _]), z_ia 12 _, .inr (11, [_]), z_ia 7 _, .inr (5, [_, _, _, _, _, _]), z_ia 10 _], z_no) rfl ?_
          refine j_if_ne (tgt := 33) dX8_hearOut_26 (by decide) (fun c_26 => ?_) (fun c_26 => ?_)
          · have hb26 := z_bt c_26
            rw [sp_hoS2 hb26] at ho
            refine j_iinc (lo' := [(2, _), (0, _), (1, _), (3, _)]) dX8_hearOut_33 rfl (z_inc _) (by decide) rfl ?_
            refine j_iinc (lo' := [(3, _), (2, _), (0, _), (1, _)]) dX8_hearOut_36 rfl (z_inc _) (by decide) rfl ?_
            refine j_goto (tgt := 4) dX8_hearOut_39 (by decide) ?_
            exact j_lo2 (ih _ _ _ (m + 1) (s1 + 1) _ (j1 + 1) (by omega) (by omega) (by omega) (by omega) hf9e ho) (z_q1 rfl (z_q1 rfl (z_q1 rfl (z_q1 rfl z_q0))))
          · have hb26 := z_bF c_26
            rw [sp_hoN2 hb26] at ho
            refine j_sipush (v := (-1001)) dX8_hearOut_29 (by decide) ?_
            refine j_iret dX8_hearOut_32 rfl rfl ?_ (Nat.le_of_ble_eq_true rfl) (Nat.le_of_ble_eq_true rfl)
            exact ⟨rfl, rfl, (by rw [← ho]; rfl), _, _, _, (by rw [← ho]; exact hf9e), (by rw [← ho] <;> rfl)⟩
  exact j_lo2 (loop (B.length + 1) h c ef 0 0 u j (by omega) (by omega) (by omega) (by omega) he rfl) (z_q1 rfl (z_q1 rfl (z_q1 rfl (z_q1 rfl z_q0))))
set_option maxRecDepth 100000 in
set_option maxHeartbeats 8000000 in
theorem c_X8_changeEach_X2_t_e (hl : l.stackTraces = false) (u : Int32) (f c : Nat → Int32) (B : List Int32) (M : Nat) (r n : Int32) (hr : z_row 12 (nI M) f B) (hM : M = B.length) (hB : ∀ v ∈ B, z_vl v) (hr2n : ¬ r = 2) (hr3n : ¬ r = 3) (hn : z_vl n) : z_CF G l mX8_changeEach 15 0 0 [.inr (7, [.ref 3, .int 0, .int u, .ref 1, .int (nI 0)]), .inr (6, [.ref 2, .ref 3, .int (nI M), .int (z_bi true)]), z_ia 12 f, .inr (11, [.ref 4]), z_ia 7 c] [.ref 0, .int r, .int n] (fun v L => v = some (.int (z_bi (sp_ra true r n c [] B).1)) ∧ ∃ (u' p' : Int32) (f' : Nat → Int32), z_row 12 (nI (sp_ra true r n c [] B).2.2.length) f' (sp_ra true r n c [] B).2.2 ∧ L = [.inr (7, [.ref 3, .int 0, .int u', .ref 1, .int p']), .inr (6, [.ref 2, .ref 3, .int (nI (sp_ra true r n c [] B).2.2.length), .int (z_bi true)]), z_ia 12 f', .inr (11, [.ref 4]), z_ia 7 (sp_ra true r n c [] B).2.1]) := by
  refine z_body hl (by decide) rfl (Nat.le_of_ble_eq_true rfl) ?_
  show z_J G l mX8_changeEach (z_SF 15 0 0 [.inr (7, [.ref 3, .int 0, .int u, .ref 1, .int (nI 0)]), .inr (6, [.ref 2, .ref 3, .int (nI M), .int (z_bi true)]), z_ia 12 f, .inr (11, [.ref 4]), z_ia 7 c] (fun v L => v = some (.int (z_bi (sp_ra true r n c [] B).1)) ∧ ∃ (u' p' : Int32) (f' : Nat → Int32), z_row 12 (nI (sp_ra true r n c [] B).2.2.length) f' (sp_ra true r n c [] B).2.2 ∧ L = [.inr (7, [.ref 3, .int 0, .int u', .ref 1, .int p']), .inr (6, [.ref 2, .ref 3, .int (nI (sp_ra true r n c [] B).2.2.length), .int (z_bi true)]), z_ia 12 f', .inr (11, [.ref 4]), z_ia 7 (sp_ra true r n c [] B).2.1])) 0 [(0, _), (1, _), (2, _)] [] _ 0 0
  have hln := hr.2.1
  refine j_iconst (v := 0) dX8_changeEach_0 (by decide) ?_
  refine j_istore_n (lo' := [(3, _), (0, _), (1, _), (2, _)]) dX8_changeEach_1 (by decide) rfl ?_
  have loop : ∀ (n9 : Nat) (f1 c1 : Nat → Int32) (u1 : Int32) (A D : List Int32) (q1 s1 : Nat), (z_row 12 (nI M) f1 (A ++ D)) → (M = (A ++ D).length) → (sp_ra true r n c1 A D = (sp_ra true r n c [] B)) → (∀ v ∈ A ++ D, z_vl v) → (q1 = A.length) → (s1 = A.length) → (D.length < n9) → z_J G l mX8_changeEach (z_SF 15 0 0 [.inr (7, [.ref 3, .int 0, .int u, .ref 1, .int (nI 0)]), .inr (6, [.ref 2, .ref 3, .int (nI M), .int (z_bi true)]), z_ia 12 f, .inr (11, [.ref 4]), z_ia 7 c] (fun v L => v = some (.int (z_bi (sp_ra true r n c [] B).1)) ∧ ∃ (u' p' : Int32) (f' : Nat → Int32), z_row 12 (nI (sp_ra true r n c [] B).2.2.length) f' (sp_ra true r n c [] B).2.2 ∧ L = [.inr (7, [.ref 3, .int 0, .int u', .ref 1, .int p']), .inr (6, [.ref 2, .ref 3, .int (nI (sp_ra true r n c [] B).2.2.length), .int (z_bi true)]), z_ia 12 f', .inr (11, [.ref 4]), z_ia 7 (sp_ra true r n c [] B).2.1])) 2 [(0, .ref 0), (1, .int r), (2, .int n), (3, .int (nI s1))] [] ([.inr (7, [.ref 3, .int 0, .int u1, .ref 1, .int (nI q1)]), .inr (6, [.ref 2, .ref 3, .int (nI M), .int (z_bi true)]), z_ia 12 f1, .inr (11, [.ref 4]), z_ia 7 c1], z_no) 0 0 := by
    intro n9
    induction n9 with
    | zero => intro f1 c1 u1 A D q1 s1 hr1 hBl ho hvs hq1 hs1 hf9; exact absurd hf9 (by omega)
    | succ n9 ih =>
      intro f1 c1 u1 A D q1 s1 hr1 hBl ho hvs hq1 hs1 hf9
      have hAD : (A ++ D).length = A.length + D.length := List.length_append
      have h12 := hr1.2.1
      refine j_iload_n dX8_changeEach_2 rfl ?_
      refine j_sipush (v := 1000) dX8_changeEach_3 (by decide) ?_
      refine j_icmp_ge (tgt := 61) dX8_changeEach_6 (by decide) (fun c_6 => ?_) (fun c_6 => ?_)
      · have hb6 : 1000 ≤ s1 := (nI_leI (a := 1000) (b := s1) (by omega) (by omega)).mp c_6
        exact absurd hb6 (by have := hr1.2.1; rw [List.length_append] at this; omega)
      · have hb6 : s1 < 1000 := Nat.not_le.mp (fun z => c_6 ((nI_leI (a := 1000) (b := s1) (by omega) (by omega)).mpr z))
        refine j_aload_n dX8_changeEach_9 rfl rfl ?_
        refine j_callU (q := (RX2, TX2, 5)) dX8_changeEach_10 kX7_ask cuX8_320_X2 rfl rfl (z_frame [0, 1, 2, 3, 4] rfl (by decide) (Nat.le_of_ble_eq_true rfl) (c_X7_ask_X2_e hl _ _ q1 _ _ _ (A ++ D) M hr1 hBl (by have := hr1.2.1; rw [List.length_append] at this; omega))) (Nat.le_of_ble_eq_true rfl) ⟨(Nat.le_of_ble_eq_true rfl), (Nat.le_of_ble_eq_true rfl)⟩ rfl (Nat.le_of_ble_eq_true rfl) rfl rfl (fun _ _ h => h.elim) ?_
        rintro _ _ ⟨_, _, ⟨rfl, rfl⟩, rfl, rfl⟩
        refine j_w ([.inr (7, [_, _, _, _, _]), .inr (6, [_, _, _, _]), z_ia 12 _, .inr (11, [_]), z_ia 7 _], z_no) rfl ?_
        refine j_if_eq (tgt := 61) dX8_changeEach_13 (by decide) (fun c_13 => ?_) (fun c_13 => ?_)
        · have hb13 := z_bF c_13
          have hD := sp_cut (A := A) (D := D) (by have := of_decide_eq_false hb13; omega)
          subst hD
          rw [List.append_nil] at hr1 hBl
          refine j_iconst (v := 1) dX8_changeEach_61 (by decide) ?_
          refine j_iret dX8_changeEach_62 rfl rfl ?_ (Nat.le_of_ble_eq_true rfl) (Nat.le_of_ble_eq_true rfl)
          exact ⟨rfl, rfl, (by rw [← ho]; rfl), _, _, _, (by rw [← ho]; show z_row 12 (nI A.length) _ _; rw [← hBl]; exact hr1), (by rw [← ho, hBl]; rfl)⟩
        · have hb13 := z_bt c_13
          obtain ⟨v1, D1, hD⟩ := sp_cons (A := A) (D := D) (by have := of_decide_eq_true hb13; omega)
          subst hD
          have hv1 : z_vl v1 := hvs v1 (List.mem_append_right _ List.mem_cons_self)
          have hfv : f1 q1 = v1 := by rw [hq1]; exact hr1.mid
          have hlm := sp_lmid (A := A) (D := D1) (v := v1)
          rw [List.length_cons] at hf9
          refine j_aload_n dX8_changeEach_16 rfl rfl ?_
          refine j_callU (q := (RX2, TX2, 5)) dX8_changeEach_17 kX7_give cuX8_315_X2 rfl rfl (z_frame [0, 1, 2, 3, 4] rfl (by decide) (Nat.le_of_ble_eq_true rfl) (c_X7_give_X2_e hl _ _ q1 _ _ _ (A ++ v1 :: D1) M hr1 hBl (by omega))) (Nat.le_of_ble_eq_true rfl) ⟨(Nat.le_of_ble_eq_true rfl), (Nat.le_of_ble_eq_true rfl)⟩ rfl (Nat.le_of_ble_eq_true rfl) rfl rfl (fun _ _ h => h.elim) ?_
          rintro _ _ ⟨_, _, ⟨rfl, rfl⟩, rfl, rfl⟩
          refine j_w ([.inr (7, [_, _, _, _, _]), .inr (6, [_, _, _, _]), z_ia 12 _, .inr (11, [_]), z_ia 7 _], z_no) rfl ?_
          refine j_pop dX8_changeEach_20 rfl ?_
          refine j_iload_n dX8_changeEach_21 rfl ?_
          refine j_aload_n dX8_changeEach_22 rfl rfl ?_
          refine j_getf dX8_changeEach_23 fX8_326_X2 rfl rfl ?_
          refine j_aload_n dX8_changeEach_26 rfl rfl ?_
          refine j_getf dX8_changeEach_27 fX8_329_X2 rfl rfl ?_
          refine j_iload_n dX8_changeEach_30 rfl ?_
          rw [hfv]
          refine j_callS dX8_changeEach_31 kX8_ruleTells lX8_237 stX8_ruleTells (c_X8_ruleTells_e hl _ _ _ _ _) (Nat.le_of_ble_eq_true rfl) ⟨(Nat.le_of_ble_eq_true rfl), (Nat.le_of_ble_eq_true rfl)⟩ rfl (Nat.le_of_ble_eq_true rfl) rfl rfl (fun _ _ h => h.elim) ?_
          rintro _ _ ⟨rfl, rfl⟩
          rw [q_dn (sp_vln hv1)]
          refine j_istore (lo' := [(4, _), (0, _), (1, _), (2, _), (3, _)]) dX8_changeEach_34 (by decide) rfl ?_
          refine j_iload dX8_changeEach_36 rfl ?_
          refine j_sipush (v := (-1001)) dX8_changeEach_38 (by decide) ?_
          refine j_icmp_eq (tgt := 53) dX8_changeEach_41 (by decide) (fun c_41 => ?_) (fun c_41 => ?_)
          · have hq0 := q_gn (m := -1001) (fun y hy => q_rtm hv1 hn hy) c_41
            rw [sp_raN hq0] at ho
            refine j_iconst (v := 0) dX8_changeEach_53 (by decide) ?_
            refine j_iret dX8_changeEach_54 rfl rfl ?_ (Nat.le_of_ble_eq_true rfl) (Nat.le_of_ble_eq_true rfl)
            exact ⟨rfl, rfl, (by rw [← ho]; rfl), _, _, _, (by rw [← ho]; show z_row 12 (nI (A ++ v1 :: D1).length) _ _; rw [← hBl]; exact hr1), (by rw [← ho, hBl] <;> rfl)⟩
          · have hq0 := q_gs (m := -1001) c_41
            refine j_aload_n dX8_changeEach_44 rfl rfl ?_
            refine j_iload dX8_changeEach_45 rfl ?_
            refine j_callU (q := (RX2, TX2, 5)) dX8_changeEach_47 kX2_putInPlace cuX8_332_X2 rfl rfl (z_frame [0, 1, 2, 3, 4] rfl (by decide) (Nat.le_of_ble_eq_true rfl) (c_X2_putInPlace_t_e hl _ _ _ _ _ _ _)) (Nat.le_of_ble_eq_true rfl) ⟨(Nat.le_of_ble_eq_true rfl), (Nat.le_of_ble_eq_true rfl)⟩ rfl (Nat.le_of_ble_eq_true rfl) rfl rfl (fun _ _ h => h.elim) ?_
            rintro _ _ ⟨_, _, ⟨rfl, rfl⟩, rfl, rfl⟩
            refine j_w ([.inr (7, [_, _, _, _, _]), .inr (6, [_, _, _, _]), z_ia 12 _, .inr (11, [_]), z_ia 7 _], z_no) rfl ?_
            refine j_if_ne (tgt := 55) dX8_changeEach_50 (by decide) (fun c_50 => ?_) (fun c_50 => ?_)
            · have hb50 := z_bt c_50
              cases hb50
            · have hb50 := z_bF c_50
              rw [sp_raF hq0] at ho
              refine j_iconst (v := 0) dX8_changeEach_53 (by decide) ?_
              refine j_iret dX8_changeEach_54 rfl rfl ?_ (Nat.le_of_ble_eq_true rfl) (Nat.le_of_ble_eq_true rfl)
              exact ⟨rfl, rfl, (by rw [← ho]; rfl), _, _, _, (by rw [← ho]; show z_row 12 (nI (A ++ v1 :: D1).length) _ _; rw [← hBl]; exact hr1), (by rw [← ho, hBl] <;> rfl)⟩
  exact j_lo2 (loop (B.length + 1) f c u [] B 0 0 hr hM rfl hB rfl rfl (by omega)) (z_q1 rfl (z_q1 rfl (z_q1 rfl (z_q1 rfl z_q0))))
set_option maxRecDepth 100000 in
set_option maxHeartbeats 8000000 in
theorem c_X8_changeEach_X2_f_e (hl : l.stackTraces = false) (u : Int32) (f c : Nat → Int32) (B : List Int32) (M : Nat) (r n : Int32) (hr : z_row 12 (nI M) f B) (hM : M = B.length) (hB : ∀ v ∈ B, z_vl v) (hr2n : ¬ r = 2) (hr3n : ¬ r = 3) (hn : z_vl n) : z_CF G l mX8_changeEach 15 0 0 [.inr (7, [.ref 3, .int 0, .int u, .ref 1, .int (nI 0)]), .inr (6, [.ref 2, .ref 3, .int (nI M), .int (z_bi false)]), z_ia 12 f, .inr (11, [.ref 4]), z_ia 7 c] [.ref 0, .int r, .int n] (fun v L => v = some (.int (z_bi (sp_ra false r n c [] B).1)) ∧ ∃ (u' p' : Int32) (f' : Nat → Int32), z_row 12 (nI (sp_ra false r n c [] B).2.2.length) f' (sp_ra false r n c [] B).2.2 ∧ L = [.inr (7, [.ref 3, .int 0, .int u', .ref 1, .int p']), .inr (6, [.ref 2, .ref 3, .int (nI (sp_ra false r n c [] B).2.2.length), .int (z_bi false)]), z_ia 12 f', .inr (11, [.ref 4]), z_ia 7 (sp_ra false r n c [] B).2.1]) := by
  refine z_body hl (by decide) rfl (Nat.le_of_ble_eq_true rfl) ?_
  show z_J G l mX8_changeEach (z_SF 15 0 0 [.inr (7, [.ref 3, .int 0, .int u, .ref 1, .int (nI 0)]), .inr (6, [.ref 2, .ref 3, .int (nI M), .int (z_bi false)]), z_ia 12 f, .inr (11, [.ref 4]), z_ia 7 c] (fun v L => v = some (.int (z_bi (sp_ra false r n c [] B).1)) ∧ ∃ (u' p' : Int32) (f' : Nat → Int32), z_row 12 (nI (sp_ra false r n c [] B).2.2.length) f' (sp_ra false r n c [] B).2.2 ∧ L = [.inr (7, [.ref 3, .int 0, .int u', .ref 1, .int p']), .inr (6, [.ref 2, .ref 3, .int (nI (sp_ra false r n c [] B).2.2.length), .int (z_bi false)]), z_ia 12 f', .inr (11, [.ref 4]), z_ia 7 (sp_ra false r n c [] B).2.1])) 0 [(0, _), (1, _), (2, _)] [] _ 0 0
  have hln := hr.2.1
  refine j_iconst (v := 0) dX8_changeEach_0 (by decide) ?_
  refine j_istore_n (lo' := [(3, _), (0, _), (1, _), (2, _)]) dX8_changeEach_1 (by decide) rfl ?_
  have loop : ∀ (n9 : Nat) (f1 c1 : Nat → Int32) (u1 : Int32) (A D : List Int32) (q1 s1 : Nat), (z_row 12 (nI M) f1 (A ++ D)) → (M = (A ++ D).length) → (sp_ra false r n c1 A D = (sp_ra false r n c [] B)) → (∀ v ∈ A ++ D, z_vl v) → (q1 = A.length) → (s1 = A.length) → (D.length < n9) → z_J G l mX8_changeEach (z_SF 15 0 0 [.inr (7, [.ref 3, .int 0, .int u, .ref 1, .int (nI 0)]), .inr (6, [.ref 2, .ref 3, .int (nI M), .int (z_bi false)]), z_ia 12 f, .inr (11, [.ref 4]), z_ia 7 c] (fun v L => v = some (.int (z_bi (sp_ra false r n c [] B).1)) ∧ ∃ (u' p' : Int32) (f' : Nat → Int32), z_row 12 (nI (sp_ra false r n c [] B).2.2.length) f' (sp_ra false r n c [] B).2.2 ∧ L = [.inr (7, [.ref 3, .int 0, .int u', .ref 1, .int p']), .inr (6, [.ref 2, .ref 3, .int (nI (sp_ra false r n c [] B).2.2.length), .int (z_bi false)]), z_ia 12 f', .inr (11, [.ref 4]), z_ia 7 (sp_ra false r n c [] B).2.1])) 2 [(0, .ref 0), (1, .int r), (2, .int n), (3, .int (nI s1))] [] ([.inr (7, [.ref 3, .int 0, .int u1, .ref 1, .int (nI q1)]), .inr (6, [.ref 2, .ref 3, .int (nI M), .int (z_bi false)]), z_ia 12 f1, .inr (11, [.ref 4]), z_ia 7 c1], z_no) 0 0 := by
    intro n9
    induction n9 with
    | zero => intro f1 c1 u1 A D q1 s1 hr1 hBl ho hvs hq1 hs1 hf9; exact absurd hf9 (by omega)
    | succ n9 ih =>
      intro f1 c1 u1 A D q1 s1 hr1 hBl ho hvs hq1 hs1 hf9
      have hAD : (A ++ D).length = A.length + D.length := List.length_append
      have h12 := hr1.2.1
      refine j_iload_n dX8_changeEach_2 rfl ?_
      refine j_sipush (v := 1000) dX8_changeEach_3 (by decide) ?_
      refine j_icmp_ge (tgt := 61) dX8_changeEach_6 (by decide) (fun c_6 => ?_) (fun c_6 => ?_)
      · have hb6 : 1000 ≤ s1 := (nI_leI (a := 1000) (b := s1) (by omega) (by omega)).mp c_6
        exact absurd hb6 (by have := hr1.2.1; rw [List.length_append] at this; omega)
      · have hb6 : s1 < 1000 := Nat.not_le.mp (fun z => c_6 ((nI_leI (a := 1000) (b := s1) (by omega) (by omega)).mpr z))
        refine j_aload_n dX8_changeEach_9 rfl rfl ?_
        refine j_callU (q := (RX2, TX2, 5)) dX8_changeEach_10 kX7_ask cuX8_320_X2 rfl rfl (z_frame [0, 1, 2, 3, 4] rfl (by decide) (Nat.le_of_ble_eq_true rfl) (c_X7_ask_X2_e hl _ _ q1 _ _ _ (A ++ D) M hr1 hBl (by have := hr1.2.1; rw [List.length_append] at this; omega))) (Nat.le_of_ble_eq_true rfl) ⟨(Nat.le_of_ble_eq_true rfl), (Nat.le_of_ble_eq_true rfl)⟩ rfl (Nat.le_of_ble_eq_true rfl) rfl rfl (fun _ _ h => h.elim) ?_
        rintro _ _ ⟨_, _, ⟨rfl, rfl⟩, rfl, rfl⟩
        refine j_w ([.inr (7, [_, _, _, _, _]), .inr (6, [_, _, _, _]), z_ia 12 _, .inr (11, [_]), z_ia 7 _], z_no) rfl ?_
        refine j_if_eq (tgt := 61) dX8_changeEach_13 (by decide) (fun c_13 => ?_) (fun c_13 => ?_)
        · have hb13 := z_bF c_13
          have hD := sp_cut (A := A) (D := D) (by have := of_decide_eq_false hb13; omega)
          subst hD
          rw [List.append_nil] at hr1 hBl
          refine j_iconst (v := 1) dX8_changeEach_61 (by decide) ?_
          refine j_iret dX8_changeEach_62 rfl rfl ?_ (Nat.le_of_ble_eq_true rfl) (Nat.le_of_ble_eq_true rfl)
          exact ⟨rfl, rfl, (by rw [← ho]; rfl), _, _, _, (by rw [← ho]; show z_row 12 (nI A.length) _ _; rw [← hBl]; exact hr1), (by rw [← ho, hBl]; rfl)⟩
        · have hb13 := z_bt c_13
          obtain ⟨v1, D1, hD⟩ := sp_cons (A := A) (D := D) (by have := of_decide_eq_true hb13; omega)
          subst hD
          have hv1 : z_vl v1 := hvs v1 (List.mem_append_right _ List.mem_cons_self)
          have hfv : f1 q1 = v1 := by rw [hq1]; exact hr1.mid
          have hlm := sp_lmid (A := A) (D := D1) (v := v1)
          rw [List.length_cons] at hf9
          refine j_aload_n dX8_changeEach_16 rfl rfl ?_
          refine j_callU (q := (RX2, TX2, 5)) dX8_changeEach_17 kX7_give cuX8_315_X2 rfl rfl (z_frame [0, 1, 2, 3, 4] rfl (by decide) (Nat.le_of_ble_eq_true rfl) (c_X7_give_X2_e hl _ _ q1 _ _ _ (A ++ v1 :: D1) M hr1 hBl (by omega))) (Nat.le_of_ble_eq_true rfl) ⟨(Nat.le_of_ble_eq_true rfl), (Nat.le_of_ble_eq_true rfl)⟩ rfl (Nat.le_of_ble_eq_true rfl) rfl rfl (fun _ _ h => h.elim) ?_
          rintro _ _ ⟨_, _, ⟨rfl, rfl⟩, rfl, rfl⟩
          refine j_w ([.inr (7, [_, _, _, _, _]), .inr (6, [_, _, _, _]), z_ia 12 _, .inr (11, [_]), z_ia 7 _], z_no) rfl ?_
          refine j_pop dX8_changeEach_20 rfl ?_
          refine j_iload_n dX8_changeEach_21 rfl ?_
          refine j_aload_n dX8_changeEach_22 rfl rfl ?_
          refine j_getf dX8_changeEach_23 fX8_326_X2 rfl rfl ?_
          refine j_aload_n dX8_changeEach_26 rfl rfl ?_
          refine j_getf dX8_changeEach_27 fX8_329_X2 rfl rfl ?_
          refine j_iload_n dX8_changeEach_30 rfl ?_
          rw [hfv]
          refine j_callS dX8_changeEach_31 kX8_ruleTells lX8_237 stX8_ruleTells (c_X8_ruleTells_e hl _ _ _ _ _) (Nat.le_of_ble_eq_true rfl) ⟨(Nat.le_of_ble_eq_true rfl), (Nat.le_of_ble_eq_true rfl)⟩ rfl (Nat.le_of_ble_eq_true rfl) rfl rfl (fun _ _ h => h.elim) ?_
          rintro _ _ ⟨rfl, rfl⟩
          rw [q_dn (sp_vln hv1)]
          refine j_istore (lo' := [(4, _), (0, _), (1, _), (2, _), (3, _)]) dX8_changeEach_34 (by decide) rfl ?_
          refine j_iload dX8_changeEach_36 rfl ?_
          refine j_sipush (v := (-1001)) dX8_changeEach_38 (by decide) ?_
          refine j_icmp_eq (tgt := 53) dX8_changeEach_41 (by decide) (fun c_41 => ?_) (fun c_41 => ?_)
          · have hq0 := q_gn (m := -1001) (fun y hy => q_rtm hv1 hn hy) c_41
            rw [sp_raN hq0] at ho
            refine j_iconst (v := 0) dX8_changeEach_53 (by decide) ?_
            refine j_iret dX8_changeEach_54 rfl rfl ?_ (Nat.le_of_ble_eq_true rfl) (Nat.le_of_ble_eq_true rfl)
            exact ⟨rfl, rfl, (by rw [← ho]; rfl), _, _, _, (by rw [← ho]; show z_row 12 (nI (A ++ v1 :: D1).length) _ _; rw [← hBl]; exact hr1), (by rw [← ho, hBl] <;> rfl)⟩
          · have hq0 := q_gs (m := -1001) c_41
            refine j_aload_n dX8_changeEach_44 rfl rfl ?_
            refine j_iload dX8_changeEach_45 rfl ?_
            refine j_callU (q := (RX2, TX2, 5)) dX8_changeEach_47 kX2_putInPlace cuX8_332_X2 rfl rfl (z_frame [0, 1, 2, 3, 4] rfl (by decide) (Nat.le_of_ble_eq_true rfl) (c_X2_putInPlace_f_e hl _ _ (q1 + 1) _ _ (A ++ v1 :: D1) M _ hr1 hBl (by omega) (by omega))) (Nat.le_of_ble_eq_true rfl) ⟨(Nat.le_of_ble_eq_true rfl), (Nat.le_of_ble_eq_true rfl)⟩ rfl (Nat.le_of_ble_eq_true rfl) rfl rfl (fun _ _ h => h.elim) ?_
            rintro _ _ ⟨_, _, ⟨rfl, rfl⟩, rfl, rfl⟩
            refine j_w ([.inr (7, [_, _, _, _, _]), .inr (6, [_, _, _, _]), z_ia 12 _, .inr (11, [_]), z_ia 7 _], z_no) rfl ?_
            refine j_if_ne (tgt := 55) dX8_changeEach_50 (by decide) (fun c_50 => ?_) (fun c_50 => ?_)
            · have hb50 := z_bt c_50
              rw [sp_raT hq0] at ho
              have hyv := q_rt_v hr2n hr3n hv1 hn hq0
              refine j_iinc (lo' := [(3, _), (4, _), (0, _), (1, _), (2, _)]) dX8_changeEach_55 rfl (z_inc _) (by decide) rfl ?_
              refine j_goto (tgt := 2) dX8_changeEach_58 (by decide) ?_
              exact j_lo2 (ih _ _ _ (A ++ [((q_rt r 0 v1 n).getD (-1001))]) D1 (q1 + 1) (s1 + 1) (hr1.putM hBl (by omega)) (sp_midl hBl) ho (sp_all hvs hyv) (by rw [List.length_append, hq1]; rfl) (by rw [List.length_append, hs1]; rfl) (by omega)) (z_q1 rfl (z_q1 rfl (z_q1 rfl (z_q1 rfl z_q0))))
            · have hb50 := z_bF c_50
              cases hb50
  exact j_lo2 (loop (B.length + 1) f c u [] B 0 0 hr hM rfl hB rfl rfl (by omega)) (z_q1 rfl (z_q1 rfl (z_q1 rfl (z_q1 rfl z_q0))))
set_option maxRecDepth 100000 in
set_option maxHeartbeats 8000000 in
theorem c_X8_takeEach_t_e (hl : l.stackTraces = false) (k u : Int32) (f c : Nat → Int32) (B : List Int32) (M : Nat) (t n : Int32) (hr : z_row 12 (nI M) f B) (hM : M = B.length) : z_CF G l mX8_takeEach 15 0 0 [.inr (7, [.ref 3, .int k, .int u, .ref 1, .int (nI 0)]), .inr (6, [.ref 2, .ref 3, .int (nI M), .int (z_bi true)]), z_ia 12 f, .inr (11, [.ref 4]), z_ia 7 c] [.ref 0, .int t, .int n] (fun v L => v = some (.int (((sp_ri true t n c [] false B).1.map z_bi).getD (-1001))) ∧ ∃ (u' p' : Int32) (f' : Nat → Int32), z_row 12 (nI (sp_ri true t n c [] false B).2.2.length) f' (sp_ri true t n c [] false B).2.2 ∧ L = [.inr (7, [.ref 3, .int k, .int u', .ref 1, .int p']), .inr (6, [.ref 2, .ref 3, .int (nI (sp_ri true t n c [] false B).2.2.length), .int (z_bi true)]), z_ia 12 f', .inr (11, [.ref 4]), z_ia 7 (sp_ri true t n c [] false B).2.1]) := by
  refine z_body hl (by decide) rfl (Nat.le_of_ble_eq_true rfl) ?_
  show z_J G l mX8_takeEach (z_SF 15 0 0 [.inr (7, [.ref 3, .int k, .int u, .ref 1, .int (nI 0)]), .inr (6, [.ref 2, .ref 3, .int (nI M), .int (z_bi true)]), z_ia 12 f, .inr (11, [.ref 4]), z_ia 7 c] (fun v L => v = some (.int (((sp_ri true t n c [] false B).1.map z_bi).getD (-1001))) ∧ ∃ (u' p' : Int32) (f' : Nat → Int32), z_row 12 (nI (sp_ri true t n c [] false B).2.2.length) f' (sp_ri true t n c [] false B).2.2 ∧ L = [.inr (7, [.ref 3, .int k, .int u', .ref 1, .int p']), .inr (6, [.ref 2, .ref 3, .int (nI (sp_ri true t n c [] false B).2.2.length), .int (z_bi true)]), z_ia 12 f', .inr (11, [.ref 4]), z_ia 7 (sp_ri true t n c [] false B).2.1])) 0 [(0, _), (1, _), (2, _)] [] _ 0 0
  have hln := hr.2.1
  refine j_iconst (v := 0) dX8_takeEach_0 (by decide) ?_
  refine j_istore_n (lo' := [(3, _), (0, _), (1, _), (2, _)]) dX8_takeEach_1 (by decide) rfl ?_
  refine j_iconst (v := 0) dX8_takeEach_2 (by decide) ?_
  refine j_istore (lo' := [(4, _), (3, _), (0, _), (1, _), (2, _)]) dX8_takeEach_3 (by decide) rfl ?_
  have loop : ∀ (n9 : Nat) (f1 c1 : Nat → Int32) (u1 : Int32) (k1 : Bool) (A D : List Int32) (M1 q1 s1 : Nat), (z_row 12 (nI M1) f1 (A ++ D)) → (M1 = (A ++ D).length) → (sp_ri true t n c1 A k1 D = (sp_ri true t n c [] false B)) → (q1 = A.length) → (s1 + D.length ≤ 12) → (D.length < n9) → z_J G l mX8_takeEach (z_SF 15 0 0 [.inr (7, [.ref 3, .int k, .int u, .ref 1, .int (nI 0)]), .inr (6, [.ref 2, .ref 3, .int (nI M), .int (z_bi true)]), z_ia 12 f, .inr (11, [.ref 4]), z_ia 7 c] (fun v L => v = some (.int (((sp_ri true t n c [] false B).1.map z_bi).getD (-1001))) ∧ ∃ (u' p' : Int32) (f' : Nat → Int32), z_row 12 (nI (sp_ri true t n c [] false B).2.2.length) f' (sp_ri true t n c [] false B).2.2 ∧ L = [.inr (7, [.ref 3, .int k, .int u', .ref 1, .int p']), .inr (6, [.ref 2, .ref 3, .int (nI (sp_ri true t n c [] false B).2.2.length), .int (z_bi true)]), z_ia 12 f', .inr (11, [.ref 4]), z_ia 7 (sp_ri true t n c [] false B).2.1])) 5 [(0, .ref 0), (1, .int t), (2, .int n), (3, .int (z_bi k1)), (4, .int (nI s1))] [] ([.inr (7, [.ref 3, .int k, .int u1, .ref 1, .int (nI q1)]), .inr (6, [.ref 2, .ref 3, .int (nI M1), .int (z_bi true)]), z_ia 12 f1, .inr (11, [.ref 4]), z_ia 7 c1], z_no) 0 0 := by
    intro n9
    induction n9 with
    | zero => intro f1 c1 u1 k1 A D M1 q1 s1 hr1 hBl ho hq1 hs1 hf9; exact absurd hf9 (by omega)
    | succ n9 ih =>
      intro f1 c1 u1 k1 A D M1 q1 s1 hr1 hBl ho hq1 hs1 hf9
      refine j_iload dX8_takeEach_5 rfl ?_
      refine j_sipush (v := 1000) dX8_takeEach_7 (by decide) ?_
      refine j_icmp_ge (tgt := 70) dX8_takeEach_10 (by decide) (fun c_10 => ?_) (fun c_10 => ?_)
      · have hb10 : 1000 ≤ s1 := (nI_leI (a := 1000) (b := s1) (by omega) (by omega)).mp c_10
        exact absurd hb10 (by omega)
      · have hb10 : s1 < 1000 := Nat.not_le.mp (fun z => c_10 ((nI_leI (a := 1000) (b := s1) (by omega) (by omega)).mpr z))
        refine j_aload_n dX8_takeEach_13 rfl rfl ?_
        refine j_callU (q := (RX2, TX2, 5)) dX8_takeEach_14 kX7_ask cuX8_335_X2 rfl rfl (z_frame [0, 1, 2, 3, 4] rfl (by decide) (Nat.le_of_ble_eq_true rfl) (c_X7_ask_X2_e hl _ _ q1 _ _ _ (A ++ D) M1 hr1 hBl (by have := hr1.2.1; rw [List.length_append] at this; omega))) (Nat.le_of_ble_eq_true rfl) ⟨(Nat.le_of_ble_eq_true rfl), (Nat.le_of_ble_eq_true rfl)⟩ rfl (Nat.le_of_ble_eq_true rfl) rfl rfl (fun _ _ h => h.elim) ?_
        rintro _ _ ⟨_, _, ⟨rfl, rfl⟩, rfl, rfl⟩
        refine j_w ([.inr (7, [_, _, _, _, _]), .inr (6, [_, _, _, _]), z_ia 12 _, .inr (11, [_]), z_ia 7 _], z_no) rfl ?_
        refine j_if_eq (tgt := 70) dX8_takeEach_17 (by decide) (fun c_17 => ?_) (fun c_17 => ?_)
        · have hb17 := z_bF c_17
          have hD := sp_cut (A := A) (D := D) (by have := of_decide_eq_false hb17; omega)
          subst hD
          rw [List.append_nil] at hr1 hBl
          refine j_iload_n dX8_takeEach_70 rfl ?_
          refine j_iret dX8_takeEach_71 rfl rfl ?_ (Nat.le_of_ble_eq_true rfl) (Nat.le_of_ble_eq_true rfl)
          exact ⟨rfl, rfl, (by rw [← ho]; rfl), _, _, _, (by rw [← ho]; show z_row 12 (nI A.length) _ _; rw [← hBl]; exact hr1), (by rw [← ho, hBl]; rfl)⟩
        · have hb17 := z_bt c_17
          obtain ⟨v1, D1, hD⟩ := sp_cons (A := A) (D := D) (by have := of_decide_eq_true hb17; omega)
          subst hD
          have hfv : f1 q1 = v1 := by rw [hq1]; exact hr1.mid
          have hlm := sp_lmid (A := A) (D := D1) (v := v1)
          rw [List.length_cons] at hf9 hs1
          refine j_iload_n dX8_takeEach_20 rfl ?_
          refine j_aload_n dX8_takeEach_21 rfl rfl ?_
          refine j_callU (q := (RX2, TX2, 5)) dX8_takeEach_22 kX7_give cuX8_336_X2 rfl rfl (z_frame [0, 1, 2, 3, 4] rfl (by decide) (Nat.le_of_ble_eq_true rfl) (c_X7_give_X2_e hl _ _ q1 _ _ _ (A ++ v1 :: D1) M1 hr1 hBl (by omega))) (Nat.le_of_ble_eq_true rfl) ⟨(Nat.le_of_ble_eq_true rfl), (Nat.le_of_ble_eq_true rfl)⟩ rfl (Nat.le_of_ble_eq_true rfl) rfl rfl (fun _ _ h => h.elim) ?_
          rintro _ _ ⟨_, _, ⟨rfl, rfl⟩, rfl, rfl⟩
          refine j_w ([.inr (7, [_, _, _, _, _]), .inr (6, [_, _, _, _]), z_ia 12 _, .inr (11, [_]), z_ia 7 _], z_no) rfl ?_
          refine j_iload_n dX8_takeEach_25 rfl ?_
          rw [hfv]
          refine j_callS dX8_takeEach_26 kX8_testTells lX8_241 stX8_testTells (c_X8_testTells_e hl _ _ _ _) (Nat.le_of_ble_eq_true rfl) ⟨(Nat.le_of_ble_eq_true rfl), (Nat.le_of_ble_eq_true rfl)⟩ rfl (Nat.le_of_ble_eq_true rfl) rfl rfl (fun _ _ h => h.elim) ?_
          rintro _ _ ⟨rfl, rfl⟩
          refine j_istore (lo' := [(5, _), (0, _), (1, _), (2, _), (3, _), (4, _)]) dX8_takeEach_29 (by decide) rfl ?_
          refine j_iload dX8_takeEach_31 rfl ?_
          refine j_sipush (v := (-1001)) dX8_takeEach_33 (by decide) ?_
          refine j_icmp_eq (tgt := 52) dX8_takeEach_36 (by decide) (fun c_36 => ?_) (fun c_36 => ?_)
          · have hq0 := sp_ttn c_36
            rw [sp_riN hq0] at ho
            refine j_sipush (v := (-1001)) dX8_takeEach_52 (by decide) ?_
            refine j_iret dX8_takeEach_55 rfl rfl ?_ (Nat.le_of_ble_eq_true rfl) (Nat.le_of_ble_eq_true rfl)
            exact ⟨rfl, rfl, (by rw [← ho]; rfl), _, _, _, (by rw [← ho]; show z_row 12 (nI (A ++ v1 :: D1).length) _ _; rw [← hBl]; exact hr1), (by rw [← ho, hBl] <;> rfl)⟩
          · have hq0 := sp_tts c_36
            refine j_iload dX8_takeEach_39 rfl ?_
            refine j_iconst (v := 1) dX8_takeEach_41 (by decide) ?_
            refine j_icmp_ne (tgt := 56) dX8_takeEach_42 (by decide) (fun c_42 => ?_) (fun c_42 => ?_)
            · rw [sp_riO hq0 c_42] at ho
              refine j_iload dX8_takeEach_56 rfl ?_
              refine j_iconst (v := 1) dX8_takeEach_58 (by decide) ?_
              refine j_icmp_ne (tgt := 64) dX8_takeEach_59 (by decide) (fun c_59 => ?_) (fun c_59 => ?_)
              · refine j_iinc (lo' := [(4, _), (5, _), (0, _), (1, _), (2, _), (3, _)]) dX8_takeEach_64 rfl (z_inc _) (by decide) rfl ?_
                refine j_goto (tgt := 5) dX8_takeEach_67 (by decide) ?_
                exact j_lo2 (ih _ _ _ k1 (A ++ [v1]) D1 M1 (q1 + 1) (s1 + 1) (by rw [← sp_mid]; exact hr1) (sp_midl hBl) ho (by rw [List.length_append, hq1]; rfl) (by omega) (by omega)) (z_q1 rfl (z_q1 rfl (z_q1 rfl (z_q1 rfl (z_q1 rfl z_q0)))))
              · exact absurd c_59 c_42
            · have c42 := c_42
              rw [c42] at hq0
              rw [sp_riF hq0] at ho
              refine j_aload_n dX8_takeEach_45 rfl rfl ?_
              refine j_callV (q := (RX2, TX2, 5)) dX8_takeEach_46 kX2_takeAway lX8_337 inX2_takeAway seX2_takeAway rfl rfl (z_frame [0, 1, 2, 3, 4] rfl (by decide) (Nat.le_of_ble_eq_true rfl) (c_X2_takeAway_t_e hl _ _ _ _ _ _)) (Nat.le_of_ble_eq_true rfl) ⟨(Nat.le_of_ble_eq_true rfl), (Nat.le_of_ble_eq_true rfl)⟩ rfl (Nat.le_of_ble_eq_true rfl) rfl rfl (fun _ _ h => h.elim) ?_
              rintro _ _ ⟨_, _, ⟨rfl, rfl⟩, rfl, rfl⟩
              refine j_w ([.inr (7, [_, _, _, _, _]), .inr (6, [_, _, _, _]), z_ia 12 _, .inr (11, [_]), z_ia 7 _], z_no) rfl ?_
              refine j_if_ne (tgt := 56) dX8_takeEach_49 (by decide) (fun c_49 => ?_) (fun c_49 => ?_)
              · have hb49 := z_bt c_49
                cases hb49
              · have hb49 := z_bF c_49
                refine j_sipush (v := (-1001)) dX8_takeEach_52 (by decide) ?_
                refine j_iret dX8_takeEach_55 rfl rfl ?_ (Nat.le_of_ble_eq_true rfl) (Nat.le_of_ble_eq_true rfl)
                exact ⟨rfl, rfl, (by rw [← ho]; rfl), _, _, _, (by rw [← ho]; show z_row 12 (nI (A ++ v1 :: D1).length) _ _; rw [← hBl]; exact hr1), (by rw [← ho, hBl] <;> rfl)⟩
  exact j_lo2 (loop (B.length + 1) f c u false [] B M 0 0 hr hM rfl rfl (by have := hr.2.1; omega) (by omega)) (z_q1 rfl (z_q1 rfl (z_q1 rfl (z_q1 rfl (z_q1 rfl z_q0)))))
set_option maxRecDepth 100000 in
set_option maxHeartbeats 8000000 in
theorem c_X8_takeEach_f_e (hl : l.stackTraces = false) (k u : Int32) (f c : Nat → Int32) (B : List Int32) (M : Nat) (t n : Int32) (hr : z_row 12 (nI M) f B) (hM : M = B.length) : z_CF G l mX8_takeEach 15 0 0 [.inr (7, [.ref 3, .int k, .int u, .ref 1, .int (nI 0)]), .inr (6, [.ref 2, .ref 3, .int (nI M), .int (z_bi false)]), z_ia 12 f, .inr (11, [.ref 4]), z_ia 7 c] [.ref 0, .int t, .int n] (fun v L => v = some (.int (((sp_ri false t n c [] false B).1.map z_bi).getD (-1001))) ∧ ∃ (u' p' : Int32) (f' : Nat → Int32), z_row 12 (nI (sp_ri false t n c [] false B).2.2.length) f' (sp_ri false t n c [] false B).2.2 ∧ L = [.inr (7, [.ref 3, .int k, .int u', .ref 1, .int p']), .inr (6, [.ref 2, .ref 3, .int (nI (sp_ri false t n c [] false B).2.2.length), .int (z_bi false)]), z_ia 12 f', .inr (11, [.ref 4]), z_ia 7 (sp_ri false t n c [] false B).2.1]) := by
  refine z_body hl (by decide) rfl (Nat.le_of_ble_eq_true rfl) ?_
  show z_J G l mX8_takeEach (z_SF 15 0 0 [.inr (7, [.ref 3, .int k, .int u, .ref 1, .int (nI 0)]), .inr (6, [.ref 2, .ref 3, .int (nI M), .int (z_bi false)]), z_ia 12 f, .inr (11, [.ref 4]), z_ia 7 c] (fun v L => v = some (.int (((sp_ri false t n c [] false B).1.map z_bi).getD (-1001))) ∧ ∃ (u' p' : Int32) (f' : Nat → Int32), z_row 12 (nI (sp_ri false t n c [] false B).2.2.length) f' (sp_ri false t n c [] false B).2.2 ∧ L = [.inr (7, [.ref 3, .int k, .int u', .ref 1, .int p']), .inr (6, [.ref 2, .ref 3, .int (nI (sp_ri false t n c [] false B).2.2.length), .int (z_bi false)]), z_ia 12 f', .inr (11, [.ref 4]), z_ia 7 (sp_ri false t n c [] false B).2.1])) 0 [(0, _), (1, _), (2, _)] [] _ 0 0
  have hln := hr.2.1
  refine j_iconst (v := 0) dX8_takeEach_0 (by decide) ?_
  refine j_istore_n (lo' := [(3, _), (0, _), (1, _), (2, _)]) dX8_takeEach_1 (by decide) rfl ?_
  refine j_iconst (v := 0) dX8_takeEach_2 (by decide) ?_
  refine j_istore (lo' := [(4, _), (3, _), (0, _), (1, _), (2, _)]) dX8_takeEach_3 (by decide) rfl ?_
  have loop : ∀ (n9 : Nat) (f1 c1 : Nat → Int32) (u1 : Int32) (k1 : Bool) (A D : List Int32) (M1 q1 s1 : Nat), (z_row 12 (nI M1) f1 (A ++ D)) → (M1 = (A ++ D).length) → (sp_ri false t n c1 A k1 D = (sp_ri false t n c [] false B)) → (q1 = A.length) → (s1 + D.length ≤ 12) → (D.length < n9) → z_J G l mX8_takeEach (z_SF 15 0 0 [.inr (7, [.ref 3, .int k, .int u, .ref 1, .int (nI 0)]), .inr (6, [.ref 2, .ref 3, .int (nI M), .int (z_bi false)]), z_ia 12 f, .inr (11, [.ref 4]), z_ia 7 c] (fun v L => v = some (.int (((sp_ri false t n c [] false B).1.map z_bi).getD (-1001))) ∧ ∃ (u' p' : Int32) (f' : Nat → Int32), z_row 12 (nI (sp_ri false t n c [] false B).2.2.length) f' (sp_ri false t n c [] false B).2.2 ∧ L = [.inr (7, [.ref 3, .int k, .int u', .ref 1, .int p']), .inr (6, [.ref 2, .ref 3, .int (nI (sp_ri false t n c [] false B).2.2.length), .int (z_bi false)]), z_ia 12 f', .inr (11, [.ref 4]), z_ia 7 (sp_ri false t n c [] false B).2.1])) 5 [(0, .ref 0), (1, .int t), (2, .int n), (3, .int (z_bi k1)), (4, .int (nI s1))] [] ([.inr (7, [.ref 3, .int k, .int u1, .ref 1, .int (nI q1)]), .inr (6, [.ref 2, .ref 3, .int (nI M1), .int (z_bi false)]), z_ia 12 f1, .inr (11, [.ref 4]), z_ia 7 c1], z_no) 0 0 := by
    intro n9
    induction n9 with
    | zero => intro f1 c1 u1 k1 A D M1 q1 s1 hr1 hBl ho hq1 hs1 hf9; exact absurd hf9 (by omega)
    | succ n9 ih =>
      intro f1 c1 u1 k1 A D M1 q1 s1 hr1 hBl ho hq1 hs1 hf9
      refine j_iload dX8_takeEach_5 rfl ?_
      refine j_sipush (v := 1000) dX8_takeEach_7 (by decide) ?_
      refine j_icmp_ge (tgt := 70) dX8_takeEach_10 (by decide) (fun c_10 => ?_) (fun c_10 => ?_)
      · have hb10 : 1000 ≤ s1 := (nI_leI (a := 1000) (b := s1) (by omega) (by omega)).mp c_10
        exact absurd hb10 (by omega)
      · have hb10 : s1 < 1000 := Nat.not_le.mp (fun z => c_10 ((nI_leI (a := 1000) (b := s1) (by omega) (by omega)).mpr z))
        refine j_aload_n dX8_takeEach_13 rfl rfl ?_
        refine j_callU (q := (RX2, TX2, 5)) dX8_takeEach_14 kX7_ask cuX8_335_X2 rfl rfl (z_frame [0, 1, 2, 3, 4] rfl (by decide) (Nat.le_of_ble_eq_true rfl) (c_X7_ask_X2_e hl _ _ q1 _ _ _ (A ++ D) M1 hr1 hBl (by have := hr1.2.1; rw [List.length_append] at this; omega))) (Nat.le_of_ble_eq_true rfl) ⟨(Nat.le_of_ble_eq_true rfl), (Nat.le_of_ble_eq_true rfl)⟩ rfl (Nat.le_of_ble_eq_true rfl) rfl rfl (fun _ _ h => h.elim) ?_
        rintro _ _ ⟨_, _, ⟨rfl, rfl⟩, rfl, rfl⟩
        refine j_w ([.inr (7, [_, _, _, _, _]), .inr (6, [_, _, _, _]), z_ia 12 _, .inr (11, [_]), z_ia 7 _], z_no) rfl ?_
        refine j_if_eq (tgt := 70) dX8_takeEach_17 (by decide) (fun c_17 => ?_) (fun c_17 => ?_)
        · have hb17 := z_bF c_17
          have hD := sp_cut (A := A) (D := D) (by have := of_decide_eq_false hb17; omega)
          subst hD
          rw [List.append_nil] at hr1 hBl
          refine j_iload_n dX8_takeEach_70 rfl ?_
          refine j_iret dX8_takeEach_71 rfl rfl ?_ (Nat.le_of_ble_eq_true rfl) (Nat.le_of_ble_eq_true rfl)
          exact ⟨rfl, rfl, (by rw [← ho]; rfl), _, _, _, (by rw [← ho]; show z_row 12 (nI A.length) _ _; rw [← hBl]; exact hr1), (by rw [← ho, hBl]; rfl)⟩
        · have hb17 := z_bt c_17
          obtain ⟨v1, D1, hD⟩ := sp_cons (A := A) (D := D) (by have := of_decide_eq_true hb17; omega)
          subst hD
          have hfv : f1 q1 = v1 := by rw [hq1]; exact hr1.mid
          have hlm := sp_lmid (A := A) (D := D1) (v := v1)
          rw [List.length_cons] at hf9 hs1
          refine j_iload_n dX8_takeEach_20 rfl ?_
          refine j_aload_n dX8_takeEach_21 rfl rfl ?_
          refine j_callU (q := (RX2, TX2, 5)) dX8_takeEach_22 kX7_give cuX8_336_X2 rfl rfl (z_frame [0, 1, 2, 3, 4] rfl (by decide) (Nat.le_of_ble_eq_true rfl) (c_X7_give_X2_e hl _ _ q1 _ _ _ (A ++ v1 :: D1) M1 hr1 hBl (by omega))) (Nat.le_of_ble_eq_true rfl) ⟨(Nat.le_of_ble_eq_true rfl), (Nat.le_of_ble_eq_true rfl)⟩ rfl (Nat.le_of_ble_eq_true rfl) rfl rfl (fun _ _ h => h.elim) ?_
          rintro _ _ ⟨_, _, ⟨rfl, rfl⟩, rfl, rfl⟩
          refine j_w ([.inr (7, [_, _, _, _, _]), .inr (6, [_, _, _, _]), z_ia 12 _, .inr (11, [_]), z_ia 7 _], z_no) rfl ?_
          refine j_iload_n dX8_takeEach_25 rfl ?_
          rw [hfv]
          refine j_callS dX8_takeEach_26 kX8_testTells lX8_241 stX8_testTells (c_X8_testTells_e hl _ _ _ _) (Nat.le_of_ble_eq_true rfl) ⟨(Nat.le_of_ble_eq_true rfl), (Nat.le_of_ble_eq_true rfl)⟩ rfl (Nat.le_of_ble_eq_true rfl) rfl rfl (fun _ _ h => h.elim) ?_
          rintro _ _ ⟨rfl, rfl⟩
          refine j_istore (lo' := [(5, _), (0, _), (1, _), (2, _), (3, _), (4, _)]) dX8_takeEach_29 (by decide) rfl ?_
          refine j_iload dX8_takeEach_31 rfl ?_
          refine j_sipush (v := (-1001)) dX8_takeEach_33 (by decide) ?_
          refine j_icmp_eq (tgt := 52) dX8_takeEach_36 (by decide) (fun c_36 => ?_) (fun c_36 => ?_)
          · have hq0 := sp_ttn c_36
            rw [sp_riN hq0] at ho
            refine j_sipush (v := (-1001)) dX8_takeEach_52 (by decide) ?_
            refine j_iret dX8_takeEach_55 rfl rfl ?_ (Nat.le_of_ble_eq_true rfl) (Nat.le_of_ble_eq_true rfl)
            exact ⟨rfl, rfl, (by rw [← ho]; rfl), _, _, _, (by rw [← ho]; show z_row 12 (nI (A ++ v1 :: D1).length) _ _; rw [← hBl]; exact hr1), (by rw [← ho, hBl] <;> rfl)⟩
          · have hq0 := sp_tts c_36
            refine j_iload dX8_takeEach_39 rfl ?_
            refine j_iconst (v := 1) dX8_takeEach_41 (by decide) ?_
            refine j_icmp_ne (tgt := 56) dX8_takeEach_42 (by decide) (fun c_42 => ?_) (fun c_42 => ?_)
            · rw [sp_riO hq0 c_42] at ho
              refine j_iload dX8_takeEach_56 rfl ?_
              refine j_iconst (v := 1) dX8_takeEach_58 (by decide) ?_
              refine j_icmp_ne (tgt := 64) dX8_takeEach_59 (by decide) (fun c_59 => ?_) (fun c_59 => ?_)
              · refine j_iinc (lo' := [(4, _), (5, _), (0, _), (1, _), (2, _), (3, _)]) dX8_takeEach_64 rfl (z_inc _) (by decide) rfl ?_
                refine j_goto (tgt := 5) dX8_takeEach_67 (by decide) ?_
                exact j_lo2 (ih _ _ _ k1 (A ++ [v1]) D1 M1 (q1 + 1) (s1 + 1) (by rw [← sp_mid]; exact hr1) (sp_midl hBl) ho (by rw [List.length_append, hq1]; rfl) (by omega) (by omega)) (z_q1 rfl (z_q1 rfl (z_q1 rfl (z_q1 rfl (z_q1 rfl z_q0)))))
              · exact absurd c_59 c_42
            · have c42 := c_42
              rw [c42] at hq0
              rw [sp_riT hq0] at ho
              refine j_aload_n dX8_takeEach_45 rfl rfl ?_
              subst hq1
              refine j_callV (q := (RX2, TX2, 5)) dX8_takeEach_46 kX2_takeAway lX8_337 inX2_takeAway seX2_takeAway rfl rfl (z_frame [0, 1, 2, 3, 4] rfl (by decide) (Nat.le_of_ble_eq_true rfl) (c_X2_takeAway_f_e hl _ _ _ _ A D1 v1 M1 hr1 hBl)) (Nat.le_of_ble_eq_true rfl) ⟨(Nat.le_of_ble_eq_true rfl), (Nat.le_of_ble_eq_true rfl)⟩ rfl (Nat.le_of_ble_eq_true rfl) rfl rfl (fun _ _ h => h.elim) ?_
              rintro _ _ ⟨_, _, ⟨rfl, f9, hr9, rfl⟩, rfl, rfl⟩
              refine j_w ([.inr (7, [_, _, _, _, _]), .inr (6, [_, _, _, _]), z_ia 12 _, .inr (11, [_]), z_ia 7 _], z_no) rfl ?_
              refine j_if_ne (tgt := 56) dX8_takeEach_49 (by decide) (fun c_49 => ?_) (fun c_49 => ?_)
              · have hb49 := z_bt c_49
                refine j_iload dX8_takeEach_56 rfl ?_
                refine j_iconst (v := 1) dX8_takeEach_58 (by decide) ?_
                refine j_icmp_ne (tgt := 64) dX8_takeEach_59 (by decide) (fun c_59 => ?_) (fun c_59 => ?_)
                · exact absurd c42 c_59
                · refine j_iconst (v := 1) dX8_takeEach_62 (by decide) ?_
                  refine j_istore_n (lo' := [(3, _), (5, _), (0, _), (1, _), (2, _), (4, _)]) dX8_takeEach_63 (by decide) rfl ?_
                  refine j_iinc (lo' := [(4, _), (3, _), (5, _), (0, _), (1, _), (2, _)]) dX8_takeEach_64 rfl (z_inc _) (by decide) rfl ?_
                  refine j_goto (tgt := 5) dX8_takeEach_67 (by decide) ?_
                  exact j_lo2 (ih _ _ _ true A D1 (M1 - 1) A.length (s1 + 1) hr9 (by rw [List.length_append]; omega) ho rfl (by omega) (by omega)) (z_q1 rfl (z_q1 rfl (z_q1 rfl (z_q1 rfl (z_q1 rfl z_q0)))))
              · have hb49 := z_bF c_49
                cases hb49
  exact j_lo2 (loop (B.length + 1) f c u false [] B M 0 0 hr hM rfl rfl (by have := hr.2.1; omega) (by omega)) (z_q1 rfl (z_q1 rfl (z_q1 rfl (z_q1 rfl (z_q1 rfl z_q0)))))
set_option maxRecDepth 100000 in
set_option maxHeartbeats 8000000 in
theorem c_X8_isWhatIsLeft_e (hl : l.stackTraces = false) (x : Bool) (f c : Nat → Int32) (B : List Int32) (M : Nat) (x2 : Bool) (f2 c2 : Nat → Int32) (B2 : List Int32) (M2 : Nat) (t : Int32) (hr : z_row 12 (nI M) f B) (hM : M = B.length) (hr2 : z_row 12 (nI M2) f2 B2) (hM2 : M2 = B2.length) (hw : B = B2.filter (sp_no t)) : z_CF G l mX8_isWhatIsLeft 13 0 0 [.inr (6, [.ref 1, .ref 2, .int (nI M), .int (z_bi x)]), z_ia 12 f, .inr (11, [.ref 3]), z_ia 7 c, .inr (6, [.ref 5, .ref 6, .int (nI M2), .int (z_bi x2)]), z_ia 12 f2, .inr (11, [.ref 7]), z_ia 7 c2] [.ref 0, .ref 4, .int t] (fun v L => v = some (.int 1) ∧ L = [.inr (6, [.ref 1, .ref 2, .int (nI M), .int (z_bi x)]), z_ia 12 f, .inr (11, [.ref 3]), z_ia 7 c, .inr (6, [.ref 5, .ref 6, .int (nI M2), .int (z_bi x2)]), z_ia 12 f2, .inr (11, [.ref 7]), z_ia 7 c2]) := by
  refine z_body hl (by decide) rfl (Nat.le_of_ble_eq_true rfl) ?_
  show z_J G l mX8_isWhatIsLeft (z_SF 13 0 0 [.inr (6, [.ref 1, .ref 2, .int (nI M), .int (z_bi x)]), z_ia 12 f, .inr (11, [.ref 3]), z_ia 7 c, .inr (6, [.ref 5, .ref 6, .int (nI M2), .int (z_bi x2)]), z_ia 12 f2, .inr (11, [.ref 7]), z_ia 7 c2] (fun v L => v = some (.int 1) ∧ L = [.inr (6, [.ref 1, .ref 2, .int (nI M), .int (z_bi x)]), z_ia 12 f, .inr (11, [.ref 3]), z_ia 7 c, .inr (6, [.ref 5, .ref 6, .int (nI M2), .int (z_bi x2)]), z_ia 12 f2, .inr (11, [.ref 7]), z_ia 7 c2])) 0 [(0, _), (1, _), (2, _)] [] _ 0 0
  have hln := hr.2.1
  have hln2 := hr2.2.1
  refine j_iconst (v := 0) dX8_isWhatIsLeft_0 (by decide) ?_
  refine j_istore_n (lo' := [(3, _), (0, _), (1, _), (2, _)]) dX8_isWhatIsLeft_1 (by decide) rfl ?_
  refine j_iconst (v := 0) dX8_isWhatIsLeft_2 (by decide) ?_
  refine j_istore (lo' := [(4, _), (3, _), (0, _), (1, _), (2, _)]) dX8_isWhatIsLeft_3 (by decide) rfl ?_
  have loop : ∀ (n9 : Nat) (q j : Nat), (q = ((B2.take j).filter (sp_no t)).length) → (q ≤ j) → (j ≤ M2) → (M2 < j + n9) → z_J G l mX8_isWhatIsLeft (z_SF 13 0 0 [.inr (6, [.ref 1, .ref 2, .int (nI M), .int (z_bi x)]), z_ia 12 f, .inr (11, [.ref 3]), z_ia 7 c, .inr (6, [.ref 5, .ref 6, .int (nI M2), .int (z_bi x2)]), z_ia 12 f2, .inr (11, [.ref 7]), z_ia 7 c2] (fun v L => v = some (.int 1) ∧ L = [.inr (6, [.ref 1, .ref 2, .int (nI M), .int (z_bi x)]), z_ia 12 f, .inr (11, [.ref 3]), z_ia 7 c, .inr (6, [.ref 5, .ref 6, .int (nI M2), .int (z_bi x2)]), z_ia 12 f2, .inr (11, [.ref 7]), z_ia 7 c2])) 5 [(0, .ref 0), (1, .ref 4), (2, .int t), (3, .int (nI q)), (4, .int (nI j))] [] ([.inr (6, [.ref 1, .ref 2, .int (nI M), .int (z_bi x)]), z_ia 12 f, .inr (11, [.ref 3]), z_ia 7 c, .inr (6, [.ref 5, .ref 6, .int (nI M2), .int (z_bi x2)]), z_ia 12 f2, .inr (11, [.ref 7]), z_ia 7 c2], z_no) 0 0 := by
    intro n9
    induction n9 with
    | zero => intro q j hq hqj hj hf9; exact absurd hf9 (by omega)
    | succ n9 ih =>
      intro q j hq hqj hj hf9
      refine j_iload dX8_isWhatIsLeft_5 rfl ?_
      refine j_aload_n dX8_isWhatIsLeft_7 rfl rfl ?_
      refine j_getf dX8_isWhatIsLeft_8 fX8_68 rfl rfl ?_
      refine j_icmp_ge (tgt := 61) dX8_isWhatIsLeft_11 (by decide) (fun c_11 => ?_) (fun c_11 => ?_)
      · have hb11 : M2 ≤ j := (nI_leI (a := M2) (b := j) (by omega) (by omega)).mp c_11
        have hjM : j = M2 := by omega
        have hqe : q = M := by rw [hM, hw, hq, hjM, hM2, List.take_length]
        refine j_aload_n dX8_isWhatIsLeft_61 rfl rfl ?_
        refine j_getf dX8_isWhatIsLeft_62 fX8_68 rfl rfl ?_
        refine j_iload_n dX8_isWhatIsLeft_65 rfl ?_
        refine j_icmp_ne (tgt := 73) dX8_isWhatIsLeft_66 (by decide) (fun c_66 => ?_) (fun c_66 => ?_)
        · have hb66 : ¬ M = q := fun z => c_66 (show nI M = nI q by rw [z])
          exact absurd hqe.symm hb66
        · have hb66 : M = q := nI_inj (a := M) (b := q) c_66 (by omega) (by omega)
          refine j_iconst (v := 1) dX8_isWhatIsLeft_69 (by decide) ?_
          refine j_goto (tgt := 74) dX8_isWhatIsLeft_70 (by decide) ?_
          refine j_iret dX8_isWhatIsLeft_74 rfl rfl ?_ (Nat.le_of_ble_eq_true rfl) (Nat.le_of_ble_eq_true rfl)
          exact ⟨rfl, rfl, rfl, rfl⟩
      · have hb11 : j < M2 := Nat.not_le.mp (fun z => c_11 ((nI_leI (a := M2) (b := j) (by omega) (by omega)).mpr z))
        have hj2 : B2[j]? = some (f2 j) := hr2.2.2 j (by omega)
        refine j_aload_n dX8_isWhatIsLeft_14 rfl rfl ?_
        refine j_iload dX8_isWhatIsLeft_15 rfl ?_
        refine j_callV (q := (RX1, TX1, 4)) dX8_isWhatIsLeft_17 kX1_valueAt lX8_203 inX1_valueAt seX1_valueAt rfl rfl (z_frame [4, 5, 6, 7] rfl (by decide) (Nat.le_of_ble_eq_true rfl) (c_X1_valueAt_e hl _ _ _ B2 M2 j hr2 hM2 (by omega))) (Nat.le_of_ble_eq_true rfl) ⟨(Nat.le_of_ble_eq_true rfl), (Nat.le_of_ble_eq_true rfl)⟩ rfl (Nat.le_of_ble_eq_true rfl) rfl rfl (fun _ _ h => h.elim) ?_
        rintro _ _ ⟨_, _, ⟨rfl, rfl⟩, rfl, rfl⟩
        refine j_w ([.inr (6, [_, _, _, _]), z_ia 12 _, .inr (11, [_]), z_ia 7 _, .inr (6, [_, _, _, _]), z_ia 12 _, .inr (11, [_]), z_ia 7 _], z_no) rfl ?_
        refine j_istore (lo' := [(5, _), (0, _), (1, _), (2, _), (3, _), (4, _)]) dX8_isWhatIsLeft_20 (by decide) rfl ?_
        refine j_iload_n dX8_isWhatIsLeft_22 rfl ?_
        refine j_iload dX8_isWhatIsLeft_23 rfl ?_
        refine j_iconst (v := 0) dX8_isWhatIsLeft_25 (by decide) ?_
        refine j_callS dX8_isWhatIsLeft_26 kX8_testTells lX8_241 stX8_testTells (c_X8_testTells_e hl _ _ _ _) (Nat.le_of_ble_eq_true rfl) ⟨(Nat.le_of_ble_eq_true rfl), (Nat.le_of_ble_eq_true rfl)⟩ rfl (Nat.le_of_ble_eq_true rfl) rfl rfl (fun _ _ h => h.elim) ?_
        rintro _ _ ⟨rfl, rfl⟩
        refine j_if_ne (tgt := 55) dX8_isWhatIsLeft_29 (by decide) (fun c_29 => ?_) (fun c_29 => ?_)
        · have hno := sp_no0 c_29
          refine j_iinc (lo' := [(4, _), (5, _), (0, _), (1, _), (2, _), (3, _)]) dX8_isWhatIsLeft_55 rfl (z_inc _) (by decide) rfl ?_
          refine j_goto (tgt := 5) dX8_isWhatIsLeft_58 (by decide) ?_
          exact j_lo2 (ih q (j + 1) (by rw [sp_ft0 hj2 hno]; exact hq) (by omega) (by omega) (by omega)) (z_q1 rfl (z_q1 rfl (z_q1 rfl (z_q1 rfl (z_q1 rfl z_q0)))))
        · have hno := sp_no1 c_29
          have hg := sp_ftg hj2 hno
          rw [← hw, ← hq] at hg
          have hql := (List.getElem?_eq_some_iff.mp hg).1
          have hfq := hr.at hg
          refine j_aload_n dX8_isWhatIsLeft_32 rfl rfl ?_
          refine j_iload_n dX8_isWhatIsLeft_33 rfl ?_
          refine j_callV (q := (RX1, TX1, 4)) dX8_isWhatIsLeft_34 kX1_isPlace lX8_194 inX1_isPlace seX1_isPlace rfl rfl (z_frame [0, 1, 2, 3] rfl (by decide) (Nat.le_of_ble_eq_true rfl) (c_X1_isPlace_e hl _ _ _ B M q hr hM (by omega))) (Nat.le_of_ble_eq_true rfl) ⟨(Nat.le_of_ble_eq_true rfl), (Nat.le_of_ble_eq_true rfl)⟩ rfl (Nat.le_of_ble_eq_true rfl) rfl rfl (fun _ _ h => h.elim) ?_
          rintro _ _ ⟨_, _, ⟨rfl, rfl⟩, rfl, rfl⟩
          refine j_w ([.inr (6, [_, _, _, _]), z_ia 12 _, .inr (11, [_]), z_ia 7 _, .inr (6, [_, _, _, _]), z_ia 12 _, .inr (11, [_]), z_ia 7 _], z_no) rfl ?_
          refine j_if_eq (tgt := 50) dX8_isWhatIsLeft_37 (by decide) (fun c_37 => ?_) (fun c_37 => ?_)
          · have hb37 := z_bF c_37
            exact absurd (show q < M by omega) (of_decide_eq_false hb37)
          · have hb37 := z_bt c_37
            refine j_aload_n dX8_isWhatIsLeft_40 rfl rfl ?_
            refine j_iload_n dX8_isWhatIsLeft_41 rfl ?_
            refine j_callV (q := (RX1, TX1, 4)) dX8_isWhatIsLeft_42 kX1_valueAt lX8_203 inX1_valueAt seX1_valueAt rfl rfl (z_frame [0, 1, 2, 3] rfl (by decide) (Nat.le_of_ble_eq_true rfl) (c_X1_valueAt_e hl _ _ _ B M q hr hM hql)) (Nat.le_of_ble_eq_true rfl) ⟨(Nat.le_of_ble_eq_true rfl), (Nat.le_of_ble_eq_true rfl)⟩ rfl (Nat.le_of_ble_eq_true rfl) rfl rfl (fun _ _ h => h.elim) ?_
            rintro _ _ ⟨_, _, ⟨rfl, rfl⟩, rfl, rfl⟩
            refine j_w ([.inr (6, [_, _, _, _]), z_ia 12 _, .inr (11, [_]), z_ia 7 _, .inr (6, [_, _, _, _]), z_ia 12 _, .inr (11, [_]), z_ia 7 _], z_no) rfl ?_
            refine j_iload dX8_isWhatIsLeft_45 rfl ?_
            refine j_icmp_eq (tgt := 52) dX8_isWhatIsLeft_47 (by decide) (fun c_47 => ?_) (fun c_47 => ?_)
            · refine j_iinc (lo' := [(3, _), (5, _), (0, _), (1, _), (2, _), (4, _)]) dX8_isWhatIsLeft_52 rfl (z_inc _) (by decide) rfl ?_
              refine j_iinc (lo' := [(4, _), (3, _), (5, _), (0, _), (1, _), (2, _)]) dX8_isWhatIsLeft_55 rfl (z_inc _) (by decide) rfl ?_
              refine j_goto (tgt := 5) dX8_isWhatIsLeft_58 (by decide) ?_
              exact j_lo2 (ih (q + 1) (j + 1) (by rw [sp_ft1 hj2 hno, List.length_append, ← hq]; rfl) (by omega) (by omega) (by omega)) (z_q1 rfl (z_q1 rfl (z_q1 rfl (z_q1 rfl (z_q1 rfl z_q0)))))
            · exact absurd hfq c_47
  exact j_lo2 (loop (M2 + 1) 0 0 rfl (by omega) (by omega) (by omega)) (z_q1 rfl (z_q1 rfl (z_q1 rfl (z_q1 rfl (z_q1 rfl z_q0)))))
theorem c_X8_changeEach_X2_e (hl : l.stackTraces = false) (x : Bool) (u : Int32) (f c : Nat → Int32) (B : List Int32) (M : Nat) (r n : Int32) (hr : z_row 12 (nI M) f B) (hM : M = B.length) (hB : ∀ v ∈ B, z_vl v) (hr2n : ¬ r = 2) (hr3n : ¬ r = 3) (hn : z_vl n) : z_CF G l mX8_changeEach 15 0 0 [.inr (7, [.ref 3, .int 0, .int u, .ref 1, .int (nI 0)]), .inr (6, [.ref 2, .ref 3, .int (nI M), .int (z_bi x)]), z_ia 12 f, .inr (11, [.ref 4]), z_ia 7 c] [.ref 0, .int r, .int n] (fun v L => v = some (.int (z_bi (sp_ra x r n c [] B).1)) ∧ ∃ (u' p' : Int32) (f' : Nat → Int32), z_row 12 (nI (sp_ra x r n c [] B).2.2.length) f' (sp_ra x r n c [] B).2.2 ∧ L = [.inr (7, [.ref 3, .int 0, .int u', .ref 1, .int p']), .inr (6, [.ref 2, .ref 3, .int (nI (sp_ra x r n c [] B).2.2.length), .int (z_bi x)]), z_ia 12 f', .inr (11, [.ref 4]), z_ia 7 (sp_ra x r n c [] B).2.1]) := by
  cases x with
  | false => exact c_X8_changeEach_X2_f_e hl u f c B M r n hr hM hB hr2n hr3n hn
  | true => exact c_X8_changeEach_X2_t_e hl u f c B M r n hr hM hB hr2n hr3n hn
theorem c_X8_takeEach_e (hl : l.stackTraces = false) (x : Bool) (k u : Int32) (f c : Nat → Int32) (B : List Int32) (M : Nat) (t n : Int32) (hr : z_row 12 (nI M) f B) (hM : M = B.length) : z_CF G l mX8_takeEach 15 0 0 [.inr (7, [.ref 3, .int k, .int u, .ref 1, .int (nI 0)]), .inr (6, [.ref 2, .ref 3, .int (nI M), .int (z_bi x)]), z_ia 12 f, .inr (11, [.ref 4]), z_ia 7 c] [.ref 0, .int t, .int n] (fun v L => v = some (.int (((sp_ri x t n c [] false B).1.map z_bi).getD (-1001))) ∧ ∃ (u' p' : Int32) (f' : Nat → Int32), z_row 12 (nI (sp_ri x t n c [] false B).2.2.length) f' (sp_ri x t n c [] false B).2.2 ∧ L = [.inr (7, [.ref 3, .int k, .int u', .ref 1, .int p']), .inr (6, [.ref 2, .ref 3, .int (nI (sp_ri x t n c [] false B).2.2.length), .int (z_bi x)]), z_ia 12 f', .inr (11, [.ref 4]), z_ia 7 (sp_ri x t n c [] false B).2.1]) := by
  cases x with
  | false => exact c_X8_takeEach_f_e hl k u f c B M t n hr hM
  | true => exact c_X8_takeEach_t_e hl k u f c B M t n hr hM
end ZCw
