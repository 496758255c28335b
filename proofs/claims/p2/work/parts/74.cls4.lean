section ZL4
variable {G : z_G} {l : Launch}
set_option maxRecDepth 100000 in
set_option maxHeartbeats 8000000 in
theorem c_X6_init (hl : l.stackTraces = false)  : z_CN G l mX6_init 10 1 7 1 [.inr (11, [.null])] [.ref 0] (fun v L => v = none ∧ ∃ c : Nat → Int32, L = [.inr (11, [.ref 1]), z_ia 7 c]) := by
  refine z_body hl (by decide) rfl (Nat.le_of_ble_eq_true rfl) ?_
  show z_J G l mX6_init (z_SN 10 1 7 1 [.inr (11, [.null])] (fun v L => v = none ∧ ∃ c : Nat → Int32, L = [.inr (11, [.ref 1]), z_ia 7 c])) 0 [(0, _)] [] _ 0 0
  refine j_aload_n dX6_init_0 rfl rfl ?_
  refine j_objI dX6_init_1 oX6_3 z_oi1 z_oi2 (Nat.le_of_ble_eq_true rfl) (Nat.le_of_ble_eq_true rfl) ?_
  refine j_aload_n dX6_init_4 rfl rfl ?_
  refine j_bipush (v := 7) dX6_init_5 (by decide) ?_
  refine j_newa (kd := 0) (N := 7) (w' := ([.inr (11, [_]), _], z_no)) (n := 1) dX6_init_7 rfl rfl arc_int ⟨rfl, fun _ _ h => h⟩ (by decide) rfl (by decide) rfl (z_al_l rfl rfl) (Nat.le_of_ble_eq_true rfl) (Nat.le_of_ble_eq_true rfl) ?_
  refine j_putF (w' := ([.inr (11, [_]), _], z_no)) dX6_init_9 fX6_9 tX6_0 rfl (z_dc rfl rfl (z_w 103 ((lwg_1 58).trans (by decide +kernel)) (by decide +kernel))) rfl (Or.inr ⟨_, rfl⟩) rfl ?_
  refine j_vret dX6_init_12 rfl ?_ (Nat.le_of_ble_eq_true rfl) (Nat.le_of_ble_eq_true rfl)
  exact ⟨rfl, (Nat.le_of_ble_eq_true rfl), rfl, _, rfl⟩
set_option maxRecDepth 100000 in
set_option maxHeartbeats 8000000 in
theorem c_X1_init (hl : l.stackTraces = false)  : z_CN G l mX1_init 11 3 20 3 [.inr (6, [.null, .null, .int 0, .int 0])] [.ref 0] (fun v L => v = none ∧ ∃ f c : Nat → Int32, L = [.inr (6, [.ref 1, .ref 2, .int 0, .int 0]), z_ia 12 f, .inr (11, [.ref 3]), z_ia 7 c]) := by
  refine z_body hl (by decide) rfl (Nat.le_of_ble_eq_true rfl) ?_
  show z_J G l mX1_init (z_SN 11 3 20 3 [.inr (6, [.null, .null, .int 0, .int 0])] (fun v L => v = none ∧ ∃ f c : Nat → Int32, L = [.inr (6, [.ref 1, .ref 2, .int 0, .int 0]), z_ia 12 f, .inr (11, [.ref 3]), z_ia 7 c])) 0 [(0, _)] [] _ 0 0
  refine j_aload_n dX1_init_0 rfl rfl ?_
  refine j_objI dX1_init_1 oX1_3 z_oi1 z_oi2 (Nat.le_of_ble_eq_true rfl) (Nat.le_of_ble_eq_true rfl) ?_
  refine j_aload_n dX1_init_4 rfl rfl ?_
  refine j_bipush (v := 12) dX1_init_5 (by decide) ?_
  refine j_newa (kd := 0) (N := 12) (w' := ([.inr (6, [_, _, _, _]), _], z_no)) (n := 1) dX1_init_7 rfl rfl arc_int ⟨rfl, fun _ _ h => h⟩ (by decide) rfl (by decide) rfl (z_al_l rfl rfl) (Nat.le_of_ble_eq_true rfl) (Nat.le_of_ble_eq_true rfl) ?_
  refine j_putF (w' := ([.inr (6, [_, _, _, _]), _], z_no)) dX1_init_9 fX1_9 tX1_0 rfl (z_dc rfl rfl (z_w 108 ((lwg_1 63).trans (by decide +kernel)) (by decide +kernel))) rfl (Or.inr ⟨_, rfl⟩) rfl ?_
  refine j_aload_n dX1_init_12 rfl rfl ?_
  refine j_new (w' := ([.inr (6, [_, _, _, _]), _, _], z_no)) (n := 2) dX1_init_13 nX1_15 rfl (z_al_l rfl rfl) (Nat.le_of_ble_eq_true rfl) (Nat.le_of_ble_eq_true rfl) ?_
  refine j_dup dX1_init_16 rfl ?_
  refine j_callIN dX1_init_17 kX6_init rfl lX1_17 inX6_init rfl (z_frameN [2] rfl (by decide) (Nat.le_of_ble_eq_true rfl) (Nat.le_of_ble_eq_true rfl) (c_X6_init hl)) (Nat.le_of_ble_eq_true rfl) ⟨(Nat.le_of_ble_eq_true rfl), (Nat.le_of_ble_eq_true rfl)⟩ rfl (Nat.le_of_ble_eq_true rfl) rfl rfl (fun _ _ h => h.elim) ?_
  rintro _ _ ⟨_, _, ⟨rfl, _, rfl⟩, rfl, rfl⟩
  refine j_w ([.inr (6, [_, _, _, _]), _, _, _], z_no) rfl ?_
  refine j_putF (w' := ([.inr (6, [_, _, _, _]), _, _, _], z_no)) dX1_init_20 fX1_18 tX1_1 rfl (z_dc rfl rfl (z_w 111 ((lwg_1 66).trans (by decide +kernel)) (by decide +kernel))) rfl (Or.inl ⟨_, rfl⟩) rfl ?_
  refine j_vret dX1_init_23 rfl ?_ (Nat.le_of_ble_eq_true rfl) (Nat.le_of_ble_eq_true rfl)
  exact ⟨rfl, (Nat.le_of_ble_eq_true rfl), rfl, _, _, rfl⟩
set_option maxRecDepth 100000 in
set_option maxHeartbeats 8000000 in
theorem c_X0_init (hl : l.stackTraces = false)  : z_CN G l mX0_init 11 1 10 1 [.inr (5, [.null, .int 0, .int 0, .int 0, .int 0, .int 0])] [.ref 0] (fun v L => v = none ∧ ∃ f : Nat → Int32, L = [.inr (5, [.ref 1, .int 0, .int 0, .int 0, .int (-1), .int (-1000)]), z_ia 10 f]) := by
  refine z_body hl (by decide) rfl (Nat.le_of_ble_eq_true rfl) ?_
  show z_J G l mX0_init (z_SN 11 1 10 1 [.inr (5, [.null, .int 0, .int 0, .int 0, .int 0, .int 0])] (fun v L => v = none ∧ ∃ f : Nat → Int32, L = [.inr (5, [.ref 1, .int 0, .int 0, .int 0, .int (-1), .int (-1000)]), z_ia 10 f])) 0 [(0, _)] [] _ 0 0
  refine j_aload_n dX0_init_0 rfl rfl ?_
  refine j_objI dX0_init_1 oX0_3 z_oi1 z_oi2 (Nat.le_of_ble_eq_true rfl) (Nat.le_of_ble_eq_true rfl) ?_
  refine j_aload_n dX0_init_4 rfl rfl ?_
  refine j_bipush (v := 10) dX0_init_5 (by decide) ?_
  refine j_newa (kd := 0) (N := 10) (w' := ([.inr (5, [_, _, _, _, _, _]), _], z_no)) (n := 1) dX0_init_7 rfl rfl arc_int ⟨rfl, fun _ _ h => h⟩ (by decide) rfl (by decide) rfl (z_al_l rfl rfl) (Nat.le_of_ble_eq_true rfl) (Nat.le_of_ble_eq_true rfl) ?_
  refine j_putF (w' := ([.inr (5, [_, _, _, _, _, _]), _], z_no)) dX0_init_9 fX0_9 tX0_0 rfl (z_dc rfl rfl (z_w 163 ((lwg_1 118).trans (by decide +kernel)) (by decide +kernel))) rfl (Or.inr ⟨_, rfl⟩) rfl ?_
  refine j_aload_n dX0_init_12 rfl rfl ?_
  refine j_iconst (v := (-1)) dX0_init_13 (by decide) ?_
  refine j_put (w' := ([.inr (5, [_, _, _, _, _, _]), _], z_no)) dX0_init_14 fX0_15 tX0_4 rfl ⟨rfl, rfl⟩ rfl ?_
  refine j_aload_n dX0_init_17 rfl rfl ?_
  refine j_sipush (v := (-1000)) dX0_init_18 (by decide) ?_
  refine j_put (w' := ([.inr (5, [_, _, _, _, _, _]), _], z_no)) dX0_init_21 fX0_19 tX0_5 rfl ⟨rfl, rfl⟩ rfl ?_
  refine j_vret dX0_init_24 rfl ?_ (Nat.le_of_ble_eq_true rfl) (Nat.le_of_ble_eq_true rfl)
  exact ⟨rfl, (Nat.le_of_ble_eq_true rfl), rfl, _, rfl⟩
set_option maxRecDepth 100000 in
set_option maxHeartbeats 8000000 in
theorem c_X4_init (hl : l.stackTraces = false) (b : Bool) : z_CN G l mX4_init 12 4 48 4 [.inr (9, [.int 0, .null, .null, .null, .int 0])] [.ref 0, .int (z_bi b)] (fun v L => v = none ∧ ∃ (f g c : Nat → Int32) (so : Int32), L = [.inr (9, [.int so, .ref 1, .ref 2, .ref 3, .int 0]), z_ia 20 f, z_ia 20 g, .inr (11, [.ref 4]), z_ia 7 c]) := by
  refine z_body hl (by decide) rfl (Nat.le_of_ble_eq_true rfl) ?_
  show z_J G l mX4_init (z_SN 12 4 48 4 [.inr (9, [.int 0, .null, .null, .null, .int 0])] (fun v L => v = none ∧ ∃ (f g c : Nat → Int32) (so : Int32), L = [.inr (9, [.int so, .ref 1, .ref 2, .ref 3, .int 0]), z_ia 20 f, z_ia 20 g, .inr (11, [.ref 4]), z_ia 7 c])) 0 [(0, _), (1, _)] [] _ 0 0
  refine j_aload_n dX4_init_0 rfl rfl ?_
  refine j_objI dX4_init_1 oX4_3 z_oi1 z_oi2 (Nat.le_of_ble_eq_true rfl) (Nat.le_of_ble_eq_true rfl) ?_
  refine j_aload_n dX4_init_4 rfl rfl ?_
  refine j_bipush (v := 20) dX4_init_5 (by decide) ?_
  refine j_newa (kd := 0) (N := 20) (w' := ([.inr (9, [_, _, _, _, _]), _], z_no)) (n := 1) dX4_init_7 rfl rfl arc_int ⟨rfl, fun _ _ h => h⟩ (by decide) rfl (by decide) rfl (z_al_l rfl rfl) (Nat.le_of_ble_eq_true rfl) (Nat.le_of_ble_eq_true rfl) ?_
  refine j_putF (w' := ([.inr (9, [_, _, _, _, _]), _], z_no)) dX4_init_9 fX4_9 tX4_1 rfl (z_dc rfl rfl (z_w 136 ((lwg_1 91).trans (by decide +kernel)) (by decide +kernel))) rfl (Or.inr ⟨_, rfl⟩) rfl ?_
  refine j_aload_n dX4_init_12 rfl rfl ?_
  refine j_bipush (v := 20) dX4_init_13 (by decide) ?_
  refine j_newa (kd := 0) (N := 20) (w' := ([.inr (9, [_, _, _, _, _]), _, _], z_no)) (n := 2) dX4_init_15 rfl rfl arc_int ⟨rfl, fun _ _ h => h⟩ (by decide) rfl (by decide) rfl (z_al_l rfl rfl) (Nat.le_of_ble_eq_true rfl) (Nat.le_of_ble_eq_true rfl) ?_
  refine j_putF (w' := ([.inr (9, [_, _, _, _, _]), _, _], z_no)) dX4_init_17 fX4_15 tX4_2 rfl (z_dc rfl rfl (z_w 137 ((lwg_1 92).trans (by decide +kernel)) (by decide +kernel))) rfl (Or.inr ⟨_, rfl⟩) rfl ?_
  refine j_aload_n dX4_init_20 rfl rfl ?_
  refine j_new (w' := ([.inr (9, [_, _, _, _, _]), _, _, _], z_no)) (n := 3) dX4_init_21 nX4_18 rfl (z_al_l rfl rfl) (Nat.le_of_ble_eq_true rfl) (Nat.le_of_ble_eq_true rfl) ?_
  refine j_dup dX4_init_24 rfl ?_
  refine j_callIN dX4_init_25 kX6_init rfl lX4_20 inX6_init rfl (z_frameN [3] rfl (by decide) (Nat.le_of_ble_eq_true rfl) (Nat.le_of_ble_eq_true rfl) (c_X6_init hl)) (Nat.le_of_ble_eq_true rfl) ⟨(Nat.le_of_ble_eq_true rfl), (Nat.le_of_ble_eq_true rfl)⟩ rfl (Nat.le_of_ble_eq_true rfl) rfl rfl (fun _ _ h => h.elim) ?_
  rintro _ _ ⟨_, _, ⟨rfl, c, rfl⟩, rfl, rfl⟩
  refine j_w ([.inr (9, [_, _, _, _, _]), _, _, _, _], z_no) rfl ?_
  refine j_putF (w' := ([.inr (9, [_, _, _, _, _]), _, _, _, _], z_no)) dX4_init_28 fX4_21 tX4_3 rfl (z_dc rfl rfl (z_w 139 ((lwg_1 94).trans (by decide +kernel)) (by decide +kernel))) rfl (Or.inl ⟨_, rfl⟩) rfl ?_
  refine j_aload_n dX4_init_31 rfl rfl ?_
  refine j_iload_n dX4_init_32 rfl ?_
  refine j_putF (w' := ([.inr (9, [_, _, _, _, _]), _, _, _, _], z_no)) dX4_init_33 fX4_25 tX4_0 rfl (z_dc rfl rfl (z_w 135 ((lwg_1 90).trans (by decide +kernel)) (by decide +kernel))) rfl ⟨z_bn _, z_bf _⟩ rfl ?_
  refine j_iconst (v := 0) dX4_init_36 (by decide) ?_
  refine j_istore_n (lo' := [(2, _), (0, _), (1, _)]) dX4_init_37 (by decide) rfl ?_
  have loop : ∀ (n j : Nat) (f' : Nat → Int32), j ≤ 20 → 20 < j + n → z_J G l mX4_init (z_SN 12 4 48 4 [.inr (9, [.int 0, .null, .null, .null, .int 0])] (fun v L => v = none ∧ ∃ (f g c : Nat → Int32) (so : Int32), L = [.inr (9, [.int so, .ref 1, .ref 2, .ref 3, .int 0]), z_ia 20 f, z_ia 20 g, .inr (11, [.ref 4]), z_ia 7 c])) 38 [(0, .ref 0), (2, .int (nI j))] [] ([.inr (9, [.int (z_bi b), .ref 1, .ref 2, .ref 3, .int 0]), z_ia 20 f', z_ia 20 (fun _ => 0), .inr (11, [.ref 4]), z_ia 7 c], z_no) 4 48 := by
    intro n
    induction n with
    | zero => intro j f' h1 h2 ; exact absurd h2 (by omega)
    | succ n ih =>
      intro j f' h1 h2
      refine j_iload_n dX4_init_38 rfl ?_
      refine j_aload_n dX4_init_39 rfl rfl ?_
      refine j_getf dX4_init_40 fX4_9 rfl rfl ?_
      refine j_alen dX4_init_43 rfl rfl rfl ?_
      refine j_icmp_ge (tgt := 62) dX4_init_44 (by decide) (fun c_44 => ?_) (fun c_44 => ?_)
      · refine j_vret dX4_init_62 rfl ?_ (Nat.le_of_ble_eq_true rfl) (Nat.le_of_ble_eq_true rfl)
        exact ⟨rfl, (Nat.le_of_ble_eq_true rfl), rfl, _, _, _, _, rfl⟩
      · have hj : j < 20 := z_ltI c_44 (by omega) (by decide)
        refine j_aload_n dX4_init_47 rfl rfl ?_
        refine j_getf dX4_init_48 fX4_9 rfl rfl ?_
        refine j_iload_n dX4_init_51 rfl ?_
        refine j_sipush (v := (-1000)) dX4_init_52 (by decide) ?_
        refine j_sto (w' := ([.inr (9, [_, _, _, _, _]), z_ia 20 _, z_ia 20 _, .inr (11, [_]), z_ia 7 _], z_no)) dX4_init_55 rfl (vp_in_nI hj (by decide)) rfl ?_
        refine j_iinc (lo' := [(2, _), (0, _)]) dX4_init_56 rfl (z_inc _) (by decide) rfl ?_
        refine j_goto (tgt := 38) dX4_init_59 (by decide) ?_
        exact j_lo2 (ih (j + 1) _ (by omega) (by omega)) (z_q1 rfl (z_q1 rfl z_q0))
  exact j_lo2 (loop (20 + 1) 0 _ (by omega) (by omega)) (z_q1 rfl (z_q1 rfl z_q0))
set_option maxRecDepth 100000 in
set_option maxHeartbeats 8000000 in
theorem c_X7_init_X2 (hl : l.stackTraces = false) (k u p : Int32) (c : Nat → Int32) : z_CF G l mX7_init 12 0 0 [.inr (7, [.null, .int k, .int u, .null, .int p]), .inr (11, [.ref 2]), z_ia 7 c] [.ref 0, .ref 1] (fun v L => v = none ∧ ∃ c' : Nat → Int32, L = [.inr (7, [.ref 1, .int k, .int u, .null, .int p]), .inr (11, [.ref 2]), z_ia 7 c']) := by
  refine z_body hl (by decide) rfl (Nat.le_of_ble_eq_true rfl) ?_
  show z_J G l mX7_init (z_SF 12 0 0 [.inr (7, [.null, .int k, .int u, .null, .int p]), .inr (11, [.ref 2]), z_ia 7 c] (fun v L => v = none ∧ ∃ c' : Nat → Int32, L = [.inr (7, [.ref 1, .int k, .int u, .null, .int p]), .inr (11, [.ref 2]), z_ia 7 c'])) 0 [(0, _), (1, _)] [] _ 0 0
  refine j_aload_n dX7_init_0 rfl rfl ?_
  refine j_objI dX7_init_1 oX7_3 z_oi1 z_oi2 (Nat.le_of_ble_eq_true rfl) (Nat.le_of_ble_eq_true rfl) ?_
  refine j_aload_n dX7_init_4 rfl rfl ?_
  refine j_aload_n dX7_init_5 rfl rfl ?_
  refine j_putF (w' := ([.inr (7, [_, _, _, _, _]), .inr (11, [_]), z_ia 7 _], z_no)) dX7_init_6 fX7_9_X2 tX2_0 rfl (z_dc rfl rfl (z_w 254 ((lwg_1 209).trans (by decide +kernel)) (by decide +kernel))) rfl (Or.inl ⟨_, rfl⟩) rfl ?_
  refine j_aload_n dX7_init_9 rfl rfl ?_
  refine j_iconst (v := 0) dX7_init_10 (by decide) ?_
  refine j_callV (q := (RX6, TX6, 1)) dX7_init_11 kX6_add lX7_15 inX6_add seX6_add rfl rfl (z_frame [1, 2] rfl (by decide) (Nat.le_of_ble_eq_true rfl) (c_X6_add hl _ _)) (Nat.le_of_ble_eq_true rfl) ⟨(Nat.le_of_ble_eq_true rfl), (Nat.le_of_ble_eq_true rfl)⟩ rfl (Nat.le_of_ble_eq_true rfl) rfl rfl (fun _ _ h => h.elim) ?_
  rintro _ _ ⟨_, _, ⟨rfl, _, rfl⟩, rfl, rfl⟩
  refine j_w ([.inr (7, [_, _, _, _, _]), .inr (11, [_]), z_ia 7 _], z_no) rfl ?_
  refine j_vret dX7_init_14 rfl ?_ (Nat.le_of_ble_eq_true rfl) (Nat.le_of_ble_eq_true rfl)
  exact ⟨rfl, rfl, rfl, _, rfl⟩
set_option maxRecDepth 100000 in
set_option maxHeartbeats 8000000 in
theorem c_X7_init_X5 (hl : l.stackTraces = false) (k u p : Int32) (c : Nat → Int32) : z_CF G l mX7_init 12 0 0 [.inr (10, [.null, .int k, .int u, .null, .int p]), .inr (11, [.ref 2]), z_ia 7 c] [.ref 0, .ref 1] (fun v L => v = none ∧ ∃ c' : Nat → Int32, L = [.inr (10, [.ref 1, .int k, .int u, .null, .int p]), .inr (11, [.ref 2]), z_ia 7 c']) := by
  refine z_body hl (by decide) rfl (Nat.le_of_ble_eq_true rfl) ?_
  show z_J G l mX7_init (z_SF 12 0 0 [.inr (10, [.null, .int k, .int u, .null, .int p]), .inr (11, [.ref 2]), z_ia 7 c] (fun v L => v = none ∧ ∃ c' : Nat → Int32, L = [.inr (10, [.ref 1, .int k, .int u, .null, .int p]), .inr (11, [.ref 2]), z_ia 7 c'])) 0 [(0, _), (1, _)] [] _ 0 0
  refine j_aload_n dX7_init_0 rfl rfl ?_
  refine j_objI dX7_init_1 oX7_3 z_oi1 z_oi2 (Nat.le_of_ble_eq_true rfl) (Nat.le_of_ble_eq_true rfl) ?_
  refine j_aload_n dX7_init_4 rfl rfl ?_
  refine j_aload_n dX7_init_5 rfl rfl ?_
  refine j_putF (w' := ([.inr (10, [_, _, _, _, _]), .inr (11, [_]), z_ia 7 _], z_no)) dX7_init_6 fX7_9_X5 tX5_0 rfl (z_dc rfl rfl (z_w 254 ((lwg_1 209).trans (by decide +kernel)) (by decide +kernel))) rfl (Or.inl ⟨_, rfl⟩) rfl ?_
  refine j_aload_n dX7_init_9 rfl rfl ?_
  refine j_iconst (v := 0) dX7_init_10 (by decide) ?_
  refine j_callV (q := (RX6, TX6, 1)) dX7_init_11 kX6_add lX7_15 inX6_add seX6_add rfl rfl (z_frame [1, 2] rfl (by decide) (Nat.le_of_ble_eq_true rfl) (c_X6_add hl _ _)) (Nat.le_of_ble_eq_true rfl) ⟨(Nat.le_of_ble_eq_true rfl), (Nat.le_of_ble_eq_true rfl)⟩ rfl (Nat.le_of_ble_eq_true rfl) rfl rfl (fun _ _ h => h.elim) ?_
  rintro _ _ ⟨_, _, ⟨rfl, _, rfl⟩, rfl, rfl⟩
  refine j_w ([.inr (10, [_, _, _, _, _]), .inr (11, [_]), z_ia 7 _], z_no) rfl ?_
  refine j_vret dX7_init_14 rfl ?_ (Nat.le_of_ble_eq_true rfl) (Nat.le_of_ble_eq_true rfl)
  exact ⟨rfl, rfl, rfl, _, rfl⟩
set_option maxRecDepth 100000 in
set_option maxHeartbeats 8000000 in
theorem c_X7_init_X3 (hl : l.stackTraces = false) (k u to by9 a : Int32) (c : Nat → Int32) : z_CF G l mX7_init 12 0 0 [.inr (8, [.null, .int k, .int u, .int to, .int by9, .int a]), .inr (11, [.ref 2]), z_ia 7 c] [.ref 0, .ref 1] (fun v L => v = none ∧ ∃ c' : Nat → Int32, L = [.inr (8, [.ref 1, .int k, .int u, .int to, .int by9, .int a]), .inr (11, [.ref 2]), z_ia 7 c']) := by
  refine z_body hl (by decide) rfl (Nat.le_of_ble_eq_true rfl) ?_
  show z_J G l mX7_init (z_SF 12 0 0 [.inr (8, [.null, .int k, .int u, .int to, .int by9, .int a]), .inr (11, [.ref 2]), z_ia 7 c] (fun v L => v = none ∧ ∃ c' : Nat → Int32, L = [.inr (8, [.ref 1, .int k, .int u, .int to, .int by9, .int a]), .inr (11, [.ref 2]), z_ia 7 c'])) 0 [(0, _), (1, _)] [] _ 0 0
  refine j_aload_n dX7_init_0 rfl rfl ?_
  refine j_objI dX7_init_1 oX7_3 z_oi1 z_oi2 (Nat.le_of_ble_eq_true rfl) (Nat.le_of_ble_eq_true rfl) ?_
  refine j_aload_n dX7_init_4 rfl rfl ?_
  refine j_aload_n dX7_init_5 rfl rfl ?_
  refine j_putF (w' := ([.inr (8, [_, _, _, _, _, _]), .inr (11, [_]), z_ia 7 _], z_no)) dX7_init_6 fX7_9_X3 tX3_0 rfl (z_dc rfl rfl (z_w 254 ((lwg_1 209).trans (by decide +kernel)) (by decide +kernel))) rfl (Or.inl ⟨_, rfl⟩) rfl ?_
  refine j_aload_n dX7_init_9 rfl rfl ?_
  refine j_iconst (v := 0) dX7_init_10 (by decide) ?_
  refine j_callV (q := (RX6, TX6, 1)) dX7_init_11 kX6_add lX7_15 inX6_add seX6_add rfl rfl (z_frame [1, 2] rfl (by decide) (Nat.le_of_ble_eq_true rfl) (c_X6_add hl _ _)) (Nat.le_of_ble_eq_true rfl) ⟨(Nat.le_of_ble_eq_true rfl), (Nat.le_of_ble_eq_true rfl)⟩ rfl (Nat.le_of_ble_eq_true rfl) rfl rfl (fun _ _ h => h.elim) ?_
  rintro _ _ ⟨_, _, ⟨rfl, _, rfl⟩, rfl, rfl⟩
  refine j_w ([.inr (8, [_, _, _, _, _, _]), .inr (11, [_]), z_ia 7 _], z_no) rfl ?_
  refine j_vret dX7_init_14 rfl ?_ (Nat.le_of_ble_eq_true rfl) (Nat.le_of_ble_eq_true rfl)
  exact ⟨rfl, rfl, rfl, _, rfl⟩
set_option maxRecDepth 100000 in
set_option maxHeartbeats 8000000 in
theorem c_X2_init (hl : l.stackTraces = false) (m fx : Int32) (f c : Nat → Int32) : z_CF G l mX2_init 13 0 0 [.inr (7, [.null, .int 0, .int 0, .null, .int 0]), .inr (6, [.ref 2, .ref 3, .int m, .int fx]), z_ia 12 f, .inr (11, [.ref 4]), z_ia 7 c] [.ref 0, .ref 1] (fun v L => v = none ∧ ∃ c' : Nat → Int32, L = [.inr (7, [.ref 3, .int 0, .int 0, .ref 1, .int 0]), .inr (6, [.ref 2, .ref 3, .int m, .int fx]), z_ia 12 f, .inr (11, [.ref 4]), z_ia 7 c']) := by
  refine z_body hl (by decide) rfl (Nat.le_of_ble_eq_true rfl) ?_
  show z_J G l mX2_init (z_SF 13 0 0 [.inr (7, [.null, .int 0, .int 0, .null, .int 0]), .inr (6, [.ref 2, .ref 3, .int m, .int fx]), z_ia 12 f, .inr (11, [.ref 4]), z_ia 7 c] (fun v L => v = none ∧ ∃ c' : Nat → Int32, L = [.inr (7, [.ref 3, .int 0, .int 0, .ref 1, .int 0]), .inr (6, [.ref 2, .ref 3, .int m, .int fx]), z_ia 12 f, .inr (11, [.ref 4]), z_ia 7 c'])) 0 [(0, _), (1, _)] [] _ 0 0
  refine j_aload_n dX2_init_0 rfl rfl ?_
  refine j_aload_n dX2_init_1 rfl rfl ?_
  refine j_getf dX2_init_2 fX2_3 rfl rfl ?_
  refine j_callI dX2_init_5 kX7_init rfl lX2_9 inX7_init rfl (z_frame [0, 3, 4] rfl (by decide) (Nat.le_of_ble_eq_true rfl) (c_X7_init_X2 hl _ _ _ _)) (Nat.le_of_ble_eq_true rfl) ⟨(Nat.le_of_ble_eq_true rfl), (Nat.le_of_ble_eq_true rfl)⟩ rfl (Nat.le_of_ble_eq_true rfl) rfl rfl (fun _ _ h => h.elim) ?_
  rintro _ _ ⟨_, _, ⟨rfl, _, rfl⟩, rfl, rfl⟩
  refine j_w ([.inr (7, [_, _, _, _, _]), .inr (6, [_, _, _, _]), z_ia 12 _, .inr (11, [_]), z_ia 7 _], z_no) rfl ?_
  refine j_aload_n dX2_init_8 rfl rfl ?_
  refine j_aload_n dX2_init_9 rfl rfl ?_
  refine j_putF (w' := ([.inr (7, [_, _, _, _, _]), .inr (6, [_, _, _, _]), z_ia 12 _, .inr (11, [_]), z_ia 7 _], z_no)) dX2_init_10 fX2_15 tX2_3 rfl (z_dc rfl rfl (z_w 252 ((lwg_1 207).trans (by decide +kernel)) (by decide +kernel))) rfl (Or.inl ⟨_, rfl⟩) rfl ?_
  refine j_vret dX2_init_13 rfl ?_ (Nat.le_of_ble_eq_true rfl) (Nat.le_of_ble_eq_true rfl)
  exact ⟨rfl, rfl, rfl, _, rfl⟩
set_option maxRecDepth 100000 in
set_option maxHeartbeats 8000000 in
theorem c_X5_init (hl : l.stackTraces = false) (f g c : Nat → Int32) (m so : Int32) : z_CF G l mX5_init 13 0 0 [.inr (10, [.null, .int 0, .int 0, .null, .int 0]), .inr (9, [.int so, .ref 2, .ref 3, .ref 4, .int m]), z_ia 20 f, z_ia 20 g, .inr (11, [.ref 5]), z_ia 7 c] [.ref 0, .ref 1] (fun v L => v = none ∧ ∃ c' : Nat → Int32, L = [.inr (10, [.ref 4, .int 0, .int 0, .ref 1, .int 0]), .inr (9, [.int so, .ref 2, .ref 3, .ref 4, .int m]), z_ia 20 f, z_ia 20 g, .inr (11, [.ref 5]), z_ia 7 c']) := by
  refine z_body hl (by decide) rfl (Nat.le_of_ble_eq_true rfl) ?_
  show z_J G l mX5_init (z_SF 13 0 0 [.inr (10, [.null, .int 0, .int 0, .null, .int 0]), .inr (9, [.int so, .ref 2, .ref 3, .ref 4, .int m]), z_ia 20 f, z_ia 20 g, .inr (11, [.ref 5]), z_ia 7 c] (fun v L => v = none ∧ ∃ c' : Nat → Int32, L = [.inr (10, [.ref 4, .int 0, .int 0, .ref 1, .int 0]), .inr (9, [.int so, .ref 2, .ref 3, .ref 4, .int m]), z_ia 20 f, z_ia 20 g, .inr (11, [.ref 5]), z_ia 7 c'])) 0 [(0, _), (1, _)] [] _ 0 0
  refine j_aload_n dX5_init_0 rfl rfl ?_
  refine j_aload_n dX5_init_1 rfl rfl ?_
  refine j_getf dX5_init_2 fX5_3 rfl rfl ?_
  refine j_callI dX5_init_5 kX7_init rfl lX5_9 inX7_init rfl (z_frame [0, 4, 5] rfl (by decide) (Nat.le_of_ble_eq_true rfl) (c_X7_init_X5 hl _ _ _ _)) (Nat.le_of_ble_eq_true rfl) ⟨(Nat.le_of_ble_eq_true rfl), (Nat.le_of_ble_eq_true rfl)⟩ rfl (Nat.le_of_ble_eq_true rfl) rfl rfl (fun _ _ h => h.elim) ?_
  rintro _ _ ⟨_, _, ⟨rfl, _, rfl⟩, rfl, rfl⟩
  refine j_w ([.inr (10, [_, _, _, _, _]), .inr (9, [_, _, _, _, _]), z_ia 20 _, z_ia 20 _, .inr (11, [_]), z_ia 7 _], z_no) rfl ?_
  refine j_aload_n dX5_init_8 rfl rfl ?_
  refine j_aload_n dX5_init_9 rfl rfl ?_
  refine j_putF (w' := ([.inr (10, [_, _, _, _, _]), .inr (9, [_, _, _, _, _]), z_ia 20 _, z_ia 20 _, .inr (11, [_]), z_ia 7 _], z_no)) dX5_init_10 fX5_15 tX5_3 rfl (z_dc rfl rfl (z_w 1112 ((lwg_5 107).trans (by decide +kernel)) (by decide +kernel))) rfl (Or.inl ⟨_, rfl⟩) rfl ?_
  refine j_vret dX5_init_13 rfl ?_ (Nat.le_of_ble_eq_true rfl) (Nat.le_of_ble_eq_true rfl)
  exact ⟨rfl, rfl, rfl, _, rfl⟩
set_option maxRecDepth 100000 in
set_option maxHeartbeats 8000000 in
theorem c_X3_init (hl : l.stackTraces = false) (a b e : Int32) : z_CN G l mX3_init 13 2 8 2 [.inr (8, [.null, .int 0, .int 0, .int 0, .int 0, .int 0])] [.ref 0, .int a, .int b, .int e] (fun v L => v = none ∧ ∃ c : Nat → Int32, L = [.inr (8, [.ref 1, .int 0, .int 0, .int b, .int e, .int a]), .inr (11, [.ref 2]), z_ia 7 c]) := by
  refine z_body hl (by decide) rfl (Nat.le_of_ble_eq_true rfl) ?_
  show z_J G l mX3_init (z_SN 13 2 8 2 [.inr (8, [.null, .int 0, .int 0, .int 0, .int 0, .int 0])] (fun v L => v = none ∧ ∃ c : Nat → Int32, L = [.inr (8, [.ref 1, .int 0, .int 0, .int b, .int e, .int a]), .inr (11, [.ref 2]), z_ia 7 c])) 0 [(0, _), (1, _), (2, _), (3, _)] [] _ 0 0
  refine j_aload_n dX3_init_0 rfl rfl ?_
  refine j_new (w' := ([.inr (8, [_, _, _, _, _, _]), _], z_no)) (n := 1) dX3_init_1 nX3_1 rfl (z_al_l rfl rfl) (Nat.le_of_ble_eq_true rfl) (Nat.le_of_ble_eq_true rfl) ?_
  refine j_dup dX3_init_4 rfl ?_
  refine j_callIN dX3_init_5 kX6_init rfl lX3_3 inX6_init rfl (z_frameN [1] rfl (by decide) (Nat.le_of_ble_eq_true rfl) (Nat.le_of_ble_eq_true rfl) (c_X6_init hl)) (Nat.le_of_ble_eq_true rfl) ⟨(Nat.le_of_ble_eq_true rfl), (Nat.le_of_ble_eq_true rfl)⟩ rfl (Nat.le_of_ble_eq_true rfl) rfl rfl (fun _ _ h => h.elim) ?_
  rintro _ _ ⟨_, _, ⟨rfl, _, rfl⟩, rfl, rfl⟩
  refine j_w ([.inr (8, [_, _, _, _, _, _]), _, _], z_no) rfl ?_
  refine j_callI dX3_init_8 kX7_init rfl lX3_7 inX7_init rfl (z_frame [0, 1, 2] rfl (by decide) (Nat.le_of_ble_eq_true rfl) (c_X7_init_X3 hl _ _ _ _ _ _)) (Nat.le_of_ble_eq_true rfl) ⟨(Nat.le_of_ble_eq_true rfl), (Nat.le_of_ble_eq_true rfl)⟩ rfl (Nat.le_of_ble_eq_true rfl) rfl rfl (fun _ _ h => h.elim) ?_
  rintro _ _ ⟨_, _, ⟨rfl, _, rfl⟩, rfl, rfl⟩
  refine j_w ([.inr (8, [_, _, _, _, _, _]), .inr (11, [_]), z_ia 7 _], z_no) rfl ?_
  refine j_aload_n dX3_init_11 rfl rfl ?_
  refine j_iload_n dX3_init_12 rfl ?_
  refine j_put (w' := ([.inr (8, [_, _, _, _, _, _]), .inr (11, [_]), z_ia 7 _], z_no)) dX3_init_13 fX3_12 tX3_5 rfl ⟨rfl, rfl⟩ rfl ?_
  refine j_aload_n dX3_init_16 rfl rfl ?_
  refine j_iload_n dX3_init_17 rfl ?_
  refine j_putF (w' := ([.inr (8, [_, _, _, _, _, _]), .inr (11, [_]), z_ia 7 _], z_no)) dX3_init_18 fX3_18 tX3_3 rfl (z_dc rfl rfl (z_w 1161 ((lwg_5 156).trans (by decide +kernel)) (by decide +kernel))) rfl ⟨rfl, rfl⟩ rfl ?_
  refine j_aload_n dX3_init_21 rfl rfl ?_
  refine j_iload_n dX3_init_22 rfl ?_
  refine j_putF (w' := ([.inr (8, [_, _, _, _, _, _]), .inr (11, [_]), z_ia 7 _], z_no)) dX3_init_23 fX3_21 tX3_4 rfl (z_dc rfl rfl (z_w 1162 ((lwg_5 157).trans (by decide +kernel)) (by decide +kernel))) rfl ⟨rfl, rfl⟩ rfl ?_
  refine j_vret dX3_init_26 rfl ?_ (Nat.le_of_ble_eq_true rfl) (Nat.le_of_ble_eq_true rfl)
  exact ⟨rfl, (Nat.le_of_ble_eq_true rfl), rfl, _, rfl⟩
set_option maxRecDepth 100000 in
set_option maxHeartbeats 8000000 in
theorem c_X8_hearOut_X2 (hl : l.stackTraces = false) (k u p m fx : Int32) (f c : Nat → Int32) (ek em es el ba : Int32) (ef : Nat → Int32) : z_CF G l mX8_hearOut 15 0 0 [.inr (7, [.ref 3, .int k, .int u, .ref 1, .int p]), .inr (6, [.ref 2, .ref 3, .int m, .int fx]), z_ia 12 f, .inr (11, [.ref 4]), z_ia 7 c, .inr (5, [.ref 6, .int ek, .int em, .int es, .int el, .int ba]), z_ia 10 ef] [.ref 0, .ref 5] (fun v L => ∃ x : Int32, v = some (.int x) ∧ ∃ (k' u' p' : Int32) (c' : Nat → Int32) (ek' em' es' el' : Int32) (ef' : Nat → Int32), L = [.inr (7, [.ref 3, .int k', .int u', .ref 1, .int p']), .inr (6, [.ref 2, .ref 3, .int m, .int fx]), z_ia 12 f, .inr (11, [.ref 4]), z_ia 7 c', .inr (5, [.ref 6, .int ek', .int em', .int es', .int el', .int ba]), z_ia 10 ef']) := by
  refine z_body hl (by decide) rfl (Nat.le_of_ble_eq_true rfl) ?_
  show z_J G l mX8_hearOut (z_SF 15 0 0 [.inr (7, [.ref 3, .int k, .int u, .ref 1, .int p]), .inr (6, [.ref 2, .ref 3, .int m, .int fx]), z_ia 12 f, .inr (11, [.ref 4]), z_ia 7 c, .inr (5, [.ref 6, .int ek, .int em, .int es, .int el, .int ba]), z_ia 10 ef] (fun v L => ∃ x : Int32, v = some (.int x) ∧ ∃ (k' u' p' : Int32) (c' : Nat → Int32) (ek' em' es' el' : Int32) (ef' : Nat → Int32), L = [.inr (7, [.ref 3, .int k', .int u', .ref 1, .int p']), .inr (6, [.ref 2, .ref 3, .int m, .int fx]), z_ia 12 f, .inr (11, [.ref 4]), z_ia 7 c', .inr (5, [.ref 6, .int ek', .int em', .int es', .int el', .int ba]), z_ia 10 ef'])) 0 [(0, _), (1, _)] [] _ 0 0
  refine j_iconst (v := 0) dX8_hearOut_0 (by decide) ?_
  refine j_istore_n (lo' := [(2, _), (0, _), (1, _)]) dX8_hearOut_1 (by decide) rfl ?_
  refine j_iconst (v := 0) dX8_hearOut_2 (by decide) ?_
  refine j_istore_n (lo' := [(3, _), (2, _), (0, _), (1, _)]) dX8_hearOut_3 (by decide) rfl ?_
  have loop : ∀ (n j : Nat) (q : Int32) (k' u' p' : Int32) (c' : Nat → Int32) (ek' em' es' el' : Int32) (ef' : Nat → Int32), j ≤ 1000 → 1000 < j + n → z_J G l mX8_hearOut (z_SF 15 0 0 [.inr (7, [.ref 3, .int k, .int u, .ref 1, .int p]), .inr (6, [.ref 2, .ref 3, .int m, .int fx]), z_ia 12 f, .inr (11, [.ref 4]), z_ia 7 c, .inr (5, [.ref 6, .int ek, .int em, .int es, .int el, .int ba]), z_ia 10 ef] (fun v L => ∃ x : Int32, v = some (.int x) ∧ ∃ (k' u' p' : Int32) (c' : Nat → Int32) (ek' em' es' el' : Int32) (ef' : Nat → Int32), L = [.inr (7, [.ref 3, .int k', .int u', .ref 1, .int p']), .inr (6, [.ref 2, .ref 3, .int m, .int fx]), z_ia 12 f, .inr (11, [.ref 4]), z_ia 7 c', .inr (5, [.ref 6, .int ek', .int em', .int es', .int el', .int ba]), z_ia 10 ef'])) 4 [(0, .ref 0), (1, .ref 5), (2, .int q), (3, .int (nI j))] [] ([.inr (7, [.ref 3, .int k', .int u', .ref 1, .int p']), .inr (6, [.ref 2, .ref 3, .int m, .int fx]), z_ia 12 f, .inr (11, [.ref 4]), z_ia 7 c', .inr (5, [.ref 6, .int ek', .int em', .int es', .int el', .int ba]), z_ia 10 ef'], z_no) 0 0 := by
    intro n
    induction n with
    | zero => intro j q k' u' p' c' ek' em' es' el' ef' h1 h2 ; exact absurd h2 (by omega)
    | succ n ih =>
      intro j q k' u' p' c' ek' em' es' el' ef' h1 h2
      refine j_iload_n dX8_hearOut_4 rfl ?_
      refine j_sipush (v := 1000) dX8_hearOut_5 (by decide) ?_
      refine j_icmp_ge (tgt := 42) dX8_hearOut_8 (by decide) (fun c_8 => ?_) (fun c_8 => ?_)
      · refine j_iload_n dX8_hearOut_42 rfl ?_
        refine j_iret dX8_hearOut_43 rfl rfl ?_ (Nat.le_of_ble_eq_true rfl) (Nat.le_of_ble_eq_true rfl)
        exact ⟨rfl, rfl, _, rfl, _, _, _, _, _, _, _, _, _, rfl⟩
      · have hj : j < 1000 := z_ltZ 1000 rfl c_8 (by omega) (by decide)
        refine j_aload_n dX8_hearOut_11 rfl rfl ?_
        refine j_callU (q := (RX2, TX2, 5)) dX8_hearOut_12 kX7_ask cuX8_320_X2 rfl rfl (z_frame [0, 1, 2, 3, 4] rfl (by decide) (Nat.le_of_ble_eq_true rfl) (c_X7_ask_X2 hl _ _ _ _ _ _ _)) (Nat.le_of_ble_eq_true rfl) ⟨(Nat.le_of_ble_eq_true rfl), (Nat.le_of_ble_eq_true rfl)⟩ rfl (Nat.le_of_ble_eq_true rfl) rfl rfl (fun _ _ h => h.elim) ?_
        rintro _ _ ⟨_, _, ⟨⟨b, rfl⟩, _, rfl⟩, rfl, rfl⟩
        refine j_w ([.inr (7, [_, _, _, _, _]), .inr (6, [_, _, _, _]), z_ia 12 _, .inr (11, [_]), z_ia 7 _, .inr (5, [_, _, _, _, _, _]), z_ia 10 _], z_no) rfl ?_
        refine j_if_eq (tgt := 42) dX8_hearOut_15 (by decide) (fun c_15 => ?_) (fun c_15 => ?_)
        · refine j_iload_n dX8_hearOut_42 rfl ?_
          refine j_iret dX8_hearOut_43 rfl rfl ?_ (Nat.le_of_ble_eq_true rfl) (Nat.le_of_ble_eq_true rfl)
          exact ⟨rfl, rfl, _, rfl, _, _, _, _, _, _, _, _, _, rfl⟩
        · refine j_aload_n dX8_hearOut_18 rfl rfl ?_
          refine j_aload_n dX8_hearOut_19 rfl rfl ?_
          refine j_callU (q := (RX2, TX2, 5)) dX8_hearOut_20 kX7_give cuX8_315_X2 rfl rfl (z_frame [0, 1, 2, 3, 4] rfl (by decide) (Nat.le_of_ble_eq_true rfl) (c_X7_give_X2 hl _ _ _ _ _ _ _)) (Nat.le_of_ble_eq_true rfl) ⟨(Nat.le_of_ble_eq_true rfl), (Nat.le_of_ble_eq_true rfl)⟩ rfl (Nat.le_of_ble_eq_true rfl) rfl rfl (fun _ _ h => h.elim) ?_
          rintro _ _ ⟨_, _, ⟨_, rfl, _, _, _, _, rfl⟩, rfl, rfl⟩
          refine j_w ([.inr (7, [_, _, _, _, _]), .inr (6, [_, _, _, _]), z_ia 12 _, .inr (11, [_]), z_ia 7 _, .inr (5, [_, _, _, _, _, _]), z_ia 10 _], z_no) rfl ?_
          refine j_callV (q := (RX0, TX0, 6)) dX8_hearOut_23 kX0_takesIn lX8_323 inX0_takesIn seX0_takesIn rfl rfl (z_frame [5, 6] rfl (by decide) (Nat.le_of_ble_eq_true rfl) (c_X0_takesIn hl _ _ _ _ _ _ _)) (Nat.le_of_ble_eq_true rfl) ⟨(Nat.le_of_ble_eq_true rfl), (Nat.le_of_ble_eq_true rfl)⟩ rfl (Nat.le_of_ble_eq_true rfl) rfl rfl (fun _ _ h => h.elim) ?_
          rintro _ _ ⟨_, _, ⟨b, rfl, _, _, _, _, _, rfl⟩, rfl, rfl⟩
          refine j_w ([.inr (7, [_, _, _, _, _]), .inr (6, [_, _, _, _]), z_ia 12 _, .inr (11, [_]), z_ia 7 _, .inr (5, [_, _, _, _, _, _]), z_ia 10 _], z_no) rfl ?_
          refine j_if_ne (tgt := 33) dX8_hearOut_26 (by decide) (fun c_26 => ?_) (fun c_26 => ?_)
          · refine j_iinc (lo' := [(2, _), (0, _), (1, _), (3, _)]) dX8_hearOut_33 rfl rfl (by decide) rfl ?_
            refine j_iinc (lo' := [(3, _), (2, _), (0, _), (1, _)]) dX8_hearOut_36 rfl (z_inc _) (by decide) rfl ?_
            refine j_goto (tgt := 4) dX8_hearOut_39 (by decide) ?_
            exact j_lo2 (ih (j + 1) _ _ _ _ _ _ _ _ _ _ (by omega) (by omega)) (z_q1 rfl (z_q1 rfl (z_q1 rfl (z_q1 rfl z_q0))))
          · refine j_sipush (v := (-1001)) dX8_hearOut_29 (by decide) ?_
            refine j_iret dX8_hearOut_32 rfl rfl ?_ (Nat.le_of_ble_eq_true rfl) (Nat.le_of_ble_eq_true rfl)
            exact ⟨rfl, rfl, _, rfl, _, _, _, _, _, _, _, _, _, rfl⟩
  exact j_lo2 (loop (1000 + 1) 0 _ _ _ _ _ _ _ _ _ _ (by omega) (by omega)) (z_q1 rfl (z_q1 rfl (z_q1 rfl (z_q1 rfl z_q0))))
set_option maxRecDepth 100000 in
set_option maxHeartbeats 8000000 in
theorem c_X8_passBy_X2 (hl : l.stackTraces = false) (k u p m fx : Int32) (f c : Nat → Int32) (t : Int32) : z_CF G l mX8_passBy 15 0 0 [.inr (7, [.ref 3, .int k, .int u, .ref 1, .int p]), .inr (6, [.ref 2, .ref 3, .int m, .int fx]), z_ia 12 f, .inr (11, [.ref 4]), z_ia 7 c] [.ref 0, .int t] (fun v L => v = none ∧ ∃ (k' u' p' : Int32) (c' : Nat → Int32), L = [.inr (7, [.ref 3, .int k', .int u', .ref 1, .int p']), .inr (6, [.ref 2, .ref 3, .int m, .int fx]), z_ia 12 f, .inr (11, [.ref 4]), z_ia 7 c']) := by
  refine z_body hl (by decide) rfl (Nat.le_of_ble_eq_true rfl) ?_
  show z_J G l mX8_passBy (z_SF 15 0 0 [.inr (7, [.ref 3, .int k, .int u, .ref 1, .int p]), .inr (6, [.ref 2, .ref 3, .int m, .int fx]), z_ia 12 f, .inr (11, [.ref 4]), z_ia 7 c] (fun v L => v = none ∧ ∃ (k' u' p' : Int32) (c' : Nat → Int32), L = [.inr (7, [.ref 3, .int k', .int u', .ref 1, .int p']), .inr (6, [.ref 2, .ref 3, .int m, .int fx]), z_ia 12 f, .inr (11, [.ref 4]), z_ia 7 c'])) 0 [(0, _), (1, _)] [] _ 0 0
  refine j_iconst (v := 0) dX8_passBy_0 (by decide) ?_
  refine j_istore_n (lo' := [(2, _), (0, _), (1, _)]) dX8_passBy_1 (by decide) rfl ?_
  have loop : ∀ (n : Nat) (q : Int32) (k' u' p' : Int32) (c' : Nat → Int32), ((t).toInt - (q).toInt).toNat < n → z_J G l mX8_passBy (z_SF 15 0 0 [.inr (7, [.ref 3, .int k, .int u, .ref 1, .int p]), .inr (6, [.ref 2, .ref 3, .int m, .int fx]), z_ia 12 f, .inr (11, [.ref 4]), z_ia 7 c] (fun v L => v = none ∧ ∃ (k' u' p' : Int32) (c' : Nat → Int32), L = [.inr (7, [.ref 3, .int k', .int u', .ref 1, .int p']), .inr (6, [.ref 2, .ref 3, .int m, .int fx]), z_ia 12 f, .inr (11, [.ref 4]), z_ia 7 c'])) 2 [(0, .ref 0), (1, .int t), (2, .int q)] [] ([.inr (7, [.ref 3, .int k', .int u', .ref 1, .int p']), .inr (6, [.ref 2, .ref 3, .int m, .int fx]), z_ia 12 f, .inr (11, [.ref 4]), z_ia 7 c'], z_no) 0 0 := by
    intro n
    induction n with
    | zero => intro q k' u' p' c' h1; exact absurd h1 (Nat.not_lt_zero _)
    | succ n ih =>
      intro q k' u' p' c' h1
      refine j_iload_n dX8_passBy_2 rfl ?_
      refine j_iload_n dX8_passBy_3 rfl ?_
      refine j_icmp_ge (tgt := 18) dX8_passBy_4 (by decide) (fun c_4 => ?_) (fun c_4 => ?_)
      · refine j_vret dX8_passBy_18 rfl ?_ (Nat.le_of_ble_eq_true rfl) (Nat.le_of_ble_eq_true rfl)
        exact ⟨rfl, rfl, rfl, _, _, _, _, rfl⟩
      · refine j_aload_n dX8_passBy_7 rfl rfl ?_
        refine j_callU (q := (RX2, TX2, 5)) dX8_passBy_8 kX7_give cuX8_315_X2 rfl rfl (z_frame [0, 1, 2, 3, 4] rfl (by decide) (Nat.le_of_ble_eq_true rfl) (c_X7_give_X2 hl _ _ _ _ _ _ _)) (Nat.le_of_ble_eq_true rfl) ⟨(Nat.le_of_ble_eq_true rfl), (Nat.le_of_ble_eq_true rfl)⟩ rfl (Nat.le_of_ble_eq_true rfl) rfl rfl (fun _ _ h => h.elim) ?_
        rintro _ _ ⟨_, _, ⟨_, rfl, _, _, _, _, rfl⟩, rfl, rfl⟩
        refine j_w ([.inr (7, [_, _, _, _, _]), .inr (6, [_, _, _, _]), z_ia 12 _, .inr (11, [_]), z_ia 7 _], z_no) rfl ?_
        refine j_pop dX8_passBy_11 rfl ?_
        refine j_iinc (lo' := [(2, _), (0, _), (1, _)]) dX8_passBy_12 rfl rfl (by decide) rfl ?_
        refine j_goto (tgt := 2) dX8_passBy_15 (by decide) ?_
        exact j_lo2 (ih _ _ _ _ _ (z_ms c_4 h1)) (z_q1 rfl (z_q1 rfl (z_q1 rfl z_q0)))
  exact j_lo2 (loop _ _ _ _ _ _ (Nat.lt_succ_self _)) (z_q1 rfl (z_q1 rfl (z_q1 rfl z_q0)))
set_option maxRecDepth 100000 in
set_option maxHeartbeats 8000000 in
theorem c_X8_changeEach_X2 (hl : l.stackTraces = false) (k u p m fx : Int32) (f c : Nat → Int32) (r t : Int32) : z_CF G l mX8_changeEach 15 0 0 [.inr (7, [.ref 3, .int k, .int u, .ref 1, .int p]), .inr (6, [.ref 2, .ref 3, .int m, .int fx]), z_ia 12 f, .inr (11, [.ref 4]), z_ia 7 c] [.ref 0, .int r, .int t] (fun v L => (∃ b : Bool, v = some (.int (z_bi b))) ∧ ∃ (k' u' p' : Int32) (c' : Nat → Int32) (f' : Nat → Int32), L = [.inr (7, [.ref 3, .int k', .int u', .ref 1, .int p']), .inr (6, [.ref 2, .ref 3, .int m, .int fx]), z_ia 12 f', .inr (11, [.ref 4]), z_ia 7 c']) := by
  refine z_body hl (by decide) rfl (Nat.le_of_ble_eq_true rfl) ?_
  show z_J G l mX8_changeEach (z_SF 15 0 0 [.inr (7, [.ref 3, .int k, .int u, .ref 1, .int p]), .inr (6, [.ref 2, .ref 3, .int m, .int fx]), z_ia 12 f, .inr (11, [.ref 4]), z_ia 7 c] (fun v L => (∃ b : Bool, v = some (.int (z_bi b))) ∧ ∃ (k' u' p' : Int32) (c' : Nat → Int32) (f' : Nat → Int32), L = [.inr (7, [.ref 3, .int k', .int u', .ref 1, .int p']), .inr (6, [.ref 2, .ref 3, .int m, .int fx]), z_ia 12 f', .inr (11, [.ref 4]), z_ia 7 c'])) 0 [(0, _), (1, _), (2, _)] [] _ 0 0
  refine j_iconst (v := 0) dX8_changeEach_0 (by decide) ?_
  refine j_istore_n (lo' := [(3, _), (0, _), (1, _), (2, _)]) dX8_changeEach_1 (by decide) rfl ?_
  have loop : ∀ (n j : Nat) (k' u' p' : Int32) (c' : Nat → Int32) (f' : Nat → Int32), j ≤ 1000 → 1000 < j + n → z_J G l mX8_changeEach (z_SF 15 0 0 [.inr (7, [.ref 3, .int k, .int u, .ref 1, .int p]), .inr (6, [.ref 2, .ref 3, .int m, .int fx]), z_ia 12 f, .inr (11, [.ref 4]), z_ia 7 c] (fun v L => (∃ b : Bool, v = some (.int (z_bi b))) ∧ ∃ (k' u' p' : Int32) (c' : Nat → Int32) (f' : Nat → Int32), L = [.inr (7, [.ref 3, .int k', .int u', .ref 1, .int p']), .inr (6, [.ref 2, .ref 3, .int m, .int fx]), z_ia 12 f', .inr (11, [.ref 4]), z_ia 7 c'])) 2 [(0, .ref 0), (1, .int r), (2, .int t), (3, .int (nI j))] [] ([.inr (7, [.ref 3, .int k', .int u', .ref 1, .int p']), .inr (6, [.ref 2, .ref 3, .int m, .int fx]), z_ia 12 f', .inr (11, [.ref 4]), z_ia 7 c'], z_no) 0 0 := by
    intro n
    induction n with
    | zero => intro j k' u' p' c' f' h1 h2 ; exact absurd h2 (by omega)
    | succ n ih =>
      intro j k' u' p' c' f' h1 h2
      refine j_iload_n dX8_changeEach_2 rfl ?_
      refine j_sipush (v := 1000) dX8_changeEach_3 (by decide) ?_
      refine j_icmp_ge (tgt := 61) dX8_changeEach_6 (by decide) (fun c_6 => ?_) (fun c_6 => ?_)
      · refine j_iconst (v := 1) dX8_changeEach_61 (by decide) ?_
        refine j_iret dX8_changeEach_62 rfl rfl ?_ (Nat.le_of_ble_eq_true rfl) (Nat.le_of_ble_eq_true rfl)
        exact ⟨rfl, rfl, ⟨true, rfl⟩, _, _, _, _, _, rfl⟩
      · have hj : j < 1000 := z_ltZ 1000 rfl c_6 (by omega) (by decide)
        refine j_aload_n dX8_changeEach_9 rfl rfl ?_
        refine j_callU (q := (RX2, TX2, 5)) dX8_changeEach_10 kX7_ask cuX8_320_X2 rfl rfl (z_frame [0, 1, 2, 3, 4] rfl (by decide) (Nat.le_of_ble_eq_true rfl) (c_X7_ask_X2 hl _ _ _ _ _ _ _)) (Nat.le_of_ble_eq_true rfl) ⟨(Nat.le_of_ble_eq_true rfl), (Nat.le_of_ble_eq_true rfl)⟩ rfl (Nat.le_of_ble_eq_true rfl) rfl rfl (fun _ _ h => h.elim) ?_
        rintro _ _ ⟨_, _, ⟨⟨b, rfl⟩, _, rfl⟩, rfl, rfl⟩
        refine j_w ([.inr (7, [_, _, _, _, _]), .inr (6, [_, _, _, _]), z_ia 12 _, .inr (11, [_]), z_ia 7 _], z_no) rfl ?_
        refine j_if_eq (tgt := 61) dX8_changeEach_13 (by decide) (fun c_13 => ?_) (fun c_13 => ?_)
        · refine j_iconst (v := 1) dX8_changeEach_61 (by decide) ?_
          refine j_iret dX8_changeEach_62 rfl rfl ?_ (Nat.le_of_ble_eq_true rfl) (Nat.le_of_ble_eq_true rfl)
          exact ⟨rfl, rfl, ⟨true, rfl⟩, _, _, _, _, _, rfl⟩
        · refine j_aload_n dX8_changeEach_16 rfl rfl ?_
          refine j_callU (q := (RX2, TX2, 5)) dX8_changeEach_17 kX7_give cuX8_315_X2 rfl rfl (z_frame [0, 1, 2, 3, 4] rfl (by decide) (Nat.le_of_ble_eq_true rfl) (c_X7_give_X2 hl _ _ _ _ _ _ _)) (Nat.le_of_ble_eq_true rfl) ⟨(Nat.le_of_ble_eq_true rfl), (Nat.le_of_ble_eq_true rfl)⟩ rfl (Nat.le_of_ble_eq_true rfl) rfl rfl (fun _ _ h => h.elim) ?_
          rintro _ _ ⟨_, _, ⟨_, rfl, _, _, _, _, rfl⟩, rfl, rfl⟩
          refine j_w ([.inr (7, [_, _, _, _, _]), .inr (6, [_, _, _, _]), z_ia 12 _, .inr (11, [_]), z_ia 7 _], z_no) rfl ?_
          refine j_pop dX8_changeEach_20 rfl ?_
          refine j_iload_n dX8_changeEach_21 rfl ?_
          refine j_aload_n dX8_changeEach_22 rfl rfl ?_
          refine j_getf dX8_changeEach_23 fX8_326_X2 rfl rfl ?_
          refine j_aload_n dX8_changeEach_26 rfl rfl ?_
          refine j_getf dX8_changeEach_27 fX8_329_X2 rfl rfl ?_
          refine j_iload_n dX8_changeEach_30 rfl ?_
          refine j_callS dX8_changeEach_31 kX8_ruleTells lX8_237 stX8_ruleTells (c_X8_ruleTells hl _ _ _ _ _) (Nat.le_of_ble_eq_true rfl) ⟨(Nat.le_of_ble_eq_true rfl), (Nat.le_of_ble_eq_true rfl)⟩ rfl (Nat.le_of_ble_eq_true rfl) rfl rfl (fun _ _ h => h.elim) ?_
          rintro _ _ ⟨⟨_, rfl⟩, rfl⟩
          refine j_istore (lo' := [(4, _), (0, _), (1, _), (2, _), (3, _)]) dX8_changeEach_34 (by decide) rfl ?_
          refine j_iload dX8_changeEach_36 rfl ?_
          refine j_sipush (v := (-1001)) dX8_changeEach_38 (by decide) ?_
          refine j_icmp_eq (tgt := 53) dX8_changeEach_41 (by decide) (fun c_41 => ?_) (fun c_41 => ?_)
          · refine j_iconst (v := 0) dX8_changeEach_53 (by decide) ?_
            refine j_iret dX8_changeEach_54 rfl rfl ?_ (Nat.le_of_ble_eq_true rfl) (Nat.le_of_ble_eq_true rfl)
            exact ⟨rfl, rfl, ⟨false, rfl⟩, _, _, _, _, _, rfl⟩
          · refine j_aload_n dX8_changeEach_44 rfl rfl ?_
            refine j_iload dX8_changeEach_45 rfl ?_
            refine j_callU (q := (RX2, TX2, 5)) dX8_changeEach_47 kX2_putInPlace cuX8_332_X2 rfl rfl (z_frame [0, 1, 2, 3, 4] rfl (by decide) (Nat.le_of_ble_eq_true rfl) (c_X2_putInPlace hl _ _ _ _ _ _ _ _)) (Nat.le_of_ble_eq_true rfl) ⟨(Nat.le_of_ble_eq_true rfl), (Nat.le_of_ble_eq_true rfl)⟩ rfl (Nat.le_of_ble_eq_true rfl) rfl rfl (fun _ _ h => h.elim) ?_
            rintro _ _ ⟨_, _, ⟨⟨b, rfl⟩, _, _, rfl⟩, rfl, rfl⟩
            refine j_w ([.inr (7, [_, _, _, _, _]), .inr (6, [_, _, _, _]), z_ia 12 _, .inr (11, [_]), z_ia 7 _], z_no) rfl ?_
            refine j_if_ne (tgt := 55) dX8_changeEach_50 (by decide) (fun c_50 => ?_) (fun c_50 => ?_)
            · refine j_iinc (lo' := [(3, _), (4, _), (0, _), (1, _), (2, _)]) dX8_changeEach_55 rfl (z_inc _) (by decide) rfl ?_
              refine j_goto (tgt := 2) dX8_changeEach_58 (by decide) ?_
              exact j_lo2 (ih (j + 1) _ _ _ _ _ (by omega) (by omega)) (z_q1 rfl (z_q1 rfl (z_q1 rfl (z_q1 rfl z_q0))))
            · refine j_iconst (v := 0) dX8_changeEach_53 (by decide) ?_
              refine j_iret dX8_changeEach_54 rfl rfl ?_ (Nat.le_of_ble_eq_true rfl) (Nat.le_of_ble_eq_true rfl)
              exact ⟨rfl, rfl, ⟨false, rfl⟩, _, _, _, _, _, rfl⟩
  exact j_lo2 (loop (1000 + 1) 0 _ _ _ _ _ (by omega) (by omega)) (z_q1 rfl (z_q1 rfl (z_q1 rfl (z_q1 rfl z_q0))))
set_option maxRecDepth 100000 in
set_option maxHeartbeats 8000000 in
theorem c_X8_takeEach (hl : l.stackTraces = false) (k u p m fx : Int32) (f c : Nat → Int32) (r t : Int32) : z_CF G l mX8_takeEach 15 0 0 [.inr (7, [.ref 3, .int k, .int u, .ref 1, .int p]), .inr (6, [.ref 2, .ref 3, .int m, .int fx]), z_ia 12 f, .inr (11, [.ref 4]), z_ia 7 c] [.ref 0, .int r, .int t] (fun v L => (∃ x : Int32, v = some (.int x)) ∧ ∃ (k' u' p' : Int32) (c' : Nat → Int32) (f' : Nat → Int32) (m' : Int32), L = [.inr (7, [.ref 3, .int k', .int u', .ref 1, .int p']), .inr (6, [.ref 2, .ref 3, .int m', .int fx]), z_ia 12 f', .inr (11, [.ref 4]), z_ia 7 c']) := by
  refine z_body hl (by decide) rfl (Nat.le_of_ble_eq_true rfl) ?_
  show z_J G l mX8_takeEach (z_SF 15 0 0 [.inr (7, [.ref 3, .int k, .int u, .ref 1, .int p]), .inr (6, [.ref 2, .ref 3, .int m, .int fx]), z_ia 12 f, .inr (11, [.ref 4]), z_ia 7 c] (fun v L => (∃ x : Int32, v = some (.int x)) ∧ ∃ (k' u' p' : Int32) (c' : Nat → Int32) (f' : Nat → Int32) (m' : Int32), L = [.inr (7, [.ref 3, .int k', .int u', .ref 1, .int p']), .inr (6, [.ref 2, .ref 3, .int m', .int fx]), z_ia 12 f', .inr (11, [.ref 4]), z_ia 7 c'])) 0 [(0, _), (1, _), (2, _)] [] _ 0 0
  refine j_iconst (v := 0) dX8_takeEach_0 (by decide) ?_
  refine j_istore_n (lo' := [(3, _), (0, _), (1, _), (2, _)]) dX8_takeEach_1 (by decide) rfl ?_
  refine j_iconst (v := 0) dX8_takeEach_2 (by decide) ?_
  refine j_istore (lo' := [(4, _), (3, _), (0, _), (1, _), (2, _)]) dX8_takeEach_3 (by decide) rfl ?_
  have loop : ∀ (n j : Nat) (q : Int32) (k' u' p' : Int32) (c' : Nat → Int32) (f' : Nat → Int32) (m' : Int32), j ≤ 1000 → 1000 < j + n → z_J G l mX8_takeEach (z_SF 15 0 0 [.inr (7, [.ref 3, .int k, .int u, .ref 1, .int p]), .inr (6, [.ref 2, .ref 3, .int m, .int fx]), z_ia 12 f, .inr (11, [.ref 4]), z_ia 7 c] (fun v L => (∃ x : Int32, v = some (.int x)) ∧ ∃ (k' u' p' : Int32) (c' : Nat → Int32) (f' : Nat → Int32) (m' : Int32), L = [.inr (7, [.ref 3, .int k', .int u', .ref 1, .int p']), .inr (6, [.ref 2, .ref 3, .int m', .int fx]), z_ia 12 f', .inr (11, [.ref 4]), z_ia 7 c'])) 5 [(0, .ref 0), (1, .int r), (2, .int t), (3, .int q), (4, .int (nI j))] [] ([.inr (7, [.ref 3, .int k', .int u', .ref 1, .int p']), .inr (6, [.ref 2, .ref 3, .int m', .int fx]), z_ia 12 f', .inr (11, [.ref 4]), z_ia 7 c'], z_no) 0 0 := by
    intro n
    induction n with
    | zero => intro j q k' u' p' c' f' m' h1 h2 ; exact absurd h2 (by omega)
    | succ n ih =>
      intro j q k' u' p' c' f' m' h1 h2
      refine j_iload dX8_takeEach_5 rfl ?_
      refine j_sipush (v := 1000) dX8_takeEach_7 (by decide) ?_
      refine j_icmp_ge (tgt := 70) dX8_takeEach_10 (by decide) (fun c_10 => ?_) (fun c_10 => ?_)
      · refine j_iload_n dX8_takeEach_70 rfl ?_
        refine j_iret dX8_takeEach_71 rfl rfl ?_ (Nat.le_of_ble_eq_true rfl) (Nat.le_of_ble_eq_true rfl)
        exact ⟨rfl, rfl, ⟨_, rfl⟩, _, _, _, _, _, _, rfl⟩
      · have hj : j < 1000 := z_ltZ 1000 rfl c_10 (by omega) (by decide)
        refine j_aload_n dX8_takeEach_13 rfl rfl ?_
        refine j_callU (q := (RX2, TX2, 5)) dX8_takeEach_14 kX7_ask cuX8_335_X2 rfl rfl (z_frame [0, 1, 2, 3, 4] rfl (by decide) (Nat.le_of_ble_eq_true rfl) (c_X7_ask_X2 hl _ _ _ _ _ _ _)) (Nat.le_of_ble_eq_true rfl) ⟨(Nat.le_of_ble_eq_true rfl), (Nat.le_of_ble_eq_true rfl)⟩ rfl (Nat.le_of_ble_eq_true rfl) rfl rfl (fun _ _ h => h.elim) ?_
        rintro _ _ ⟨_, _, ⟨⟨b, rfl⟩, _, rfl⟩, rfl, rfl⟩
        refine j_w ([.inr (7, [_, _, _, _, _]), .inr (6, [_, _, _, _]), z_ia 12 _, .inr (11, [_]), z_ia 7 _], z_no) rfl ?_
        refine j_if_eq (tgt := 70) dX8_takeEach_17 (by decide) (fun c_17 => ?_) (fun c_17 => ?_)
        · refine j_iload_n dX8_takeEach_70 rfl ?_
          refine j_iret dX8_takeEach_71 rfl rfl ?_ (Nat.le_of_ble_eq_true rfl) (Nat.le_of_ble_eq_true rfl)
          exact ⟨rfl, rfl, ⟨_, rfl⟩, _, _, _, _, _, _, rfl⟩
        · refine j_iload_n dX8_takeEach_20 rfl ?_
          refine j_aload_n dX8_takeEach_21 rfl rfl ?_
          refine j_callU (q := (RX2, TX2, 5)) dX8_takeEach_22 kX7_give cuX8_336_X2 rfl rfl (z_frame [0, 1, 2, 3, 4] rfl (by decide) (Nat.le_of_ble_eq_true rfl) (c_X7_give_X2 hl _ _ _ _ _ _ _)) (Nat.le_of_ble_eq_true rfl) ⟨(Nat.le_of_ble_eq_true rfl), (Nat.le_of_ble_eq_true rfl)⟩ rfl (Nat.le_of_ble_eq_true rfl) rfl rfl (fun _ _ h => h.elim) ?_
          rintro _ _ ⟨_, _, ⟨_, rfl, _, _, _, _, rfl⟩, rfl, rfl⟩
          refine j_w ([.inr (7, [_, _, _, _, _]), .inr (6, [_, _, _, _]), z_ia 12 _, .inr (11, [_]), z_ia 7 _], z_no) rfl ?_
          refine j_iload_n dX8_takeEach_25 rfl ?_
          refine j_callS dX8_takeEach_26 kX8_testTells lX8_241 stX8_testTells (c_X8_testTells hl _ _ _ _) (Nat.le_of_ble_eq_true rfl) ⟨(Nat.le_of_ble_eq_true rfl), (Nat.le_of_ble_eq_true rfl)⟩ rfl (Nat.le_of_ble_eq_true rfl) rfl rfl (fun _ _ h => h.elim) ?_
          rintro _ _ ⟨⟨_, rfl⟩, rfl⟩
          refine j_istore (lo' := [(5, _), (0, _), (1, _), (2, _), (3, _), (4, _)]) dX8_takeEach_29 (by decide) rfl ?_
          refine j_iload dX8_takeEach_31 rfl ?_
          refine j_sipush (v := (-1001)) dX8_takeEach_33 (by decide) ?_
          refine j_icmp_eq (tgt := 52) dX8_takeEach_36 (by decide) (fun c_36 => ?_) (fun c_36 => ?_)
          · refine j_sipush (v := (-1001)) dX8_takeEach_52 (by decide) ?_
            refine j_iret dX8_takeEach_55 rfl rfl ?_ (Nat.le_of_ble_eq_true rfl) (Nat.le_of_ble_eq_true rfl)
            exact ⟨rfl, rfl, ⟨_, rfl⟩, _, _, _, _, _, _, rfl⟩
          · refine j_iload dX8_takeEach_39 rfl ?_
            refine j_iconst (v := 1) dX8_takeEach_41 (by decide) ?_
            refine j_icmp_ne (tgt := 56) dX8_takeEach_42 (by decide) (fun c_42 => ?_) (fun c_42 => ?_)
            · refine j_iload dX8_takeEach_56 rfl ?_
              refine j_iconst (v := 1) dX8_takeEach_58 (by decide) ?_
              refine j_icmp_ne (tgt := 64) dX8_takeEach_59 (by decide) (fun c_59 => ?_) (fun c_59 => ?_)
              · refine j_iinc (lo' := [(4, _), (5, _), (0, _), (1, _), (2, _), (3, _)]) dX8_takeEach_64 rfl (z_inc _) (by decide) rfl ?_
                refine j_goto (tgt := 5) dX8_takeEach_67 (by decide) ?_
                exact j_lo2 (ih (j + 1) _ _ _ _ _ _ _ (by omega) (by omega)) (z_q1 rfl (z_q1 rfl (z_q1 rfl (z_q1 rfl (z_q1 rfl z_q0)))))
              · refine j_iconst (v := 1) dX8_takeEach_62 (by decide) ?_
                refine j_istore_n (lo' := [(3, _), (5, _), (0, _), (1, _), (2, _), (4, _)]) dX8_takeEach_63 (by decide) rfl ?_
                refine j_iinc (lo' := [(4, _), (3, _), (5, _), (0, _), (1, _), (2, _)]) dX8_takeEach_64 rfl (z_inc _) (by decide) rfl ?_
                refine j_goto (tgt := 5) dX8_takeEach_67 (by decide) ?_
                exact j_lo2 (ih (j + 1) _ _ _ _ _ _ _ (by omega) (by omega)) (z_q1 rfl (z_q1 rfl (z_q1 rfl (z_q1 rfl (z_q1 rfl z_q0)))))
            · refine j_aload_n dX8_takeEach_45 rfl rfl ?_
              refine j_callV (q := (RX2, TX2, 5)) dX8_takeEach_46 kX2_takeAway lX8_337 inX2_takeAway seX2_takeAway rfl rfl (z_frame [0, 1, 2, 3, 4] rfl (by decide) (Nat.le_of_ble_eq_true rfl) (c_X2_takeAway hl _ _ _ _ _ _ _)) (Nat.le_of_ble_eq_true rfl) ⟨(Nat.le_of_ble_eq_true rfl), (Nat.le_of_ble_eq_true rfl)⟩ rfl (Nat.le_of_ble_eq_true rfl) rfl rfl (fun _ _ h => h.elim) ?_
              rintro _ _ ⟨_, _, ⟨⟨b, rfl⟩, _, _, _, _, rfl⟩, rfl, rfl⟩
              refine j_w ([.inr (7, [_, _, _, _, _]), .inr (6, [_, _, _, _]), z_ia 12 _, .inr (11, [_]), z_ia 7 _], z_no) rfl ?_
              refine j_if_ne (tgt := 56) dX8_takeEach_49 (by decide) (fun c_49 => ?_) (fun c_49 => ?_)
              · refine j_iload dX8_takeEach_56 rfl ?_
                refine j_iconst (v := 1) dX8_takeEach_58 (by decide) ?_
                refine j_icmp_ne (tgt := 64) dX8_takeEach_59 (by decide) (fun c_59 => ?_) (fun c_59 => ?_)
                · refine j_iinc (lo' := [(4, _), (5, _), (0, _), (1, _), (2, _), (3, _)]) dX8_takeEach_64 rfl (z_inc _) (by decide) rfl ?_
                  refine j_goto (tgt := 5) dX8_takeEach_67 (by decide) ?_
                  exact j_lo2 (ih (j + 1) _ _ _ _ _ _ _ (by omega) (by omega)) (z_q1 rfl (z_q1 rfl (z_q1 rfl (z_q1 rfl (z_q1 rfl z_q0)))))
                · refine j_iconst (v := 1) dX8_takeEach_62 (by decide) ?_
                  refine j_istore_n (lo' := [(3, _), (5, _), (0, _), (1, _), (2, _), (4, _)]) dX8_takeEach_63 (by decide) rfl ?_
                  refine j_iinc (lo' := [(4, _), (3, _), (5, _), (0, _), (1, _), (2, _)]) dX8_takeEach_64 rfl (z_inc _) (by decide) rfl ?_
                  refine j_goto (tgt := 5) dX8_takeEach_67 (by decide) ?_
                  exact j_lo2 (ih (j + 1) _ _ _ _ _ _ _ (by omega) (by omega)) (z_q1 rfl (z_q1 rfl (z_q1 rfl (z_q1 rfl (z_q1 rfl z_q0)))))
              · refine j_sipush (v := (-1001)) dX8_takeEach_52 (by decide) ?_
                refine j_iret dX8_takeEach_55 rfl rfl ?_ (Nat.le_of_ble_eq_true rfl) (Nat.le_of_ble_eq_true rfl)
                exact ⟨rfl, rfl, ⟨_, rfl⟩, _, _, _, _, _, _, rfl⟩
  exact j_lo2 (loop (1000 + 1) 0 _ _ _ _ _ _ _ (by omega) (by omega)) (z_q1 rfl (z_q1 rfl (z_q1 rfl (z_q1 rfl (z_q1 rfl z_q0)))))
set_option maxRecDepth 100000 in
set_option maxHeartbeats 8000000 in
theorem c_X8_hearOut_X5 (hl : l.stackTraces = false) (k u p : Int32) (f g c : Nat → Int32) (m so : Int32) (ek em es el ba : Int32) (ef : Nat → Int32) : z_CF G l mX8_hearOut 15 0 0 [.inr (10, [.ref 4, .int k, .int u, .ref 1, .int p]), .inr (9, [.int so, .ref 2, .ref 3, .ref 4, .int m]), z_ia 20 f, z_ia 20 g, .inr (11, [.ref 5]), z_ia 7 c, .inr (5, [.ref 7, .int ek, .int em, .int es, .int el, .int ba]), z_ia 10 ef] [.ref 0, .ref 6] (fun v L => ∃ x : Int32, v = some (.int x) ∧ ∃ (k' u' p' : Int32) (c' : Nat → Int32) (ek' em' es' el' : Int32) (ef' : Nat → Int32), L = [.inr (10, [.ref 4, .int k', .int u', .ref 1, .int p']), .inr (9, [.int so, .ref 2, .ref 3, .ref 4, .int m]), z_ia 20 f, z_ia 20 g, .inr (11, [.ref 5]), z_ia 7 c', .inr (5, [.ref 7, .int ek', .int em', .int es', .int el', .int ba]), z_ia 10 ef']) := by
  refine z_body hl (by decide) rfl (Nat.le_of_ble_eq_true rfl) ?_
  show z_J G l mX8_hearOut (z_SF 15 0 0 [.inr (10, [.ref 4, .int k, .int u, .ref 1, .int p]), .inr (9, [.int so, .ref 2, .ref 3, .ref 4, .int m]), z_ia 20 f, z_ia 20 g, .inr (11, [.ref 5]), z_ia 7 c, .inr (5, [.ref 7, .int ek, .int em, .int es, .int el, .int ba]), z_ia 10 ef] (fun v L => ∃ x : Int32, v = some (.int x) ∧ ∃ (k' u' p' : Int32) (c' : Nat → Int32) (ek' em' es' el' : Int32) (ef' : Nat → Int32), L = [.inr (10, [.ref 4, .int k', .int u', .ref 1, .int p']), .inr (9, [.int so, .ref 2, .ref 3, .ref 4, .int m]), z_ia 20 f, z_ia 20 g, .inr (11, [.ref 5]), z_ia 7 c', .inr (5, [.ref 7, .int ek', .int em', .int es', .int el', .int ba]), z_ia 10 ef'])) 0 [(0, _), (1, _)] [] _ 0 0
  refine j_iconst (v := 0) dX8_hearOut_0 (by decide) ?_
  refine j_istore_n (lo' := [(2, _), (0, _), (1, _)]) dX8_hearOut_1 (by decide) rfl ?_
  refine j_iconst (v := 0) dX8_hearOut_2 (by decide) ?_
  refine j_istore_n (lo' := [(3, _), (2, _), (0, _), (1, _)]) dX8_hearOut_3 (by decide) rfl ?_
  have loop : ∀ (n j : Nat) (q : Int32) (k' u' p' : Int32) (c' : Nat → Int32) (ek' em' es' el' : Int32) (ef' : Nat → Int32), j ≤ 1000 → 1000 < j + n → z_J G l mX8_hearOut (z_SF 15 0 0 [.inr (10, [.ref 4, .int k, .int u, .ref 1, .int p]), .inr (9, [.int so, .ref 2, .ref 3, .ref 4, .int m]), z_ia 20 f, z_ia 20 g, .inr (11, [.ref 5]), z_ia 7 c, .inr (5, [.ref 7, .int ek, .int em, .int es, .int el, .int ba]), z_ia 10 ef] (fun v L => ∃ x : Int32, v = some (.int x) ∧ ∃ (k' u' p' : Int32) (c' : Nat → Int32) (ek' em' es' el' : Int32) (ef' : Nat → Int32), L = [.inr (10, [.ref 4, .int k', .int u', .ref 1, .int p']), .inr (9, [.int so, .ref 2, .ref 3, .ref 4, .int m]), z_ia 20 f, z_ia 20 g, .inr (11, [.ref 5]), z_ia 7 c', .inr (5, [.ref 7, .int ek', .int em', .int es', .int el', .int ba]), z_ia 10 ef'])) 4 [(0, .ref 0), (1, .ref 6), (2, .int q), (3, .int (nI j))] [] ([.inr (10, [.ref 4, .int k', .int u', .ref 1, .int p']), .inr (9, [.int so, .ref 2, .ref 3, .ref 4, .int m]), z_ia 20 f, z_ia 20 g, .inr (11, [.ref 5]), z_ia 7 c', .inr (5, [.ref 7, .int ek', .int em', .int es', .int el', .int ba]), z_ia 10 ef'], z_no) 0 0 := by
    intro n
    induction n with
    | zero => intro j q k' u' p' c' ek' em' es' el' ef' h1 h2 ; exact absurd h2 (by omega)
    | succ n ih =>
      intro j q k' u' p' c' ek' em' es' el' ef' h1 h2
      refine j_iload_n dX8_hearOut_4 rfl ?_
      refine j_sipush (v := 1000) dX8_hearOut_5 (by decide) ?_
      refine j_icmp_ge (tgt := 42) dX8_hearOut_8 (by decide) (fun c_8 => ?_) (fun c_8 => ?_)
      · refine j_iload_n dX8_hearOut_42 rfl ?_
        refine j_iret dX8_hearOut_43 rfl rfl ?_ (Nat.le_of_ble_eq_true rfl) (Nat.le_of_ble_eq_true rfl)
        exact ⟨rfl, rfl, _, rfl, _, _, _, _, _, _, _, _, _, rfl⟩
      · have hj : j < 1000 := z_ltZ 1000 rfl c_8 (by omega) (by decide)
        refine j_aload_n dX8_hearOut_11 rfl rfl ?_
        refine j_callU (q := (RX5, TX5, 5)) dX8_hearOut_12 kX7_ask cuX8_320_X5 rfl rfl (z_frame [0, 1, 2, 3, 4, 5] rfl (by decide) (Nat.le_of_ble_eq_true rfl) (c_X7_ask_X5 hl _ _ _ _ _ _ _ _)) (Nat.le_of_ble_eq_true rfl) ⟨(Nat.le_of_ble_eq_true rfl), (Nat.le_of_ble_eq_true rfl)⟩ rfl (Nat.le_of_ble_eq_true rfl) rfl rfl (fun _ _ h => h.elim) ?_
        rintro _ _ ⟨_, _, ⟨⟨b, rfl⟩, _, rfl⟩, rfl, rfl⟩
        refine j_w ([.inr (10, [_, _, _, _, _]), .inr (9, [_, _, _, _, _]), z_ia 20 _, z_ia 20 _, .inr (11, [_]), z_ia 7 _, .inr (5, [_, _, _, _, _, _]), z_ia 10 _], z_no) rfl ?_
        refine j_if_eq (tgt := 42) dX8_hearOut_15 (by decide) (fun c_15 => ?_) (fun c_15 => ?_)
        · refine j_iload_n dX8_hearOut_42 rfl ?_
          refine j_iret dX8_hearOut_43 rfl rfl ?_ (Nat.le_of_ble_eq_true rfl) (Nat.le_of_ble_eq_true rfl)
          exact ⟨rfl, rfl, _, rfl, _, _, _, _, _, _, _, _, _, rfl⟩
        · refine j_aload_n dX8_hearOut_18 rfl rfl ?_
          refine j_aload_n dX8_hearOut_19 rfl rfl ?_
          refine j_callU (q := (RX5, TX5, 5)) dX8_hearOut_20 kX7_give cuX8_315_X5 rfl rfl (z_frame [0, 1, 2, 3, 4, 5] rfl (by decide) (Nat.le_of_ble_eq_true rfl) (c_X7_give_X5 hl _ _ _ _ _ _ _ _)) (Nat.le_of_ble_eq_true rfl) ⟨(Nat.le_of_ble_eq_true rfl), (Nat.le_of_ble_eq_true rfl)⟩ rfl (Nat.le_of_ble_eq_true rfl) rfl rfl (fun _ _ h => h.elim) ?_
          rintro _ _ ⟨_, _, ⟨_, rfl, _, _, _, _, rfl⟩, rfl, rfl⟩
          refine j_w ([.inr (10, [_, _, _, _, _]), .inr (9, [_, _, _, _, _]), z_ia 20 _, z_ia 20 _, .inr (11, [_]), z_ia 7 _, .inr (5, [_, _, _, _, _, _]), z_ia 10 _], z_no) rfl ?_
          refine j_callV (q := (RX0, TX0, 6)) dX8_hearOut_23 kX0_takesIn lX8_323 inX0_takesIn seX0_takesIn rfl rfl (z_frame [6, 7] rfl (by decide) (Nat.le_of_ble_eq_true rfl) (c_X0_takesIn hl _ _ _ _ _ _ _)) (Nat.le_of_ble_eq_true rfl) ⟨(Nat.le_of_ble_eq_true rfl), (Nat.le_of_ble_eq_true rfl)⟩ rfl (Nat.le_of_ble_eq_true rfl) rfl rfl (fun _ _ h => h.elim) ?_
          rintro _ _ ⟨_, _, ⟨b, rfl, _, _, _, _, _, rfl⟩, rfl, rfl⟩
          refine j_w ([.inr (10, [_, _, _, _, _]), .inr (9, [_, _, _, _, _]), z_ia 20 _, z_ia 20 _, .inr (11, [_]), z_ia 7 _, .inr (5, [_, _, _, _, _, _]), z_ia 10 _], z_no) rfl ?_
          refine j_if_ne (tgt := 33) dX8_hearOut_26 (by decide) (fun c_26 => ?_) (fun c_26 => ?_)
          · refine j_iinc (lo' := [(2, _), (0, _), (1, _), (3, _)]) dX8_hearOut_33 rfl rfl (by decide) rfl ?_
            refine j_iinc (lo' := [(3, _), (2, _), (0, _), (1, _)]) dX8_hearOut_36 rfl (z_inc _) (by decide) rfl ?_
            refine j_goto (tgt := 4) dX8_hearOut_39 (by decide) ?_
            exact j_lo2 (ih (j + 1) _ _ _ _ _ _ _ _ _ _ (by omega) (by omega)) (z_q1 rfl (z_q1 rfl (z_q1 rfl (z_q1 rfl z_q0))))
          · refine j_sipush (v := (-1001)) dX8_hearOut_29 (by decide) ?_
            refine j_iret dX8_hearOut_32 rfl rfl ?_ (Nat.le_of_ble_eq_true rfl) (Nat.le_of_ble_eq_true rfl)
            exact ⟨rfl, rfl, _, rfl, _, _, _, _, _, _, _, _, _, rfl⟩
  exact j_lo2 (loop (1000 + 1) 0 _ _ _ _ _ _ _ _ _ _ (by omega) (by omega)) (z_q1 rfl (z_q1 rfl (z_q1 rfl (z_q1 rfl z_q0))))
set_option maxRecDepth 100000 in
set_option maxHeartbeats 8000000 in
theorem c_X8_changeEach_X5 (hl : l.stackTraces = false) (k u p : Int32) (f g c : Nat → Int32) (m so : Int32) (r t : Int32) : z_CF G l mX8_changeEach 15 0 0 [.inr (10, [.ref 4, .int k, .int u, .ref 1, .int p]), .inr (9, [.int so, .ref 2, .ref 3, .ref 4, .int m]), z_ia 20 f, z_ia 20 g, .inr (11, [.ref 5]), z_ia 7 c] [.ref 0, .int r, .int t] (fun v L => (∃ b : Bool, v = some (.int (z_bi b))) ∧ ∃ (k' u' p' : Int32) (c' : Nat → Int32) (f' : Nat → Int32), L = [.inr (10, [.ref 4, .int k', .int u', .ref 1, .int p']), .inr (9, [.int so, .ref 2, .ref 3, .ref 4, .int m]), z_ia 20 f', z_ia 20 g, .inr (11, [.ref 5]), z_ia 7 c']) := by
  refine z_body hl (by decide) rfl (Nat.le_of_ble_eq_true rfl) ?_
  show z_J G l mX8_changeEach (z_SF 15 0 0 [.inr (10, [.ref 4, .int k, .int u, .ref 1, .int p]), .inr (9, [.int so, .ref 2, .ref 3, .ref 4, .int m]), z_ia 20 f, z_ia 20 g, .inr (11, [.ref 5]), z_ia 7 c] (fun v L => (∃ b : Bool, v = some (.int (z_bi b))) ∧ ∃ (k' u' p' : Int32) (c' : Nat → Int32) (f' : Nat → Int32), L = [.inr (10, [.ref 4, .int k', .int u', .ref 1, .int p']), .inr (9, [.int so, .ref 2, .ref 3, .ref 4, .int m]), z_ia 20 f', z_ia 20 g, .inr (11, [.ref 5]), z_ia 7 c'])) 0 [(0, _), (1, _), (2, _)] [] _ 0 0
  refine j_iconst (v := 0) dX8_changeEach_0 (by decide) ?_
  refine j_istore_n (lo' := [(3, _), (0, _), (1, _), (2, _)]) dX8_changeEach_1 (by decide) rfl ?_
  have loop : ∀ (n j : Nat) (k' u' p' : Int32) (c' : Nat → Int32) (f' : Nat → Int32), j ≤ 1000 → 1000 < j + n → z_J G l mX8_changeEach (z_SF 15 0 0 [.inr (10, [.ref 4, .int k, .int u, .ref 1, .int p]), .inr (9, [.int so, .ref 2, .ref 3, .ref 4, .int m]), z_ia 20 f, z_ia 20 g, .inr (11, [.ref 5]), z_ia 7 c] (fun v L => (∃ b : Bool, v = some (.int (z_bi b))) ∧ ∃ (k' u' p' : Int32) (c' : Nat → Int32) (f' : Nat → Int32), L = [.inr (10, [.ref 4, .int k', .int u', .ref 1, .int p']), .inr (9, [.int so, .ref 2, .ref 3, .ref 4, .int m]), z_ia 20 f', z_ia 20 g, .inr (11, [.ref 5]), z_ia 7 c'])) 2 [(0, .ref 0), (1, .int r), (2, .int t), (3, .int (nI j))] [] ([.inr (10, [.ref 4, .int k', .int u', .ref 1, .int p']), .inr (9, [.int so, .ref 2, .ref 3, .ref 4, .int m]), z_ia 20 f', z_ia 20 g, .inr (11, [.ref 5]), z_ia 7 c'], z_no) 0 0 := by
    intro n
    induction n with
    | zero => intro j k' u' p' c' f' h1 h2 ; exact absurd h2 (by omega)
    | succ n ih =>
      intro j k' u' p' c' f' h1 h2
      refine j_iload_n dX8_changeEach_2 rfl ?_
      refine j_sipush (v := 1000) dX8_changeEach_3 (by decide) ?_
      refine j_icmp_ge (tgt := 61) dX8_changeEach_6 (by decide) (fun c_6 => ?_) (fun c_6 => ?_)
      · refine j_iconst (v := 1) dX8_changeEach_61 (by decide) ?_
        refine j_iret dX8_changeEach_62 rfl rfl ?_ (Nat.le_of_ble_eq_true rfl) (Nat.le_of_ble_eq_true rfl)
        exact ⟨rfl, rfl, ⟨true, rfl⟩, _, _, _, _, _, rfl⟩
      · have hj : j < 1000 := z_ltZ 1000 rfl c_6 (by omega) (by decide)
        refine j_aload_n dX8_changeEach_9 rfl rfl ?_
        refine j_callU (q := (RX5, TX5, 5)) dX8_changeEach_10 kX7_ask cuX8_320_X5 rfl rfl (z_frame [0, 1, 2, 3, 4, 5] rfl (by decide) (Nat.le_of_ble_eq_true rfl) (c_X7_ask_X5 hl _ _ _ _ _ _ _ _)) (Nat.le_of_ble_eq_true rfl) ⟨(Nat.le_of_ble_eq_true rfl), (Nat.le_of_ble_eq_true rfl)⟩ rfl (Nat.le_of_ble_eq_true rfl) rfl rfl (fun _ _ h => h.elim) ?_
        rintro _ _ ⟨_, _, ⟨⟨b, rfl⟩, _, rfl⟩, rfl, rfl⟩
        refine j_w ([.inr (10, [_, _, _, _, _]), .inr (9, [_, _, _, _, _]), z_ia 20 _, z_ia 20 _, .inr (11, [_]), z_ia 7 _], z_no) rfl ?_
        refine j_if_eq (tgt := 61) dX8_changeEach_13 (by decide) (fun c_13 => ?_) (fun c_13 => ?_)
        · refine j_iconst (v := 1) dX8_changeEach_61 (by decide) ?_
          refine j_iret dX8_changeEach_62 rfl rfl ?_ (Nat.le_of_ble_eq_true rfl) (Nat.le_of_ble_eq_true rfl)
          exact ⟨rfl, rfl, ⟨true, rfl⟩, _, _, _, _, _, rfl⟩
        · refine j_aload_n dX8_changeEach_16 rfl rfl ?_
          refine j_callU (q := (RX5, TX5, 5)) dX8_changeEach_17 kX7_give cuX8_315_X5 rfl rfl (z_frame [0, 1, 2, 3, 4, 5] rfl (by decide) (Nat.le_of_ble_eq_true rfl) (c_X7_give_X5 hl _ _ _ _ _ _ _ _)) (Nat.le_of_ble_eq_true rfl) ⟨(Nat.le_of_ble_eq_true rfl), (Nat.le_of_ble_eq_true rfl)⟩ rfl (Nat.le_of_ble_eq_true rfl) rfl rfl (fun _ _ h => h.elim) ?_
          rintro _ _ ⟨_, _, ⟨_, rfl, _, _, _, _, rfl⟩, rfl, rfl⟩
          refine j_w ([.inr (10, [_, _, _, _, _]), .inr (9, [_, _, _, _, _]), z_ia 20 _, z_ia 20 _, .inr (11, [_]), z_ia 7 _], z_no) rfl ?_
          refine j_pop dX8_changeEach_20 rfl ?_
          refine j_iload_n dX8_changeEach_21 rfl ?_
          refine j_aload_n dX8_changeEach_22 rfl rfl ?_
          refine j_getf dX8_changeEach_23 fX8_326_X5 rfl rfl ?_
          refine j_aload_n dX8_changeEach_26 rfl rfl ?_
          refine j_getf dX8_changeEach_27 fX8_329_X5 rfl rfl ?_
          refine j_iload_n dX8_changeEach_30 rfl ?_
          refine j_callS dX8_changeEach_31 kX8_ruleTells lX8_237 stX8_ruleTells (c_X8_ruleTells hl _ _ _ _ _) (Nat.le_of_ble_eq_true rfl) ⟨(Nat.le_of_ble_eq_true rfl), (Nat.le_of_ble_eq_true rfl)⟩ rfl (Nat.le_of_ble_eq_true rfl) rfl rfl (fun _ _ h => h.elim) ?_
          rintro _ _ ⟨⟨_, rfl⟩, rfl⟩
          refine j_istore (lo' := [(4, _), (0, _), (1, _), (2, _), (3, _)]) dX8_changeEach_34 (by decide) rfl ?_
          refine j_iload dX8_changeEach_36 rfl ?_
          refine j_sipush (v := (-1001)) dX8_changeEach_38 (by decide) ?_
          refine j_icmp_eq (tgt := 53) dX8_changeEach_41 (by decide) (fun c_41 => ?_) (fun c_41 => ?_)
          · refine j_iconst (v := 0) dX8_changeEach_53 (by decide) ?_
            refine j_iret dX8_changeEach_54 rfl rfl ?_ (Nat.le_of_ble_eq_true rfl) (Nat.le_of_ble_eq_true rfl)
            exact ⟨rfl, rfl, ⟨false, rfl⟩, _, _, _, _, _, rfl⟩
          · refine j_aload_n dX8_changeEach_44 rfl rfl ?_
            refine j_iload dX8_changeEach_45 rfl ?_
            refine j_callU (q := (RX5, TX5, 5)) dX8_changeEach_47 kX5_putInPlace cuX8_332_X5 rfl rfl (z_frame [0, 1, 2, 3, 4, 5] rfl (by decide) (Nat.le_of_ble_eq_true rfl) (c_X5_putInPlace hl _ _ _ _ _ _ _ _ _)) (Nat.le_of_ble_eq_true rfl) ⟨(Nat.le_of_ble_eq_true rfl), (Nat.le_of_ble_eq_true rfl)⟩ rfl (Nat.le_of_ble_eq_true rfl) rfl rfl (fun _ _ h => h.elim) ?_
            rintro _ _ ⟨_, _, ⟨⟨b, rfl⟩, _, _, rfl⟩, rfl, rfl⟩
            refine j_w ([.inr (10, [_, _, _, _, _]), .inr (9, [_, _, _, _, _]), z_ia 20 _, z_ia 20 _, .inr (11, [_]), z_ia 7 _], z_no) rfl ?_
            refine j_if_ne (tgt := 55) dX8_changeEach_50 (by decide) (fun c_50 => ?_) (fun c_50 => ?_)
            · refine j_iinc (lo' := [(3, _), (4, _), (0, _), (1, _), (2, _)]) dX8_changeEach_55 rfl (z_inc _) (by decide) rfl ?_
              refine j_goto (tgt := 2) dX8_changeEach_58 (by decide) ?_
              exact j_lo2 (ih (j + 1) _ _ _ _ _ (by omega) (by omega)) (z_q1 rfl (z_q1 rfl (z_q1 rfl (z_q1 rfl z_q0))))
            · refine j_iconst (v := 0) dX8_changeEach_53 (by decide) ?_
              refine j_iret dX8_changeEach_54 rfl rfl ?_ (Nat.le_of_ble_eq_true rfl) (Nat.le_of_ble_eq_true rfl)
              exact ⟨rfl, rfl, ⟨false, rfl⟩, _, _, _, _, _, rfl⟩
  exact j_lo2 (loop (1000 + 1) 0 _ _ _ _ _ (by omega) (by omega)) (z_q1 rfl (z_q1 rfl (z_q1 rfl (z_q1 rfl z_q0))))
set_option maxRecDepth 100000 in
set_option maxHeartbeats 8000000 in
theorem c_X8_hearOut_X3 (hl : l.stackTraces = false) (k u a to by9 : Int32) (c : Nat → Int32) (ek em es el ba : Int32) (ef : Nat → Int32) : z_CF G l mX8_hearOut 15 0 0 [.inr (8, [.ref 1, .int k, .int u, .int to, .int by9, .int a]), .inr (11, [.ref 2]), z_ia 7 c, .inr (5, [.ref 4, .int ek, .int em, .int es, .int el, .int ba]), z_ia 10 ef] [.ref 0, .ref 3] (fun v L => ∃ x : Int32, v = some (.int x) ∧ ∃ (k' u' a' : Int32) (c' : Nat → Int32) (ek' em' es' el' : Int32) (ef' : Nat → Int32), L = [.inr (8, [.ref 1, .int k', .int u', .int to, .int by9, .int a']), .inr (11, [.ref 2]), z_ia 7 c', .inr (5, [.ref 4, .int ek', .int em', .int es', .int el', .int ba]), z_ia 10 ef']) := by
  refine z_body hl (by decide) rfl (Nat.le_of_ble_eq_true rfl) ?_
  show z_J G l mX8_hearOut (z_SF 15 0 0 [.inr (8, [.ref 1, .int k, .int u, .int to, .int by9, .int a]), .inr (11, [.ref 2]), z_ia 7 c, .inr (5, [.ref 4, .int ek, .int em, .int es, .int el, .int ba]), z_ia 10 ef] (fun v L => ∃ x : Int32, v = some (.int x) ∧ ∃ (k' u' a' : Int32) (c' : Nat → Int32) (ek' em' es' el' : Int32) (ef' : Nat → Int32), L = [.inr (8, [.ref 1, .int k', .int u', .int to, .int by9, .int a']), .inr (11, [.ref 2]), z_ia 7 c', .inr (5, [.ref 4, .int ek', .int em', .int es', .int el', .int ba]), z_ia 10 ef'])) 0 [(0, _), (1, _)] [] _ 0 0
  refine j_iconst (v := 0) dX8_hearOut_0 (by decide) ?_
  refine j_istore_n (lo' := [(2, _), (0, _), (1, _)]) dX8_hearOut_1 (by decide) rfl ?_
  refine j_iconst (v := 0) dX8_hearOut_2 (by decide) ?_
  refine j_istore_n (lo' := [(3, _), (2, _), (0, _), (1, _)]) dX8_hearOut_3 (by decide) rfl ?_
  have loop : ∀ (n j : Nat) (q : Int32) (k' u' a' : Int32) (c' : Nat → Int32) (ek' em' es' el' : Int32) (ef' : Nat → Int32), j ≤ 1000 → 1000 < j + n → z_J G l mX8_hearOut (z_SF 15 0 0 [.inr (8, [.ref 1, .int k, .int u, .int to, .int by9, .int a]), .inr (11, [.ref 2]), z_ia 7 c, .inr (5, [.ref 4, .int ek, .int em, .int es, .int el, .int ba]), z_ia 10 ef] (fun v L => ∃ x : Int32, v = some (.int x) ∧ ∃ (k' u' a' : Int32) (c' : Nat → Int32) (ek' em' es' el' : Int32) (ef' : Nat → Int32), L = [.inr (8, [.ref 1, .int k', .int u', .int to, .int by9, .int a']), .inr (11, [.ref 2]), z_ia 7 c', .inr (5, [.ref 4, .int ek', .int em', .int es', .int el', .int ba]), z_ia 10 ef'])) 4 [(0, .ref 0), (1, .ref 3), (2, .int q), (3, .int (nI j))] [] ([.inr (8, [.ref 1, .int k', .int u', .int to, .int by9, .int a']), .inr (11, [.ref 2]), z_ia 7 c', .inr (5, [.ref 4, .int ek', .int em', .int es', .int el', .int ba]), z_ia 10 ef'], z_no) 0 0 := by
    intro n
    induction n with
    | zero => intro j q k' u' a' c' ek' em' es' el' ef' h1 h2 ; exact absurd h2 (by omega)
    | succ n ih =>
      intro j q k' u' a' c' ek' em' es' el' ef' h1 h2
      refine j_iload_n dX8_hearOut_4 rfl ?_
      refine j_sipush (v := 1000) dX8_hearOut_5 (by decide) ?_
      refine j_icmp_ge (tgt := 42) dX8_hearOut_8 (by decide) (fun c_8 => ?_) (fun c_8 => ?_)
      · refine j_iload_n dX8_hearOut_42 rfl ?_
        refine j_iret dX8_hearOut_43 rfl rfl ?_ (Nat.le_of_ble_eq_true rfl) (Nat.le_of_ble_eq_true rfl)
        exact ⟨rfl, rfl, _, rfl, _, _, _, _, _, _, _, _, _, rfl⟩
      · have hj : j < 1000 := z_ltZ 1000 rfl c_8 (by omega) (by decide)
        refine j_aload_n dX8_hearOut_11 rfl rfl ?_
        refine j_callU (q := (RX3, TX3, 6)) dX8_hearOut_12 kX7_ask cuX8_320_X3 rfl rfl (z_frame [0, 1, 2] rfl (by decide) (Nat.le_of_ble_eq_true rfl) (c_X7_ask_X3 hl _ _ _ _ _ _)) (Nat.le_of_ble_eq_true rfl) ⟨(Nat.le_of_ble_eq_true rfl), (Nat.le_of_ble_eq_true rfl)⟩ rfl (Nat.le_of_ble_eq_true rfl) rfl rfl (fun _ _ h => h.elim) ?_
        rintro _ _ ⟨_, _, ⟨⟨b, rfl⟩, _, rfl⟩, rfl, rfl⟩
        refine j_w ([.inr (8, [_, _, _, _, _, _]), .inr (11, [_]), z_ia 7 _, .inr (5, [_, _, _, _, _, _]), z_ia 10 _], z_no) rfl ?_
        refine j_if_eq (tgt := 42) dX8_hearOut_15 (by decide) (fun c_15 => ?_) (fun c_15 => ?_)
        · refine j_iload_n dX8_hearOut_42 rfl ?_
          refine j_iret dX8_hearOut_43 rfl rfl ?_ (Nat.le_of_ble_eq_true rfl) (Nat.le_of_ble_eq_true rfl)
          exact ⟨rfl, rfl, _, rfl, _, _, _, _, _, _, _, _, _, rfl⟩
        · refine j_aload_n dX8_hearOut_18 rfl rfl ?_
          refine j_aload_n dX8_hearOut_19 rfl rfl ?_
          refine j_callU (q := (RX3, TX3, 6)) dX8_hearOut_20 kX7_give cuX8_315_X3 rfl rfl (z_frame [0, 1, 2] rfl (by decide) (Nat.le_of_ble_eq_true rfl) (c_X7_give_X3 hl _ _ _ _ _ _)) (Nat.le_of_ble_eq_true rfl) ⟨(Nat.le_of_ble_eq_true rfl), (Nat.le_of_ble_eq_true rfl)⟩ rfl (Nat.le_of_ble_eq_true rfl) rfl rfl (fun _ _ h => h.elim) ?_
          rintro _ _ ⟨_, _, ⟨_, rfl, _, _, _, _, rfl⟩, rfl, rfl⟩
          refine j_w ([.inr (8, [_, _, _, _, _, _]), .inr (11, [_]), z_ia 7 _, .inr (5, [_, _, _, _, _, _]), z_ia 10 _], z_no) rfl ?_
          refine j_callV (q := (RX0, TX0, 6)) dX8_hearOut_23 kX0_takesIn lX8_323 inX0_takesIn seX0_takesIn rfl rfl (z_frame [3, 4] rfl (by decide) (Nat.le_of_ble_eq_true rfl) (c_X0_takesIn hl _ _ _ _ _ _ _)) (Nat.le_of_ble_eq_true rfl) ⟨(Nat.le_of_ble_eq_true rfl), (Nat.le_of_ble_eq_true rfl)⟩ rfl (Nat.le_of_ble_eq_true rfl) rfl rfl (fun _ _ h => h.elim) ?_
          rintro _ _ ⟨_, _, ⟨b, rfl, _, _, _, _, _, rfl⟩, rfl, rfl⟩
          refine j_w ([.inr (8, [_, _, _, _, _, _]), .inr (11, [_]), z_ia 7 _, .inr (5, [_, _, _, _, _, _]), z_ia 10 _], z_no) rfl ?_
          refine j_if_ne (tgt := 33) dX8_hearOut_26 (by decide) (fun c_26 => ?_) (fun c_26 => ?_)
          · refine j_iinc (lo' := [(2, _), (0, _), (1, _), (3, _)]) dX8_hearOut_33 rfl rfl (by decide) rfl ?_
            refine j_iinc (lo' := [(3, _), (2, _), (0, _), (1, _)]) dX8_hearOut_36 rfl (z_inc _) (by decide) rfl ?_
            refine j_goto (tgt := 4) dX8_hearOut_39 (by decide) ?_
            exact j_lo2 (ih (j + 1) _ _ _ _ _ _ _ _ _ _ (by omega) (by omega)) (z_q1 rfl (z_q1 rfl (z_q1 rfl (z_q1 rfl z_q0))))
          · refine j_sipush (v := (-1001)) dX8_hearOut_29 (by decide) ?_
            refine j_iret dX8_hearOut_32 rfl rfl ?_ (Nat.le_of_ble_eq_true rfl) (Nat.le_of_ble_eq_true rfl)
            exact ⟨rfl, rfl, _, rfl, _, _, _, _, _, _, _, _, _, rfl⟩
  exact j_lo2 (loop (1000 + 1) 0 _ _ _ _ _ _ _ _ _ _ (by omega) (by omega)) (z_q1 rfl (z_q1 rfl (z_q1 rfl (z_q1 rfl z_q0))))
set_option maxRecDepth 100000 in
set_option maxHeartbeats 8000000 in
theorem c_X8_passBy_X3 (hl : l.stackTraces = false) (k u a to by9 : Int32) (c : Nat → Int32) (t : Int32) : z_CF G l mX8_passBy 15 0 0 [.inr (8, [.ref 1, .int k, .int u, .int to, .int by9, .int a]), .inr (11, [.ref 2]), z_ia 7 c] [.ref 0, .int t] (fun v L => v = none ∧ ∃ (k' u' a' : Int32) (c' : Nat → Int32), L = [.inr (8, [.ref 1, .int k', .int u', .int to, .int by9, .int a']), .inr (11, [.ref 2]), z_ia 7 c']) := by
  refine z_body hl (by decide) rfl (Nat.le_of_ble_eq_true rfl) ?_
  show z_J G l mX8_passBy (z_SF 15 0 0 [.inr (8, [.ref 1, .int k, .int u, .int to, .int by9, .int a]), .inr (11, [.ref 2]), z_ia 7 c] (fun v L => v = none ∧ ∃ (k' u' a' : Int32) (c' : Nat → Int32), L = [.inr (8, [.ref 1, .int k', .int u', .int to, .int by9, .int a']), .inr (11, [.ref 2]), z_ia 7 c'])) 0 [(0, _), (1, _)] [] _ 0 0
  refine j_iconst (v := 0) dX8_passBy_0 (by decide) ?_
  refine j_istore_n (lo' := [(2, _), (0, _), (1, _)]) dX8_passBy_1 (by decide) rfl ?_
  have loop : ∀ (n : Nat) (q : Int32) (k' u' a' : Int32) (c' : Nat → Int32), ((t).toInt - (q).toInt).toNat < n → z_J G l mX8_passBy (z_SF 15 0 0 [.inr (8, [.ref 1, .int k, .int u, .int to, .int by9, .int a]), .inr (11, [.ref 2]), z_ia 7 c] (fun v L => v = none ∧ ∃ (k' u' a' : Int32) (c' : Nat → Int32), L = [.inr (8, [.ref 1, .int k', .int u', .int to, .int by9, .int a']), .inr (11, [.ref 2]), z_ia 7 c'])) 2 [(0, .ref 0), (1, .int t), (2, .int q)] [] ([.inr (8, [.ref 1, .int k', .int u', .int to, .int by9, .int a']), .inr (11, [.ref 2]), z_ia 7 c'], z_no) 0 0 := by
    intro n
    induction n with
    | zero => intro q k' u' a' c' h1; exact absurd h1 (Nat.not_lt_zero _)
    | succ n ih =>
      intro q k' u' a' c' h1
      refine j_iload_n dX8_passBy_2 rfl ?_
      refine j_iload_n dX8_passBy_3 rfl ?_
      refine j_icmp_ge (tgt := 18) dX8_passBy_4 (by decide) (fun c_4 => ?_) (fun c_4 => ?_)
      · refine j_vret dX8_passBy_18 rfl ?_ (Nat.le_of_ble_eq_true rfl) (Nat.le_of_ble_eq_true rfl)
        exact ⟨rfl, rfl, rfl, _, _, _, _, rfl⟩
      · refine j_aload_n dX8_passBy_7 rfl rfl ?_
        refine j_callU (q := (RX3, TX3, 6)) dX8_passBy_8 kX7_give cuX8_315_X3 rfl rfl (z_frame [0, 1, 2] rfl (by decide) (Nat.le_of_ble_eq_true rfl) (c_X7_give_X3 hl _ _ _ _ _ _)) (Nat.le_of_ble_eq_true rfl) ⟨(Nat.le_of_ble_eq_true rfl), (Nat.le_of_ble_eq_true rfl)⟩ rfl (Nat.le_of_ble_eq_true rfl) rfl rfl (fun _ _ h => h.elim) ?_
        rintro _ _ ⟨_, _, ⟨_, rfl, _, _, _, _, rfl⟩, rfl, rfl⟩
        refine j_w ([.inr (8, [_, _, _, _, _, _]), .inr (11, [_]), z_ia 7 _], z_no) rfl ?_
        refine j_pop dX8_passBy_11 rfl ?_
        refine j_iinc (lo' := [(2, _), (0, _), (1, _)]) dX8_passBy_12 rfl rfl (by decide) rfl ?_
        refine j_goto (tgt := 2) dX8_passBy_15 (by decide) ?_
        exact j_lo2 (ih _ _ _ _ _ (z_ms c_4 h1)) (z_q1 rfl (z_q1 rfl (z_q1 rfl z_q0)))
  exact j_lo2 (loop _ _ _ _ _ _ (Nat.lt_succ_self _)) (z_q1 rfl (z_q1 rfl (z_q1 rfl z_q0)))
set_option maxRecDepth 100000 in
set_option maxHeartbeats 8000000 in
theorem c_X8_isWhatIsLeft (hl : l.stackTraces = false) (m fx : Int32) (f c : Nat → Int32) (m2 fx2 : Int32) (f2 c2 : Nat → Int32) (t : Int32) : z_CF G l mX8_isWhatIsLeft 13 0 0 [.inr (6, [.ref 1, .ref 2, .int m, .int fx]), z_ia 12 f, .inr (11, [.ref 3]), z_ia 7 c, .inr (6, [.ref 5, .ref 6, .int m2, .int fx2]), z_ia 12 f2, .inr (11, [.ref 7]), z_ia 7 c2] [.ref 0, .ref 4, .int t] (fun v L => (∃ b : Bool, v = some (.int (z_bi b))) ∧ L = [.inr (6, [.ref 1, .ref 2, .int m, .int fx]), z_ia 12 f, .inr (11, [.ref 3]), z_ia 7 c, .inr (6, [.ref 5, .ref 6, .int m2, .int fx2]), z_ia 12 f2, .inr (11, [.ref 7]), z_ia 7 c2]) := by
  refine z_body hl (by decide) rfl (Nat.le_of_ble_eq_true rfl) ?_
  show z_J G l mX8_isWhatIsLeft (z_SF 13 0 0 [.inr (6, [.ref 1, .ref 2, .int m, .int fx]), z_ia 12 f, .inr (11, [.ref 3]), z_ia 7 c, .inr (6, [.ref 5, .ref 6, .int m2, .int fx2]), z_ia 12 f2, .inr (11, [.ref 7]), z_ia 7 c2] (fun v L => (∃ b : Bool, v = some (.int (z_bi b))) ∧ L = [.inr (6, [.ref 1, .ref 2, .int m, .int fx]), z_ia 12 f, .inr (11, [.ref 3]), z_ia 7 c, .inr (6, [.ref 5, .ref 6, .int m2, .int fx2]), z_ia 12 f2, .inr (11, [.ref 7]), z_ia 7 c2])) 0 [(0, _), (1, _), (2, _)] [] _ 0 0
  refine j_iconst (v := 0) dX8_isWhatIsLeft_0 (by decide) ?_
  refine j_istore_n (lo' := [(3, _), (0, _), (1, _), (2, _)]) dX8_isWhatIsLeft_1 (by decide) rfl ?_
  refine j_iconst (v := 0) dX8_isWhatIsLeft_2 (by decide) ?_
  refine j_istore (lo' := [(4, _), (3, _), (0, _), (1, _), (2, _)]) dX8_isWhatIsLeft_3 (by decide) rfl ?_
  have loop : ∀ (n : Nat) (p : Int32) (q : Int32), ((m2).toInt - (p).toInt).toNat < n → z_J G l mX8_isWhatIsLeft (z_SF 13 0 0 [.inr (6, [.ref 1, .ref 2, .int m, .int fx]), z_ia 12 f, .inr (11, [.ref 3]), z_ia 7 c, .inr (6, [.ref 5, .ref 6, .int m2, .int fx2]), z_ia 12 f2, .inr (11, [.ref 7]), z_ia 7 c2] (fun v L => (∃ b : Bool, v = some (.int (z_bi b))) ∧ L = [.inr (6, [.ref 1, .ref 2, .int m, .int fx]), z_ia 12 f, .inr (11, [.ref 3]), z_ia 7 c, .inr (6, [.ref 5, .ref 6, .int m2, .int fx2]), z_ia 12 f2, .inr (11, [.ref 7]), z_ia 7 c2])) 5 [(0, .ref 0), (1, .ref 4), (2, .int t), (3, .int q), (4, .int p)] [] ([.inr (6, [.ref 1, .ref 2, .int m, .int fx]), z_ia 12 f, .inr (11, [.ref 3]), z_ia 7 c, .inr (6, [.ref 5, .ref 6, .int m2, .int fx2]), z_ia 12 f2, .inr (11, [.ref 7]), z_ia 7 c2], z_no) 0 0 := by
    intro n
    induction n with
    | zero => intro p q h1; exact absurd h1 (Nat.not_lt_zero _)
    | succ n ih =>
      intro p q h1
      refine j_iload dX8_isWhatIsLeft_5 rfl ?_
      refine j_aload_n dX8_isWhatIsLeft_7 rfl rfl ?_
      refine j_getf dX8_isWhatIsLeft_8 fX8_68 rfl rfl ?_
      refine j_icmp_ge (tgt := 61) dX8_isWhatIsLeft_11 (by decide) (fun c_11 => ?_) (fun c_11 => ?_)
      · refine j_aload_n dX8_isWhatIsLeft_61 rfl rfl ?_
        refine j_getf dX8_isWhatIsLeft_62 fX8_68 rfl rfl ?_
        refine j_iload_n dX8_isWhatIsLeft_65 rfl ?_
        refine j_icmp_ne (tgt := 73) dX8_isWhatIsLeft_66 (by decide) (fun c_66 => ?_) (fun c_66 => ?_)
        · refine j_iconst (v := 0) dX8_isWhatIsLeft_73 (by decide) ?_
          refine j_iret dX8_isWhatIsLeft_74 rfl rfl ?_ (Nat.le_of_ble_eq_true rfl) (Nat.le_of_ble_eq_true rfl)
          first | exact ⟨rfl, rfl, ⟨true, rfl⟩, rfl⟩ | exact ⟨rfl, rfl, ⟨false, rfl⟩, rfl⟩
        · refine j_iconst (v := 1) dX8_isWhatIsLeft_69 (by decide) ?_
          refine j_goto (tgt := 74) dX8_isWhatIsLeft_70 (by decide) ?_
          refine j_iret dX8_isWhatIsLeft_74 rfl rfl ?_ (Nat.le_of_ble_eq_true rfl) (Nat.le_of_ble_eq_true rfl)
          first | exact ⟨rfl, rfl, ⟨true, rfl⟩, rfl⟩ | exact ⟨rfl, rfl, ⟨false, rfl⟩, rfl⟩
      · refine j_aload_n dX8_isWhatIsLeft_14 rfl rfl ?_
        refine j_iload dX8_isWhatIsLeft_15 rfl ?_
        refine j_callV (q := (RX1, TX1, 4)) dX8_isWhatIsLeft_17 kX1_valueAt lX8_203 inX1_valueAt seX1_valueAt rfl rfl (z_frame [4, 5, 6, 7] rfl (by decide) (Nat.le_of_ble_eq_true rfl) (c_X1_valueAt hl _ _ _ _ _)) (Nat.le_of_ble_eq_true rfl) ⟨(Nat.le_of_ble_eq_true rfl), (Nat.le_of_ble_eq_true rfl)⟩ rfl (Nat.le_of_ble_eq_true rfl) rfl rfl (fun _ _ h => h.elim) ?_
        rintro _ _ ⟨_, _, ⟨_, rfl, rfl⟩, rfl, rfl⟩
        refine j_w ([.inr (6, [_, _, _, _]), z_ia 12 _, .inr (11, [_]), z_ia 7 _, .inr (6, [_, _, _, _]), z_ia 12 _, .inr (11, [_]), z_ia 7 _], z_no) rfl ?_
        refine j_istore (lo' := [(5, _), (0, _), (1, _), (2, _), (3, _), (4, _)]) dX8_isWhatIsLeft_20 (by decide) rfl ?_
        refine j_iload_n dX8_isWhatIsLeft_22 rfl ?_
        refine j_iload dX8_isWhatIsLeft_23 rfl ?_
        refine j_iconst (v := 0) dX8_isWhatIsLeft_25 (by decide) ?_
        refine j_callS dX8_isWhatIsLeft_26 kX8_testTells lX8_241 stX8_testTells (c_X8_testTells hl _ _ _ _) (Nat.le_of_ble_eq_true rfl) ⟨(Nat.le_of_ble_eq_true rfl), (Nat.le_of_ble_eq_true rfl)⟩ rfl (Nat.le_of_ble_eq_true rfl) rfl rfl (fun _ _ h => h.elim) ?_
        rintro _ _ ⟨⟨_, rfl⟩, rfl⟩
        refine j_if_ne (tgt := 55) dX8_isWhatIsLeft_29 (by decide) (fun c_29 => ?_) (fun c_29 => ?_)
        · refine j_iinc (lo' := [(4, _), (5, _), (0, _), (1, _), (2, _), (3, _)]) dX8_isWhatIsLeft_55 rfl rfl (by decide) rfl ?_
          refine j_goto (tgt := 5) dX8_isWhatIsLeft_58 (by decide) ?_
          exact j_lo2 (ih _ _ (z_ms c_11 h1)) (z_q1 rfl (z_q1 rfl (z_q1 rfl (z_q1 rfl (z_q1 rfl z_q0)))))
        · refine j_aload_n dX8_isWhatIsLeft_32 rfl rfl ?_
          refine j_iload_n dX8_isWhatIsLeft_33 rfl ?_
          refine j_callV (q := (RX1, TX1, 4)) dX8_isWhatIsLeft_34 kX1_isPlace lX8_194 inX1_isPlace seX1_isPlace rfl rfl (z_frame [0, 1, 2, 3] rfl (by decide) (Nat.le_of_ble_eq_true rfl) (c_X1_isPlace hl _ _ _ _ _)) (Nat.le_of_ble_eq_true rfl) ⟨(Nat.le_of_ble_eq_true rfl), (Nat.le_of_ble_eq_true rfl)⟩ rfl (Nat.le_of_ble_eq_true rfl) rfl rfl (fun _ _ h => h.elim) ?_
          rintro _ _ ⟨_, _, ⟨b, rfl, rfl, hb⟩, rfl, rfl⟩
          refine j_w ([.inr (6, [_, _, _, _]), z_ia 12 _, .inr (11, [_]), z_ia 7 _, .inr (6, [_, _, _, _]), z_ia 12 _, .inr (11, [_]), z_ia 7 _], z_no) rfl ?_
          refine j_if_eq (tgt := 50) dX8_isWhatIsLeft_37 (by decide) (fun c_37 => ?_) (fun c_37 => ?_)
          · refine j_iconst (v := 0) dX8_isWhatIsLeft_50 (by decide) ?_
            refine j_iret dX8_isWhatIsLeft_51 rfl rfl ?_ (Nat.le_of_ble_eq_true rfl) (Nat.le_of_ble_eq_true rfl)
            first | exact ⟨rfl, rfl, ⟨true, rfl⟩, rfl⟩ | exact ⟨rfl, rfl, ⟨false, rfl⟩, rfl⟩
          · refine j_aload_n dX8_isWhatIsLeft_40 rfl rfl ?_
            refine j_iload_n dX8_isWhatIsLeft_41 rfl ?_
            refine j_callV (q := (RX1, TX1, 4)) dX8_isWhatIsLeft_42 kX1_valueAt lX8_203 inX1_valueAt seX1_valueAt rfl rfl (z_frame [0, 1, 2, 3] rfl (by decide) (Nat.le_of_ble_eq_true rfl) (c_X1_valueAt hl _ _ _ _ _)) (Nat.le_of_ble_eq_true rfl) ⟨(Nat.le_of_ble_eq_true rfl), (Nat.le_of_ble_eq_true rfl)⟩ rfl (Nat.le_of_ble_eq_true rfl) rfl rfl (fun _ _ h => h.elim) ?_
            rintro _ _ ⟨_, _, ⟨_, rfl, rfl⟩, rfl, rfl⟩
            refine j_w ([.inr (6, [_, _, _, _]), z_ia 12 _, .inr (11, [_]), z_ia 7 _, .inr (6, [_, _, _, _]), z_ia 12 _, .inr (11, [_]), z_ia 7 _], z_no) rfl ?_
            refine j_iload dX8_isWhatIsLeft_45 rfl ?_
            refine j_icmp_eq (tgt := 52) dX8_isWhatIsLeft_47 (by decide) (fun c_47 => ?_) (fun c_47 => ?_)
            · refine j_iinc (lo' := [(3, _), (5, _), (0, _), (1, _), (2, _), (4, _)]) dX8_isWhatIsLeft_52 rfl rfl (by decide) rfl ?_
              refine j_iinc (lo' := [(4, _), (3, _), (5, _), (0, _), (1, _), (2, _)]) dX8_isWhatIsLeft_55 rfl rfl (by decide) rfl ?_
              refine j_goto (tgt := 5) dX8_isWhatIsLeft_58 (by decide) ?_
              exact j_lo2 (ih _ _ (z_ms c_11 h1)) (z_q1 rfl (z_q1 rfl (z_q1 rfl (z_q1 rfl (z_q1 rfl z_q0)))))
            · refine j_iconst (v := 0) dX8_isWhatIsLeft_50 (by decide) ?_
              refine j_iret dX8_isWhatIsLeft_51 rfl rfl ?_ (Nat.le_of_ble_eq_true rfl) (Nat.le_of_ble_eq_true rfl)
              first | exact ⟨rfl, rfl, ⟨true, rfl⟩, rfl⟩ | exact ⟨rfl, rfl, ⟨false, rfl⟩, rfl⟩
  exact j_lo2 (loop _ _ _ (Nat.lt_succ_self _)) (z_q1 rfl (z_q1 rfl (z_q1 rfl (z_q1 rfl (z_q1 rfl z_q0)))))
set_option maxRecDepth 100000 in
set_option maxHeartbeats 8000000 in
theorem c_X8_mixedRow (hl : l.stackTraces = false) (m fx : Int32) (f c : Nat → Int32) (a : Int64) : z_CF G l mX8_mixedRow 12 0 0 [.inr (6, [.ref 1, .ref 2, .int m, .int fx]), z_ia 12 f, .inr (11, [.ref 3]), z_ia 7 c] [.long a, .ref 0] (fun v L => (∃ x : Int64, v = some (.long x)) ∧ L = [.inr (6, [.ref 1, .ref 2, .int m, .int fx]), z_ia 12 f, .inr (11, [.ref 3]), z_ia 7 c]) := by
  refine z_body hl (by decide) rfl (Nat.le_of_ble_eq_true rfl) ?_
  show z_J G l mX8_mixedRow (z_SF 12 0 0 [.inr (6, [.ref 1, .ref 2, .int m, .int fx]), z_ia 12 f, .inr (11, [.ref 3]), z_ia 7 c] (fun v L => (∃ x : Int64, v = some (.long x)) ∧ L = [.inr (6, [.ref 1, .ref 2, .int m, .int fx]), z_ia 12 f, .inr (11, [.ref 3]), z_ia 7 c])) 0 [(0, _), (2, _)] [] _ 0 0
  refine j_lload_n dX8_mixedRow_0 rfl ?_
  refine j_aload_n dX8_mixedRow_1 rfl rfl ?_
  refine j_getf dX8_mixedRow_2 fX8_68 rfl rfl ?_
  refine j_callS dX8_mixedRow_5 kX8_mixed lX8_277 stX8_mixed (c_X8_mixed hl _ _ _) (Nat.le_of_ble_eq_true rfl) ⟨(Nat.le_of_ble_eq_true rfl), (Nat.le_of_ble_eq_true rfl)⟩ rfl (Nat.le_of_ble_eq_true rfl) rfl rfl (fun _ _ h => h.elim) ?_
  rintro _ _ ⟨⟨_, rfl⟩, rfl⟩
  refine j_lstore_n (lo' := [(3, _), (0, _), (2, _)]) dX8_mixedRow_8 (by decide) rfl ?_
  refine j_iconst (v := 0) dX8_mixedRow_9 (by decide) ?_
  refine j_istore (lo' := [(5, _), (3, _), (0, _), (2, _)]) dX8_mixedRow_10 (by decide) rfl ?_
  have loop : ∀ (n : Nat) (p : Int32) (q : Int64), ((m).toInt - (p).toInt).toNat < n → z_J G l mX8_mixedRow (z_SF 12 0 0 [.inr (6, [.ref 1, .ref 2, .int m, .int fx]), z_ia 12 f, .inr (11, [.ref 3]), z_ia 7 c] (fun v L => (∃ x : Int64, v = some (.long x)) ∧ L = [.inr (6, [.ref 1, .ref 2, .int m, .int fx]), z_ia 12 f, .inr (11, [.ref 3]), z_ia 7 c])) 12 [(0, .long a), (2, .ref 0), (3, .long q), (5, .int p)] [] ([.inr (6, [.ref 1, .ref 2, .int m, .int fx]), z_ia 12 f, .inr (11, [.ref 3]), z_ia 7 c], z_no) 0 0 := by
    intro n
    induction n with
    | zero => intro p q h1; exact absurd h1 (Nat.not_lt_zero _)
    | succ n ih =>
      intro p q h1
      refine j_iload dX8_mixedRow_12 rfl ?_
      refine j_aload_n dX8_mixedRow_14 rfl rfl ?_
      refine j_getf dX8_mixedRow_15 fX8_68 rfl rfl ?_
      refine j_icmp_ge (tgt := 38) dX8_mixedRow_18 (by decide) (fun c_18 => ?_) (fun c_18 => ?_)
      · refine j_lload_n dX8_mixedRow_38 rfl ?_
        refine j_aload_n dX8_mixedRow_39 rfl rfl ?_
        refine j_getf dX8_mixedRow_40 fX8_79 rfl rfl ?_
        refine j_callS dX8_mixedRow_43 kX8_oneIf lX8_83 stX8_oneIf (c_X8_oneIf hl _ _) (Nat.le_of_ble_eq_true rfl) ⟨(Nat.le_of_ble_eq_true rfl), (Nat.le_of_ble_eq_true rfl)⟩ rfl (Nat.le_of_ble_eq_true rfl) rfl rfl (fun _ _ h => h.elim) ?_
        rintro _ _ ⟨⟨_, rfl⟩, rfl⟩
        refine j_callS dX8_mixedRow_46 kX8_mixed lX8_277 stX8_mixed (c_X8_mixed hl _ _ _) (Nat.le_of_ble_eq_true rfl) ⟨(Nat.le_of_ble_eq_true rfl), (Nat.le_of_ble_eq_true rfl)⟩ rfl (Nat.le_of_ble_eq_true rfl) rfl rfl (fun _ _ h => h.elim) ?_
        rintro _ _ ⟨⟨_, rfl⟩, rfl⟩
        refine j_lstore_n (lo' := [(3, _), (0, _), (2, _), (5, _)]) dX8_mixedRow_49 (by decide) rfl ?_
        refine j_iconst (v := 0) dX8_mixedRow_50 (by decide) ?_
        refine j_istore (lo' := [(5, _), (3, _), (0, _), (2, _)]) dX8_mixedRow_51 (by decide) rfl ?_
        have loop2 : ∀ (n j : Nat) (q : Int64), j ≤ 5 → 5 < j + n → z_J G l mX8_mixedRow (z_SF 12 0 0 [.inr (6, [.ref 1, .ref 2, .int m, .int fx]), z_ia 12 f, .inr (11, [.ref 3]), z_ia 7 c] (fun v L => (∃ x : Int64, v = some (.long x)) ∧ L = [.inr (6, [.ref 1, .ref 2, .int m, .int fx]), z_ia 12 f, .inr (11, [.ref 3]), z_ia 7 c])) 53 [(0, .long a), (2, .ref 0), (3, .long q), (5, .int (nI j))] [] ([.inr (6, [.ref 1, .ref 2, .int m, .int fx]), z_ia 12 f, .inr (11, [.ref 3]), z_ia 7 c], z_no) 0 0 := by
          intro n
          induction n with
          | zero => intro j q h1 h2 ; exact absurd h2 (by omega)
          | succ n ih =>
            intro j q h1 h2
            refine j_iload dX8_mixedRow_53 rfl ?_
            refine j_iconst (v := 4) dX8_mixedRow_55 (by decide) ?_
            refine j_icmp_gt (tgt := 79) dX8_mixedRow_56 (by decide) (fun c_56 => ?_) (fun c_56 => ?_)
            · refine j_lload_n dX8_mixedRow_79 rfl ?_
              refine j_lret dX8_mixedRow_80 rfl ?_ (Nat.le_of_ble_eq_true rfl) (Nat.le_of_ble_eq_true rfl)
              exact ⟨rfl, rfl, ⟨_, rfl⟩, rfl⟩
            · have hj : j ≤ 4 := z_leZ 4 rfl c_56 (by omega) (by decide)
              refine j_lload_n dX8_mixedRow_59 rfl ?_
              refine j_aload_n dX8_mixedRow_60 rfl rfl ?_
              refine j_getf dX8_mixedRow_61 fX8_214 rfl rfl ?_
              refine j_iload dX8_mixedRow_64 rfl ?_
              refine j_callV (q := (RX6, TX6, 1)) dX8_mixedRow_66 kX6_of lX8_218 inX6_of seX6_of rfl rfl (z_frame [2, 3] rfl (by decide) (Nat.le_of_ble_eq_true rfl) (c_X6_of hl _ _)) (Nat.le_of_ble_eq_true rfl) ⟨(Nat.le_of_ble_eq_true rfl), (Nat.le_of_ble_eq_true rfl)⟩ rfl (Nat.le_of_ble_eq_true rfl) rfl rfl (fun _ _ h => h.elim) ?_
              rintro _ _ ⟨_, _, ⟨_, rfl, rfl⟩, rfl, rfl⟩
              refine j_w ([.inr (6, [_, _, _, _]), z_ia 12 _, .inr (11, [_]), z_ia 7 _], z_no) rfl ?_
              refine j_callS dX8_mixedRow_69 kX8_mixed lX8_277 stX8_mixed (c_X8_mixed hl _ _ _) (Nat.le_of_ble_eq_true rfl) ⟨(Nat.le_of_ble_eq_true rfl), (Nat.le_of_ble_eq_true rfl)⟩ rfl (Nat.le_of_ble_eq_true rfl) rfl rfl (fun _ _ h => h.elim) ?_
              rintro _ _ ⟨⟨_, rfl⟩, rfl⟩
              refine j_lstore_n (lo' := [(3, _), (0, _), (2, _), (5, _)]) dX8_mixedRow_72 (by decide) rfl ?_
              refine j_iinc (lo' := [(5, _), (3, _), (0, _), (2, _)]) dX8_mixedRow_73 rfl (z_inc _) (by decide) rfl ?_
              refine j_goto (tgt := 53) dX8_mixedRow_76 (by decide) ?_
              exact j_lo2 (ih (j + 1) _ (by omega) (by omega)) (z_q1 rfl (z_q1 rfl (z_q1 rfl (z_q1 rfl z_q0))))
        exact j_lo2 (loop2 (5 + 1) 0 _ (by omega) (by omega)) (z_q1 rfl (z_q1 rfl (z_q1 rfl (z_q1 rfl z_q0))))
      · refine j_lload_n dX8_mixedRow_21 rfl ?_
        refine j_aload_n dX8_mixedRow_22 rfl rfl ?_
        refine j_iload dX8_mixedRow_23 rfl ?_
        refine j_callV (q := (RX1, TX1, 4)) dX8_mixedRow_25 kX1_valueAt lX8_203 inX1_valueAt seX1_valueAt rfl rfl (z_frame [0, 1, 2, 3] rfl (by decide) (Nat.le_of_ble_eq_true rfl) (c_X1_valueAt hl _ _ _ _ _)) (Nat.le_of_ble_eq_true rfl) ⟨(Nat.le_of_ble_eq_true rfl), (Nat.le_of_ble_eq_true rfl)⟩ rfl (Nat.le_of_ble_eq_true rfl) rfl rfl (fun _ _ h => h.elim) ?_
        rintro _ _ ⟨_, _, ⟨_, rfl, rfl⟩, rfl, rfl⟩
        refine j_w ([.inr (6, [_, _, _, _]), z_ia 12 _, .inr (11, [_]), z_ia 7 _], z_no) rfl ?_
        refine j_callS dX8_mixedRow_28 kX8_mixed lX8_277 stX8_mixed (c_X8_mixed hl _ _ _) (Nat.le_of_ble_eq_true rfl) ⟨(Nat.le_of_ble_eq_true rfl), (Nat.le_of_ble_eq_true rfl)⟩ rfl (Nat.le_of_ble_eq_true rfl) rfl rfl (fun _ _ h => h.elim) ?_
        rintro _ _ ⟨⟨_, rfl⟩, rfl⟩
        refine j_lstore_n (lo' := [(3, _), (0, _), (2, _), (5, _)]) dX8_mixedRow_31 (by decide) rfl ?_
        refine j_iinc (lo' := [(5, _), (3, _), (0, _), (2, _)]) dX8_mixedRow_32 rfl rfl (by decide) rfl ?_
        refine j_goto (tgt := 12) dX8_mixedRow_35 (by decide) ?_
        exact j_lo2 (ih _ _ (z_ms c_18 h1)) (z_q1 rfl (z_q1 rfl (z_q1 rfl (z_q1 rfl z_q0))))
  exact j_lo2 (loop _ _ _ (Nat.lt_succ_self _)) (z_q1 rfl (z_q1 rfl (z_q1 rfl (z_q1 rfl z_q0))))
set_option maxRecDepth 100000 in
set_option maxHeartbeats 8000000 in
theorem c_X8_mixedTable (hl : l.stackTraces = false) (f g c : Nat → Int32) (m so : Int32) (a : Int64) : z_CF G l mX8_mixedTable 12 0 0 [.inr (9, [.int so, .ref 1, .ref 2, .ref 3, .int m]), z_ia 20 f, z_ia 20 g, .inr (11, [.ref 4]), z_ia 7 c] [.long a, .ref 0] (fun v L => (∃ x : Int64, v = some (.long x)) ∧ L = [.inr (9, [.int so, .ref 1, .ref 2, .ref 3, .int m]), z_ia 20 f, z_ia 20 g, .inr (11, [.ref 4]), z_ia 7 c]) := by
  refine z_body hl (by decide) rfl (Nat.le_of_ble_eq_true rfl) ?_
  show z_J G l mX8_mixedTable (z_SF 12 0 0 [.inr (9, [.int so, .ref 1, .ref 2, .ref 3, .int m]), z_ia 20 f, z_ia 20 g, .inr (11, [.ref 4]), z_ia 7 c] (fun v L => (∃ x : Int64, v = some (.long x)) ∧ L = [.inr (9, [.int so, .ref 1, .ref 2, .ref 3, .int m]), z_ia 20 f, z_ia 20 g, .inr (11, [.ref 4]), z_ia 7 c])) 0 [(0, _), (2, _)] [] _ 0 0
  refine j_lload_n dX8_mixedTable_0 rfl ?_
  refine j_aload_n dX8_mixedTable_1 rfl rfl ?_
  refine j_getf dX8_mixedTable_2 fX8_165 rfl rfl ?_
  refine j_callS dX8_mixedTable_5 kX8_mixed lX8_277 stX8_mixed (c_X8_mixed hl _ _ _) (Nat.le_of_ble_eq_true rfl) ⟨(Nat.le_of_ble_eq_true rfl), (Nat.le_of_ble_eq_true rfl)⟩ rfl (Nat.le_of_ble_eq_true rfl) rfl rfl (fun _ _ h => h.elim) ?_
  rintro _ _ ⟨⟨_, rfl⟩, rfl⟩
  refine j_lstore_n (lo' := [(3, _), (0, _), (2, _)]) dX8_mixedTable_8 (by decide) rfl ?_
  refine j_iconst (v := 0) dX8_mixedTable_9 (by decide) ?_
  refine j_istore (lo' := [(5, _), (3, _), (0, _), (2, _)]) dX8_mixedTable_10 (by decide) rfl ?_
  have loop : ∀ (n : Nat) (p : Int32) (q : Int64), ((m).toInt - (p).toInt).toNat < n → z_J G l mX8_mixedTable (z_SF 12 0 0 [.inr (9, [.int so, .ref 1, .ref 2, .ref 3, .int m]), z_ia 20 f, z_ia 20 g, .inr (11, [.ref 4]), z_ia 7 c] (fun v L => (∃ x : Int64, v = some (.long x)) ∧ L = [.inr (9, [.int so, .ref 1, .ref 2, .ref 3, .int m]), z_ia 20 f, z_ia 20 g, .inr (11, [.ref 4]), z_ia 7 c])) 12 [(0, .long a), (2, .ref 0), (3, .long q), (5, .int p)] [] ([.inr (9, [.int so, .ref 1, .ref 2, .ref 3, .int m]), z_ia 20 f, z_ia 20 g, .inr (11, [.ref 4]), z_ia 7 c], z_no) 0 0 := by
    intro n
    induction n with
    | zero => intro p q h1; exact absurd h1 (Nat.not_lt_zero _)
    | succ n ih =>
      intro p q h1
      refine j_iload dX8_mixedTable_12 rfl ?_
      refine j_aload_n dX8_mixedTable_14 rfl rfl ?_
      refine j_getf dX8_mixedTable_15 fX8_165 rfl rfl ?_
      refine j_icmp_ge (tgt := 51) dX8_mixedTable_18 (by decide) (fun c_18 => ?_) (fun c_18 => ?_)
      · refine j_lload_n dX8_mixedTable_51 rfl ?_
        refine j_lret dX8_mixedTable_52 rfl ?_ (Nat.le_of_ble_eq_true rfl) (Nat.le_of_ble_eq_true rfl)
        exact ⟨rfl, rfl, ⟨_, rfl⟩, rfl⟩
      · refine j_aload_n dX8_mixedTable_21 rfl rfl ?_
        refine j_iload dX8_mixedTable_22 rfl ?_
        refine j_callV (q := (RX4, TX4, 5)) dX8_mixedTable_24 kX4_keyAt lX8_352 inX4_keyAt seX4_keyAt rfl rfl (z_frame [0, 1, 2, 3, 4] rfl (by decide) (Nat.le_of_ble_eq_true rfl) (c_X4_keyAt hl _ _ _ _ _ _)) (Nat.le_of_ble_eq_true rfl) ⟨(Nat.le_of_ble_eq_true rfl), (Nat.le_of_ble_eq_true rfl)⟩ rfl (Nat.le_of_ble_eq_true rfl) rfl rfl (fun _ _ h => h.elim) ?_
        rintro _ _ ⟨_, _, ⟨_, rfl, rfl⟩, rfl, rfl⟩
        refine j_w ([.inr (9, [_, _, _, _, _]), z_ia 20 _, z_ia 20 _, .inr (11, [_]), z_ia 7 _], z_no) rfl ?_
        refine j_istore (lo' := [(6, _), (0, _), (2, _), (3, _), (5, _)]) dX8_mixedTable_27 (by decide) rfl ?_
        refine j_lload_n dX8_mixedTable_29 rfl ?_
        refine j_iload dX8_mixedTable_30 rfl ?_
        refine j_callS dX8_mixedTable_32 kX8_mixed lX8_277 stX8_mixed (c_X8_mixed hl _ _ _) (Nat.le_of_ble_eq_true rfl) ⟨(Nat.le_of_ble_eq_true rfl), (Nat.le_of_ble_eq_true rfl)⟩ rfl (Nat.le_of_ble_eq_true rfl) rfl rfl (fun _ _ h => h.elim) ?_
        rintro _ _ ⟨⟨_, rfl⟩, rfl⟩
        refine j_aload_n dX8_mixedTable_35 rfl rfl ?_
        refine j_iload dX8_mixedTable_36 rfl ?_
        refine j_callV (q := (RX4, TX4, 5)) dX8_mixedTable_38 kX4_look lX8_137 inX4_look seX4_look rfl rfl (z_frame [0, 1, 2, 3, 4] rfl (by decide) (Nat.le_of_ble_eq_true rfl) (c_X4_look hl _ _ _ _ _ _)) (Nat.le_of_ble_eq_true rfl) ⟨(Nat.le_of_ble_eq_true rfl), (Nat.le_of_ble_eq_true rfl)⟩ rfl (Nat.le_of_ble_eq_true rfl) rfl rfl (fun _ _ h => h.elim) ?_
        rintro _ _ ⟨_, _, ⟨_, rfl, rfl⟩, rfl, rfl⟩
        refine j_w ([.inr (9, [_, _, _, _, _]), z_ia 20 _, z_ia 20 _, .inr (11, [_]), z_ia 7 _], z_no) rfl ?_
        refine j_callS dX8_mixedTable_41 kX8_mixed lX8_277 stX8_mixed (c_X8_mixed hl _ _ _) (Nat.le_of_ble_eq_true rfl) ⟨(Nat.le_of_ble_eq_true rfl), (Nat.le_of_ble_eq_true rfl)⟩ rfl (Nat.le_of_ble_eq_true rfl) rfl rfl (fun _ _ h => h.elim) ?_
        rintro _ _ ⟨⟨_, rfl⟩, rfl⟩
        refine j_lstore_n (lo' := [(3, _), (6, _), (0, _), (2, _), (5, _)]) dX8_mixedTable_44 (by decide) rfl ?_
        refine j_iinc (lo' := [(5, _), (3, _), (6, _), (0, _), (2, _)]) dX8_mixedTable_45 rfl rfl (by decide) rfl ?_
        refine j_goto (tgt := 12) dX8_mixedTable_48 (by decide) ?_
        exact j_lo2 (ih _ _ (z_ms c_18 h1)) (z_q1 rfl (z_q1 rfl (z_q1 rfl (z_q1 rfl z_q0))))
  exact j_lo2 (loop _ _ _ (Nat.lt_succ_self _)) (z_q1 rfl (z_q1 rfl (z_q1 rfl (z_q1 rfl z_q0))))
end ZL4
