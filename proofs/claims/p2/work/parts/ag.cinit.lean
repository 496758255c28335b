section ZCi
variable {G : z_G} {l : Launch}
theorem z_tba.nl {f g : Nat → Int32} (h : ∀ k, k < 20 → f k = -1000) : z_tba f g [] := ⟨⟨List.nodup_nil, fun _ h => by cases h⟩, h, z_sq.nil⟩
theorem z_row.nl {N : Nat} {f : Nat → Int32} : z_row N (nI ([] : List Int32).length) f [] := z_row.nil
theorem q_fill {f : Nat → Int32} {j : Nat} {x : Int32} (hj : j < 20) (hf : ∀ q, q < j → f q = x) : ∀ q, q < j + 1 → z_ui f (nI j).toNatClampNeg x q = x := fun q hq => by
  rw [z_cla (by omega)]
  rcases Nat.lt_succ_iff_lt_or_eq.mp hq with z | z
  · rw [z_ui_ne (by omega)]; exact hf q z
  · rw [z, z_ui_self]
set_option maxRecDepth 100000 in
set_option maxHeartbeats 8000000 in
theorem c_X6_init_z (hl : l.stackTraces = false)  : z_CN G l mX6_init 10 1 7 1 [.inr (11, [.null])] [.ref 0] (fun v L => v = none ∧ L = [.inr (11, [.ref 1]), z_ia 7 (fun _ => 0)]) := by
  refine z_body hl (by decide) rfl (Nat.le_of_ble_eq_true rfl) ?_
  show z_J G l mX6_init (z_SN 10 1 7 1 [.inr (11, [.null])] (fun v L => v = none ∧ L = [.inr (11, [.ref 1]), z_ia 7 (fun _ => 0)])) 0 [(0, _)] [] _ 0 0
  refine j_aload_n dX6_init_0 rfl rfl ?_
  refine j_objI dX6_init_1 oX6_3 z_oi1 z_oi2 (Nat.le_of_ble_eq_true rfl) (Nat.le_of_ble_eq_true rfl) ?_
  refine j_aload_n dX6_init_4 rfl rfl ?_
  refine j_bipush (v := 7) dX6_init_5 (by decide) ?_
  refine j_newa (kd := 0) (N := 7) (w' := ([.inr (11, [_]), _], z_no)) (n := 1) dX6_init_7 rfl rfl arc_int ⟨rfl, fun _ _ h => h⟩ (by decide) rfl (by decide) rfl (z_al_l rfl rfl) (Nat.le_of_ble_eq_true rfl) (Nat.le_of_ble_eq_true rfl) ?_
  refine j_putF (w' := ([.inr (11, [_]), _], z_no)) dX6_init_9 fX6_9 tX6_0 rfl (z_dc rfl rfl (z_w 103 ((lwg_1 58).trans (by decide +kernel)) (by decide +kernel))) rfl (Or.inr ⟨_, rfl⟩) rfl ?_
  refine j_vret dX6_init_12 rfl ?_ (Nat.le_of_ble_eq_true rfl) (Nat.le_of_ble_eq_true rfl)
  exact ⟨rfl, (Nat.le_of_ble_eq_true rfl), rfl, rfl⟩
set_option maxRecDepth 100000 in
set_option maxHeartbeats 8000000 in
theorem c_X1_init_z (hl : l.stackTraces = false)  : z_CN G l mX1_init 11 3 20 3 [.inr (6, [.null, .null, .int 0, .int 0])] [.ref 0] (fun v L => v = none ∧ ∃ f : Nat → Int32, L = [.inr (6, [.ref 1, .ref 2, .int 0, .int 0]), z_ia 12 f, .inr (11, [.ref 3]), z_ia 7 (fun _ => 0)]) := by
  refine z_body hl (by decide) rfl (Nat.le_of_ble_eq_true rfl) ?_
  show z_J G l mX1_init (z_SN 11 3 20 3 [.inr (6, [.null, .null, .int 0, .int 0])] (fun v L => v = none ∧ ∃ f : Nat → Int32, L = [.inr (6, [.ref 1, .ref 2, .int 0, .int 0]), z_ia 12 f, .inr (11, [.ref 3]), z_ia 7 (fun _ => 0)])) 0 [(0, _)] [] _ 0 0
  refine j_aload_n dX1_init_0 rfl rfl ?_
  refine j_objI dX1_init_1 oX1_3 z_oi1 z_oi2 (Nat.le_of_ble_eq_true rfl) (Nat.le_of_ble_eq_true rfl) ?_
  refine j_aload_n dX1_init_4 rfl rfl ?_
  refine j_bipush (v := 12) dX1_init_5 (by decide) ?_
  refine j_newa (kd := 0) (N := 12) (w' := ([.inr (6, [_, _, _, _]), _], z_no)) (n := 1) dX1_init_7 rfl rfl arc_int ⟨rfl, fun _ _ h => h⟩ (by decide) rfl (by decide) rfl (z_al_l rfl rfl) (Nat.le_of_ble_eq_true rfl) (Nat.le_of_ble_eq_true rfl) ?_
  refine j_putF (w' := ([.inr (6, [_, _, _, _]), _], z_no)) dX1_init_9 fX1_9 tX1_0 rfl (z_dc rfl rfl (z_w 108 ((lwg_1 63).trans (by decide +kernel)) (by decide +kernel))) rfl (Or.inr ⟨_, rfl⟩) rfl ?_
  refine j_aload_n dX1_init_12 rfl rfl ?_
  refine j_new (w' := ([.inr (6, [_, _, _, _]), _, _], z_no)) (n := 2) dX1_init_13 nX1_15 rfl (z_al_l rfl rfl) (Nat.le_of_ble_eq_true rfl) (Nat.le_of_ble_eq_true rfl) ?_
  refine j_dup dX1_init_16 rfl ?_
  refine j_callIN dX1_init_17 kX6_init rfl lX1_17 inX6_init rfl (z_frameN [2] rfl (by decide) (Nat.le_of_ble_eq_true rfl) (Nat.le_of_ble_eq_true rfl) (c_X6_init_z hl)) (Nat.le_of_ble_eq_true rfl) ⟨(Nat.le_of_ble_eq_true rfl), (Nat.le_of_ble_eq_true rfl)⟩ rfl (Nat.le_of_ble_eq_true rfl) rfl rfl (fun _ _ h => h.elim) ?_
  rintro _ _ ⟨_, _, ⟨rfl, rfl⟩, rfl, rfl⟩
  refine j_w ([.inr (6, [_, _, _, _]), _, _, _], z_no) rfl ?_
  refine j_putF (w' := ([.inr (6, [_, _, _, _]), _, _, _], z_no)) dX1_init_20 fX1_18 tX1_1 rfl (z_dc rfl rfl (z_w 111 ((lwg_1 66).trans (by decide +kernel)) (by decide +kernel))) rfl (Or.inl ⟨_, rfl⟩) rfl ?_
  refine j_vret dX1_init_23 rfl ?_ (Nat.le_of_ble_eq_true rfl) (Nat.le_of_ble_eq_true rfl)
  exact ⟨rfl, (Nat.le_of_ble_eq_true rfl), rfl, _, rfl⟩
set_option maxRecDepth 100000 in
set_option maxHeartbeats 8000000 in
theorem c_X4_init_z (hl : l.stackTraces = false) (b : Bool) : z_CN G l mX4_init 12 4 48 4 [.inr (9, [.int 0, .null, .null, .null, .int 0])] [.ref 0, .int (z_bi b)] (fun v L => v = none ∧ ∃ (f g : Nat → Int32), (∀ k, k < 20 → f k = -1000) ∧ L = [.inr (9, [.int (z_bi b), .ref 1, .ref 2, .ref 3, .int 0]), z_ia 20 f, z_ia 20 g, .inr (11, [.ref 4]), z_ia 7 (fun _ => 0)]) := by
  refine z_body hl (by decide) rfl (Nat.le_of_ble_eq_true rfl) ?_
  show z_J G l mX4_init (z_SN 12 4 48 4 [.inr (9, [.int 0, .null, .null, .null, .int 0])] (fun v L => v = none ∧ ∃ (f g : Nat → Int32), (∀ k, k < 20 → f k = -1000) ∧ L = [.inr (9, [.int (z_bi b), .ref 1, .ref 2, .ref 3, .int 0]), z_ia 20 f, z_ia 20 g, .inr (11, [.ref 4]), z_ia 7 (fun _ => 0)])) 0 [(0, _), (1, _)] [] _ 0 0
  refine j_aload_n dX4_init_0 rfl rfl ?_
  refine j_objI dX4_init_1 oX4_3 z_oi1 z_oi2 (Nat.le_of_ble_eq_true rfl) (Nat.le_of_ble_eq_true rfl) ?_
  refine j_aload_n dX4_init_4 rfl rfl ?_
  refine j_bipush (v := 20) dX4_init_5 (by decide) ?_
  refine j_newa (kd := 0) (N := 20) (w' := ([.inr (9, [_, _, _, _, _]), _], z_no)) (n := 1) dX4_init_7 rfl rfl arc_int ⟨rfl, fun _ _ h => h⟩ (by decide) rfl (by decide) rfl (z_al_l rfl rfl) (Nat.le_of_ble_eq_true rfl) (Nat.le_of_ble_eq_true rfl) ?_
  refine j_putF (w' := ([.inr (9, [_, _, _, _, _]), _], z_no)) dX4_init_9 fX4_9 tX4_1 rfl (z_dc rfl rfl (z_w 136 ((lwg_1 91).trans (by decide +kernel)) (by decide +kernel))) rfl (Or.inr ⟨_, rfl⟩) rfl ?_
  refine j_aload_n dX4_init_12 rfl rfl ?_
  refine j_bipush (v := 20) dX4_init_13 (by decide) ?_
  refine j_newa (kd := 0) (N := 20) (w' := ([.inr (9, [_, _, _, _, _]), _, _], z_no)) (n := 2) dX4_init_15 rfl rfl arc_int ⟨rfl, fun _ _ h => h⟩ (by decide) rfl (by decide) rfl (z_al_l rfl rfl) (Nat.le_of_ble_eq_true rfl) (Nat.le_of_ble_eq_true rfl) ?_
  refine j_putF (w' := ([.inr (9, [_, _, _, _, _]), _, _], z_no)) dX4_init_17 fX4_15 tX4_2 rfl (z_dc rfl rfl (z_w 137 ((lwg_1 92).trans (by decide +kernel)) (by decide +kernel))) rfl (Or.inr ⟨_, rfl⟩) rfl ?_
  refine j_aload_n dX4_init_20 rfl rfl ?_
  refine j_new (w' := ([.inr (9, [_, _, _, _, _]), _, _, _], z_no)) (n := 3) dX4_init_21 nX4_18 rfl (z_al_l rfl rfl) (Nat.le_of_ble_eq_true rfl) (Nat.le_of_ble_eq_true rfl) ?_
  refine j_dup dX4_init_24 rfl ?_
  refine j_callIN dX4_init_25 kX6_init rfl lX4_20 inX6_init rfl (z_frameN [3] rfl (by decide) (Nat.le_of_ble_eq_true rfl) (Nat.le_of_ble_eq_true rfl) (c_X6_init_z hl)) (Nat.le_of_ble_eq_true rfl) ⟨(Nat.le_of_ble_eq_true rfl), (Nat.le_of_ble_eq_true rfl)⟩ rfl (Nat.le_of_ble_eq_true rfl) rfl rfl (fun _ _ h => h.elim) ?_
  rintro _ _ ⟨_, _, ⟨rfl, rfl⟩, rfl, rfl⟩
  refine j_w ([.inr (9, [_, _, _, _, _]), _, _, _, _], z_no) rfl ?_
  refine j_putF (w' := ([.inr (9, [_, _, _, _, _]), _, _, _, _], z_no)) dX4_init_28 fX4_21 tX4_3 rfl (z_dc rfl rfl (z_w 139 ((lwg_1 94).trans (by decide +kernel)) (by decide +kernel))) rfl (Or.inl ⟨_, rfl⟩) rfl ?_
  refine j_aload_n dX4_init_31 rfl rfl ?_
  refine j_iload_n dX4_init_32 rfl ?_
  refine j_putF (w' := ([.inr (9, [_, _, _, _, _]), _, _, _, _], z_no)) dX4_init_33 fX4_25 tX4_0 rfl (z_dc rfl rfl (z_w 135 ((lwg_1 90).trans (by decide +kernel)) (by decide +kernel))) rfl ⟨z_bn _, z_bf _⟩ rfl ?_
  refine j_iconst (v := 0) dX4_init_36 (by decide) ?_
  refine j_istore_n (lo' := [(2, _), (0, _), (1, _)]) dX4_init_37 (by decide) rfl ?_
  have loop : ∀ (n j : Nat) (f' : Nat → Int32), j ≤ 20 → 20 < j + n → (∀ q, q < j → f' q = -1000) → z_J G l mX4_init (z_SN 12 4 48 4 [.inr (9, [.int 0, .null, .null, .null, .int 0])] (fun v L => v = none ∧ ∃ (f g : Nat → Int32), (∀ k, k < 20 → f k = -1000) ∧ L = [.inr (9, [.int (z_bi b), .ref 1, .ref 2, .ref 3, .int 0]), z_ia 20 f, z_ia 20 g, .inr (11, [.ref 4]), z_ia 7 (fun _ => 0)])) 38 [(0, .ref 0), (2, .int (nI j))] [] ([.inr (9, [.int (z_bi b), .ref 1, .ref 2, .ref 3, .int 0]), z_ia 20 f', z_ia 20 (fun _ => 0), .inr (11, [.ref 4]), z_ia 7 (fun _ => 0)], z_no) 4 48 := by
    intro n
    induction n with
    | zero => intro j f' h1 h2 hf; exact absurd h2 (by omega)
    | succ n ih =>
      intro j f' h1 h2 hf
      refine j_iload_n dX4_init_38 rfl ?_
      refine j_aload_n dX4_init_39 rfl rfl ?_
      refine j_getf dX4_init_40 fX4_9 rfl rfl ?_
      refine j_alen dX4_init_43 rfl rfl rfl ?_
      refine j_icmp_ge (tgt := 62) dX4_init_44 (by decide) (fun c_44 => ?_) (fun c_44 => ?_)
      · refine j_vret dX4_init_62 rfl ?_ (Nat.le_of_ble_eq_true rfl) (Nat.le_of_ble_eq_true rfl)
        exact ⟨rfl, (Nat.le_of_ble_eq_true rfl), rfl, _, _, (fun k hk => hf k (by have h9 := z_geI c_44 (by omega) (by decide); omega)), rfl⟩
      · have hj : j < 20 := z_ltI c_44 (by omega) (by decide)
        refine j_aload_n dX4_init_47 rfl rfl ?_
        refine j_getf dX4_init_48 fX4_9 rfl rfl ?_
        refine j_iload_n dX4_init_51 rfl ?_
        refine j_sipush (v := (-1000)) dX4_init_52 (by decide) ?_
        refine j_sto (w' := ([.inr (9, [_, _, _, _, _]), z_ia 20 _, z_ia 20 _, .inr (11, [_]), z_ia 7 _], z_no)) dX4_init_55 rfl (vp_in_nI hj (by decide)) rfl ?_
        refine j_iinc (lo' := [(2, _), (0, _)]) dX4_init_56 rfl (z_inc _) (by decide) rfl ?_
        refine j_goto (tgt := 38) dX4_init_59 (by decide) ?_
        exact j_lo2 (ih (j + 1) _ (by omega) (by omega) (q_fill hj hf)) (z_q1 rfl (z_q1 rfl z_q0))
  exact j_lo2 (loop (20 + 1) 0 _ (by omega) (by omega) (fun q hq => absurd hq (Nat.not_lt_zero _))) (z_q1 rfl (z_q1 rfl z_q0))
set_option maxRecDepth 100000 in
theorem sp_cw0 {fa : Nat → Int32} {fb : Nat → Int32} {mt : Int32} {ft : Nat → Int32} {ct : Nat → Int32} {f0 : Nat → Int32} {g0 : Nat → Int32} {f1 : Nat → Int32} {g1 : Nat → Int32} {c1 : Nat → Int32} {f2 : Nat → Int32} {g2 : Nat → Int32} {c2 : Nat → Int32} {f3 : Nat → Int32} {g3 : Nat → Int32} {c3 : Nat → Int32} {f4 : Nat → Int32} {g4 : Nat → Int32} {c4 : Nat → Int32} {f5 : Nat → Int32} {g5 : Nat → Int32} {c5 : Nat → Int32} {ef0 : Nat → Int32} {ef1 : Nat → Int32} (h0 : ∀ k, k < 20 → f0 k = -1000) (h1 : ∀ k, k < 20 → f1 k = -1000) (h2 : ∀ k, k < 20 → f2 k = -1000) : sp_CW sp_S0 ((z_cw 0 0 0 false fa (fun _ => 0) 0 false fb (fun _ => 0) mt false ft ct f0 g0 (fun _ => 0) 0 0 f1 g1 c1 0 0 f2 g2 c2 0 1 f3 g3 c3 0 0 f4 g4 c4 0 0 f5 g5 c5 0 1 0 0 0 (-1) (-1000) ef0 0 0 0 (-1) (-1000) ef1 [])) :=
  ⟨fa, fb, mt, false, ft, ct, f0, g0, f1, g1, c1, f2, g2, c2, f3, g3, c3, 0, f4, g4, c4, 0, f5, g5, c5, 0, ef0, ef1, z_row.nl, z_row.nl, z_tba.nl h0, z_tba.nl h1, z_tba.nl h2, z_row.nl, z_row.nl, z_m20z, z_m20z, z_m20z, rfl⟩
set_option maxRecDepth 100000 in
set_option maxHeartbeats 8000000 in
theorem c_X8_init_z (hl : l.stackTraces = false)  : z_CN G l mX8_init 14 50 440 50 [.inr (12, [.null, .null, .null, .null, .null, .null, .null, .int 0, .int 0])] [.ref 0] (fun v L => v = none ∧ sp_CW sp_S0 L) := by
  refine z_body hl (by decide) rfl (Nat.le_of_ble_eq_true rfl) ?_
  show z_J G l mX8_init (z_SN 14 50 440 50 [.inr (12, [.null, .null, .null, .null, .null, .null, .null, .int 0, .int 0])] (fun v L => v = none ∧ sp_CW sp_S0 L)) 0 [(0, _)] [] _ 0 0
  refine j_aload_n dX8_init_0 rfl rfl ?_
  refine j_objI dX8_init_1 oX8_1 z_oi1 z_oi2 (Nat.le_of_ble_eq_true rfl) (Nat.le_of_ble_eq_true rfl) ?_
  refine j_aload_n dX8_init_4 rfl rfl ?_
  refine j_iconst (v := 2) dX8_init_5 (by decide) ?_
  refine j_anew (kd := 4) (N := 2) (w' := ([.inr (12, [_, _, _, _, _, _, _, _, _]), _], z_no)) (n := 1) dX8_init_6 rfl aX8_7 ao_X1 (by decide) rfl (by decide) (z_al_l rfl rfl) (Nat.le_of_ble_eq_true rfl) (Nat.le_of_ble_eq_true rfl) ?_
  refine j_dup dX8_init_9 rfl ?_
  refine j_iconst (v := 0) dX8_init_10 (by decide) ?_
  refine j_new (w' := ([.inr (12, [_, _, _, _, _, _, _, _, _]), _, _], z_no)) (n := 2) dX8_init_11 nX8_7 rfl (z_al_l rfl rfl) (Nat.le_of_ble_eq_true rfl) (Nat.le_of_ble_eq_true rfl) ?_
  refine j_dup dX8_init_14 rfl ?_
  refine j_callIN dX8_init_15 kX1_init rfl lX8_9 inX1_init rfl (z_frameN [2] rfl (by decide) (Nat.le_of_ble_eq_true rfl) (Nat.le_of_ble_eq_true rfl) (c_X1_init_z hl)) (Nat.le_of_ble_eq_true rfl) ⟨(Nat.le_of_ble_eq_true rfl), (Nat.le_of_ble_eq_true rfl)⟩ rfl (Nat.le_of_ble_eq_true rfl) rfl rfl (fun _ _ h => h.elim) ?_
  rintro _ _ ⟨_, _, ⟨rfl, _, rfl⟩, rfl, rfl⟩
  refine j_w ([.inr (12, [_, _, _, _, _, _, _, _, _]), _, _, _, _, _], z_no) rfl ?_
  refine j_aast (w' := ([.inr (12, [_, _, _, _, _, _, _, _, _]), _, _, _, _, _], z_no)) dX8_init_18 rfl rfl rfl rfl (vp_in_iff.mpr (by decide)) rfl ?_
  refine j_dup dX8_init_19 rfl ?_
  refine j_iconst (v := 1) dX8_init_20 (by decide) ?_
  refine j_new (w' := ([.inr (12, [_, _, _, _, _, _, _, _, _]), _, _, _, _, _, _], z_no)) (n := 6) dX8_init_21 nX8_7 rfl (z_al_l rfl rfl) (Nat.le_of_ble_eq_true rfl) (Nat.le_of_ble_eq_true rfl) ?_
  refine j_dup dX8_init_24 rfl ?_
  refine j_callIN dX8_init_25 kX1_init rfl lX8_9 inX1_init rfl (z_frameN [6] rfl (by decide) (Nat.le_of_ble_eq_true rfl) (Nat.le_of_ble_eq_true rfl) (c_X1_init_z hl)) (Nat.le_of_ble_eq_true rfl) ⟨(Nat.le_of_ble_eq_true rfl), (Nat.le_of_ble_eq_true rfl)⟩ rfl (Nat.le_of_ble_eq_true rfl) rfl rfl (fun _ _ h => h.elim) ?_
  rintro _ _ ⟨_, _, ⟨rfl, _, rfl⟩, rfl, rfl⟩
  refine j_w ([.inr (12, [_, _, _, _, _, _, _, _, _]), _, _, _, _, _, _, _, _, _], z_no) rfl ?_
  refine j_aast (w' := ([.inr (12, [_, _, _, _, _, _, _, _, _]), _, _, _, _, _, _, _, _, _], z_no)) dX8_init_28 rfl rfl rfl rfl (vp_in_iff.mpr (by decide)) rfl ?_
  refine j_putF (w' := ([.inr (12, [_, _, _, _, _, _, _, _, _]), _, _, _, _, _, _, _, _, _], z_no)) dX8_init_29 fX8_10 tX8_0 rfl (z_dc rfl rfl (z_w 184 ((lwg_1 139).trans (by decide +kernel)) (by decide +kernel))) rfl (Or.inr ⟨_, rfl⟩) rfl ?_
  refine j_aload_n dX8_init_32 rfl rfl ?_
  refine j_new (w' := ([.inr (12, [_, _, _, _, _, _, _, _, _]), _, _, _, _, _, _, _, _, _, _], z_no)) (n := 10) dX8_init_33 nX8_16 rfl (z_al_l rfl rfl) (Nat.le_of_ble_eq_true rfl) (Nat.le_of_ble_eq_true rfl) ?_
  refine j_dup dX8_init_36 rfl ?_
  refine j_iconst (v := 0) dX8_init_37 (by decide) ?_
  refine j_callI dX8_init_38 kX4_init rfl lX8_18 inX4_init rfl (z_frameN [10] rfl (by decide) (Nat.le_of_ble_eq_true rfl) (Nat.le_of_ble_eq_true rfl) (c_X4_init_z hl false)) (Nat.le_of_ble_eq_true rfl) ⟨(Nat.le_of_ble_eq_true rfl), (Nat.le_of_ble_eq_true rfl)⟩ rfl (Nat.le_of_ble_eq_true rfl) rfl rfl (fun _ _ h => h.elim) ?_
  rintro _ _ ⟨_, _, ⟨rfl, _, _, hf10, rfl⟩, rfl, rfl⟩
  refine j_w ([.inr (12, [_, _, _, _, _, _, _, _, _]), _, _, _, _, _, _, _, _, _, _, _, _, _, _], z_no) rfl ?_
  refine j_putF (w' := ([.inr (12, [_, _, _, _, _, _, _, _, _]), _, _, _, _, _, _, _, _, _, _, _, _, _, _], z_no)) dX8_init_41 fX8_21 tX8_1 rfl (z_dc rfl rfl (z_w 185 ((lwg_1 140).trans (by decide +kernel)) (by decide +kernel))) rfl (Or.inl ⟨_, rfl⟩) rfl ?_
  refine j_aload_n dX8_init_44 rfl rfl ?_
  refine j_iconst (v := 3) dX8_init_45 (by decide) ?_
  refine j_anew (kd := 5) (N := 3) (w' := ([.inr (12, [_, _, _, _, _, _, _, _, _]), _, _, _, _, _, _, _, _, _, _, _, _, _, _, _], z_no)) (n := 15) dX8_init_46 rfl aX8_16 ao_X4 (by decide) rfl (by decide) (z_al_l rfl rfl) (Nat.le_of_ble_eq_true rfl) (Nat.le_of_ble_eq_true rfl) ?_
  refine j_dup dX8_init_49 rfl ?_
  refine j_iconst (v := 0) dX8_init_50 (by decide) ?_
  refine j_aload_n dX8_init_51 rfl rfl ?_
  refine j_getf dX8_init_52 fX8_21 rfl rfl ?_
  refine j_aast (w' := ([.inr (12, [_, _, _, _, _, _, _, _, _]), _, _, _, _, _, _, _, _, _, _, _, _, _, _, _], z_no)) dX8_init_55 rfl rfl rfl rfl (vp_in_iff.mpr (by decide)) rfl ?_
  refine j_dup dX8_init_56 rfl ?_
  refine j_iconst (v := 1) dX8_init_57 (by decide) ?_
  refine j_new (w' := ([.inr (12, [_, _, _, _, _, _, _, _, _]), _, _, _, _, _, _, _, _, _, _, _, _, _, _, _, _], z_no)) (n := 16) dX8_init_58 nX8_16 rfl (z_al_l rfl rfl) (Nat.le_of_ble_eq_true rfl) (Nat.le_of_ble_eq_true rfl) ?_
  refine j_dup dX8_init_61 rfl ?_
  refine j_iconst (v := 0) dX8_init_62 (by decide) ?_
  refine j_callI dX8_init_63 kX4_init rfl lX8_18 inX4_init rfl (z_frameN [16] rfl (by decide) (Nat.le_of_ble_eq_true rfl) (Nat.le_of_ble_eq_true rfl) (c_X4_init_z hl false)) (Nat.le_of_ble_eq_true rfl) ⟨(Nat.le_of_ble_eq_true rfl), (Nat.le_of_ble_eq_true rfl)⟩ rfl (Nat.le_of_ble_eq_true rfl) rfl rfl (fun _ _ h => h.elim) ?_
  rintro _ _ ⟨_, _, ⟨rfl, _, _, hf16, rfl⟩, rfl, rfl⟩
  refine j_w ([.inr (12, [_, _, _, _, _, _, _, _, _]), _, _, _, _, _, _, _, _, _, _, _, _, _, _, _, _, _, _, _, _], z_no) rfl ?_
  refine j_aast (w' := ([.inr (12, [_, _, _, _, _, _, _, _, _]), _, _, _, _, _, _, _, _, _, _, _, _, _, _, _, _, _, _, _, _], z_no)) dX8_init_66 rfl rfl rfl rfl (vp_in_iff.mpr (by decide)) rfl ?_
  refine j_dup dX8_init_67 rfl ?_
  refine j_iconst (v := 2) dX8_init_68 (by decide) ?_
  refine j_new (w' := ([.inr (12, [_, _, _, _, _, _, _, _, _]), _, _, _, _, _, _, _, _, _, _, _, _, _, _, _, _, _, _, _, _, _], z_no)) (n := 21) dX8_init_69 nX8_16 rfl (z_al_l rfl rfl) (Nat.le_of_ble_eq_true rfl) (Nat.le_of_ble_eq_true rfl) ?_
  refine j_dup dX8_init_72 rfl ?_
  refine j_iconst (v := 1) dX8_init_73 (by decide) ?_
  refine j_callI dX8_init_74 kX4_init rfl lX8_18 inX4_init rfl (z_frameN [21] rfl (by decide) (Nat.le_of_ble_eq_true rfl) (Nat.le_of_ble_eq_true rfl) (c_X4_init_z hl true)) (Nat.le_of_ble_eq_true rfl) ⟨(Nat.le_of_ble_eq_true rfl), (Nat.le_of_ble_eq_true rfl)⟩ rfl (Nat.le_of_ble_eq_true rfl) rfl rfl (fun _ _ h => h.elim) ?_
  rintro _ _ ⟨_, _, ⟨rfl, _, _, hf21, rfl⟩, rfl, rfl⟩
  refine j_w ([.inr (12, [_, _, _, _, _, _, _, _, _]), _, _, _, _, _, _, _, _, _, _, _, _, _, _, _, _, _, _, _, _, _, _, _, _, _], z_no) rfl ?_
  refine j_aast (w' := ([.inr (12, [_, _, _, _, _, _, _, _, _]), _, _, _, _, _, _, _, _, _, _, _, _, _, _, _, _, _, _, _, _, _, _, _, _, _], z_no)) dX8_init_77 rfl rfl rfl rfl (vp_in_iff.mpr (by decide)) rfl ?_
  refine j_putF (w' := ([.inr (12, [_, _, _, _, _, _, _, _, _]), _, _, _, _, _, _, _, _, _, _, _, _, _, _, _, _, _, _, _, _, _, _, _, _, _], z_no)) dX8_init_78 fX8_25 tX8_2 rfl (z_dc rfl rfl (z_w 186 ((lwg_1 141).trans (by decide +kernel)) (by decide +kernel))) rfl (Or.inr ⟨_, rfl⟩) rfl ?_
  refine j_aload_n dX8_init_81 rfl rfl ?_
  refine j_iconst (v := 2) dX8_init_82 (by decide) ?_
  refine j_anew (kd := 6) (N := 2) (w' := ([.inr (12, [_, _, _, _, _, _, _, _, _]), _, _, _, _, _, _, _, _, _, _, _, _, _, _, _, _, _, _, _, _, _, _, _, _, _, _], z_no)) (n := 26) dX8_init_83 rfl aX8_29 ao_X0 (by decide) rfl (by decide) (z_al_l rfl rfl) (Nat.le_of_ble_eq_true rfl) (Nat.le_of_ble_eq_true rfl) ?_
  refine j_dup dX8_init_86 rfl ?_
  refine j_iconst (v := 0) dX8_init_87 (by decide) ?_
  refine j_new (w' := ([.inr (12, [_, _, _, _, _, _, _, _, _]), _, _, _, _, _, _, _, _, _, _, _, _, _, _, _, _, _, _, _, _, _, _, _, _, _, _, _], z_no)) (n := 27) dX8_init_88 nX8_29 rfl (z_al_l rfl rfl) (Nat.le_of_ble_eq_true rfl) (Nat.le_of_ble_eq_true rfl) ?_
  refine j_dup dX8_init_91 rfl ?_
  refine j_callIN dX8_init_92 kX0_init rfl lX8_31 inX0_init rfl (z_frameN [27] rfl (by decide) (Nat.le_of_ble_eq_true rfl) (Nat.le_of_ble_eq_true rfl) (c_X0_init hl)) (Nat.le_of_ble_eq_true rfl) ⟨(Nat.le_of_ble_eq_true rfl), (Nat.le_of_ble_eq_true rfl)⟩ rfl (Nat.le_of_ble_eq_true rfl) rfl rfl (fun _ _ h => h.elim) ?_
  rintro _ _ ⟨_, _, ⟨rfl, _, rfl⟩, rfl, rfl⟩
  refine j_w ([.inr (12, [_, _, _, _, _, _, _, _, _]), _, _, _, _, _, _, _, _, _, _, _, _, _, _, _, _, _, _, _, _, _, _, _, _, _, _, _, _], z_no) rfl ?_
  refine j_aast (w' := ([.inr (12, [_, _, _, _, _, _, _, _, _]), _, _, _, _, _, _, _, _, _, _, _, _, _, _, _, _, _, _, _, _, _, _, _, _, _, _, _, _], z_no)) dX8_init_95 rfl rfl rfl rfl (vp_in_iff.mpr (by decide)) rfl ?_
  refine j_dup dX8_init_96 rfl ?_
  refine j_iconst (v := 1) dX8_init_97 (by decide) ?_
  refine j_new (w' := ([.inr (12, [_, _, _, _, _, _, _, _, _]), _, _, _, _, _, _, _, _, _, _, _, _, _, _, _, _, _, _, _, _, _, _, _, _, _, _, _, _, _], z_no)) (n := 29) dX8_init_98 nX8_29 rfl (z_al_l rfl rfl) (Nat.le_of_ble_eq_true rfl) (Nat.le_of_ble_eq_true rfl) ?_
  refine j_dup dX8_init_101 rfl ?_
  refine j_callIN dX8_init_102 kX0_init rfl lX8_31 inX0_init rfl (z_frameN [29] rfl (by decide) (Nat.le_of_ble_eq_true rfl) (Nat.le_of_ble_eq_true rfl) (c_X0_init hl)) (Nat.le_of_ble_eq_true rfl) ⟨(Nat.le_of_ble_eq_true rfl), (Nat.le_of_ble_eq_true rfl)⟩ rfl (Nat.le_of_ble_eq_true rfl) rfl rfl (fun _ _ h => h.elim) ?_
  rintro _ _ ⟨_, _, ⟨rfl, _, rfl⟩, rfl, rfl⟩
  refine j_w ([.inr (12, [_, _, _, _, _, _, _, _, _]), _, _, _, _, _, _, _, _, _, _, _, _, _, _, _, _, _, _, _, _, _, _, _, _, _, _, _, _, _, _], z_no) rfl ?_
  refine j_aast (w' := ([.inr (12, [_, _, _, _, _, _, _, _, _]), _, _, _, _, _, _, _, _, _, _, _, _, _, _, _, _, _, _, _, _, _, _, _, _, _, _, _, _, _, _], z_no)) dX8_init_105 rfl rfl rfl rfl (vp_in_iff.mpr (by decide)) rfl ?_
  refine j_putF (w' := ([.inr (12, [_, _, _, _, _, _, _, _, _]), _, _, _, _, _, _, _, _, _, _, _, _, _, _, _, _, _, _, _, _, _, _, _, _, _, _, _, _, _, _], z_no)) dX8_init_106 fX8_32 tX8_3 rfl (z_dc rfl rfl (z_w 187 ((lwg_1 142).trans (by decide +kernel)) (by decide +kernel))) rfl (Or.inr ⟨_, rfl⟩) rfl ?_
  refine j_aload_n dX8_init_109 rfl rfl ?_
  refine j_new (w' := ([.inr (12, [_, _, _, _, _, _, _, _, _]), _, _, _, _, _, _, _, _, _, _, _, _, _, _, _, _, _, _, _, _, _, _, _, _, _, _, _, _, _, _, _], z_no)) (n := 31) dX8_init_110 nX8_7 rfl (z_al_l rfl rfl) (Nat.le_of_ble_eq_true rfl) (Nat.le_of_ble_eq_true rfl) ?_
  refine j_dup dX8_init_113 rfl ?_
  refine j_callIN dX8_init_114 kX1_init rfl lX8_9 inX1_init rfl (z_frameN [31] rfl (by decide) (Nat.le_of_ble_eq_true rfl) (Nat.le_of_ble_eq_true rfl) (c_X1_init_z hl)) (Nat.le_of_ble_eq_true rfl) ⟨(Nat.le_of_ble_eq_true rfl), (Nat.le_of_ble_eq_true rfl)⟩ rfl (Nat.le_of_ble_eq_true rfl) rfl rfl (fun _ _ h => h.elim) ?_
  rintro _ _ ⟨_, _, ⟨rfl, _, rfl⟩, rfl, rfl⟩
  refine j_w ([.inr (12, [_, _, _, _, _, _, _, _, _]), _, _, _, _, _, _, _, _, _, _, _, _, _, _, _, _, _, _, _, _, _, _, _, _, _, _, _, _, _, _, _, _, _, _], z_no) rfl ?_
  refine j_putF (w' := ([.inr (12, [_, _, _, _, _, _, _, _, _]), _, _, _, _, _, _, _, _, _, _, _, _, _, _, _, _, _, _, _, _, _, _, _, _, _, _, _, _, _, _, _, _, _, _], z_no)) dX8_init_117 fX8_36 tX8_4 rfl (z_dc rfl rfl (z_w 188 ((lwg_1 143).trans (by decide +kernel)) (by decide +kernel))) rfl (Or.inl ⟨_, rfl⟩) rfl ?_
  refine j_aload_n dX8_init_120 rfl rfl ?_
  refine j_new (w' := ([.inr (12, [_, _, _, _, _, _, _, _, _]), _, _, _, _, _, _, _, _, _, _, _, _, _, _, _, _, _, _, _, _, _, _, _, _, _, _, _, _, _, _, _, _, _, _, _], z_no)) (n := 35) dX8_init_121 nX8_16 rfl (z_al_l rfl rfl) (Nat.le_of_ble_eq_true rfl) (Nat.le_of_ble_eq_true rfl) ?_
  refine j_dup dX8_init_124 rfl ?_
  refine j_iconst (v := 0) dX8_init_125 (by decide) ?_
  refine j_callI dX8_init_126 kX4_init rfl lX8_18 inX4_init rfl (z_frameN [35] rfl (by decide) (Nat.le_of_ble_eq_true rfl) (Nat.le_of_ble_eq_true rfl) (c_X4_init_z hl false)) (Nat.le_of_ble_eq_true rfl) ⟨(Nat.le_of_ble_eq_true rfl), (Nat.le_of_ble_eq_true rfl)⟩ rfl (Nat.le_of_ble_eq_true rfl) rfl rfl (fun _ _ h => h.elim) ?_
  rintro _ _ ⟨_, _, ⟨rfl, _, _, hf35, rfl⟩, rfl, rfl⟩
  refine j_w ([.inr (12, [_, _, _, _, _, _, _, _, _]), _, _, _, _, _, _, _, _, _, _, _, _, _, _, _, _, _, _, _, _, _, _, _, _, _, _, _, _, _, _, _, _, _, _, _, _, _, _, _], z_no) rfl ?_
  refine j_putF (w' := ([.inr (12, [_, _, _, _, _, _, _, _, _]), _, _, _, _, _, _, _, _, _, _, _, _, _, _, _, _, _, _, _, _, _, _, _, _, _, _, _, _, _, _, _, _, _, _, _, _, _, _, _], z_no)) dX8_init_129 fX8_40 tX8_5 rfl (z_dc rfl rfl (z_w 189 ((lwg_1 144).trans (by decide +kernel)) (by decide +kernel))) rfl (Or.inl ⟨_, rfl⟩) rfl ?_
  refine j_aload_n dX8_init_132 rfl rfl ?_
  refine j_iconst (v := 3) dX8_init_133 (by decide) ?_
  refine j_anew (kd := 5) (N := 3) (w' := ([.inr (12, [_, _, _, _, _, _, _, _, _]), _, _, _, _, _, _, _, _, _, _, _, _, _, _, _, _, _, _, _, _, _, _, _, _, _, _, _, _, _, _, _, _, _, _, _, _, _, _, _, _], z_no)) (n := 40) dX8_init_134 rfl aX8_16 ao_X4 (by decide) rfl (by decide) (z_al_l rfl rfl) (Nat.le_of_ble_eq_true rfl) (Nat.le_of_ble_eq_true rfl) ?_
  refine j_dup dX8_init_137 rfl ?_
  refine j_iconst (v := 0) dX8_init_138 (by decide) ?_
  refine j_aload_n dX8_init_139 rfl rfl ?_
  refine j_getf dX8_init_140 fX8_40 rfl rfl ?_
  refine j_aast (w' := ([.inr (12, [_, _, _, _, _, _, _, _, _]), _, _, _, _, _, _, _, _, _, _, _, _, _, _, _, _, _, _, _, _, _, _, _, _, _, _, _, _, _, _, _, _, _, _, _, _, _, _, _, _], z_no)) dX8_init_143 rfl rfl rfl rfl (vp_in_iff.mpr (by decide)) rfl ?_
  refine j_dup dX8_init_144 rfl ?_
  refine j_iconst (v := 1) dX8_init_145 (by decide) ?_
  refine j_new (w' := ([.inr (12, [_, _, _, _, _, _, _, _, _]), _, _, _, _, _, _, _, _, _, _, _, _, _, _, _, _, _, _, _, _, _, _, _, _, _, _, _, _, _, _, _, _, _, _, _, _, _, _, _, _, _], z_no)) (n := 41) dX8_init_146 nX8_16 rfl (z_al_l rfl rfl) (Nat.le_of_ble_eq_true rfl) (Nat.le_of_ble_eq_true rfl) ?_
  refine j_dup dX8_init_149 rfl ?_
  refine j_iconst (v := 0) dX8_init_150 (by decide) ?_
  refine j_callI dX8_init_151 kX4_init rfl lX8_18 inX4_init rfl (z_frameN [41] rfl (by decide) (Nat.le_of_ble_eq_true rfl) (Nat.le_of_ble_eq_true rfl) (c_X4_init_z hl false)) (Nat.le_of_ble_eq_true rfl) ⟨(Nat.le_of_ble_eq_true rfl), (Nat.le_of_ble_eq_true rfl)⟩ rfl (Nat.le_of_ble_eq_true rfl) rfl rfl (fun _ _ h => h.elim) ?_
  rintro _ _ ⟨_, _, ⟨rfl, _, _, hf41, rfl⟩, rfl, rfl⟩
  refine j_w ([.inr (12, [_, _, _, _, _, _, _, _, _]), _, _, _, _, _, _, _, _, _, _, _, _, _, _, _, _, _, _, _, _, _, _, _, _, _, _, _, _, _, _, _, _, _, _, _, _, _, _, _, _, _, _, _, _, _], z_no) rfl ?_
  refine j_aast (w' := ([.inr (12, [_, _, _, _, _, _, _, _, _]), _, _, _, _, _, _, _, _, _, _, _, _, _, _, _, _, _, _, _, _, _, _, _, _, _, _, _, _, _, _, _, _, _, _, _, _, _, _, _, _, _, _, _, _, _], z_no)) dX8_init_154 rfl rfl rfl rfl (vp_in_iff.mpr (by decide)) rfl ?_
  refine j_dup dX8_init_155 rfl ?_
  refine j_iconst (v := 2) dX8_init_156 (by decide) ?_
  refine j_new (w' := ([.inr (12, [_, _, _, _, _, _, _, _, _]), _, _, _, _, _, _, _, _, _, _, _, _, _, _, _, _, _, _, _, _, _, _, _, _, _, _, _, _, _, _, _, _, _, _, _, _, _, _, _, _, _, _, _, _, _, _], z_no)) (n := 46) dX8_init_157 nX8_16 rfl (z_al_l rfl rfl) (Nat.le_of_ble_eq_true rfl) (Nat.le_of_ble_eq_true rfl) ?_
  refine j_dup dX8_init_160 rfl ?_
  refine j_iconst (v := 1) dX8_init_161 (by decide) ?_
  refine j_callI dX8_init_162 kX4_init rfl lX8_18 inX4_init rfl (z_frameN [46] rfl (by decide) (Nat.le_of_ble_eq_true rfl) (Nat.le_of_ble_eq_true rfl) (c_X4_init_z hl true)) (Nat.le_of_ble_eq_true rfl) ⟨(Nat.le_of_ble_eq_true rfl), (Nat.le_of_ble_eq_true rfl)⟩ rfl (Nat.le_of_ble_eq_true rfl) rfl rfl (fun _ _ h => h.elim) ?_
  rintro _ _ ⟨_, _, ⟨rfl, _, _, hf46, rfl⟩, rfl, rfl⟩
  refine j_w ([.inr (12, [_, _, _, _, _, _, _, _, _]), _, _, _, _, _, _, _, _, _, _, _, _, _, _, _, _, _, _, _, _, _, _, _, _, _, _, _, _, _, _, _, _, _, _, _, _, _, _, _, _, _, _, _, _, _, _, _, _, _, _], z_no) rfl ?_
  refine j_aast (w' := ([.inr (12, [_, _, _, _, _, _, _, _, _]), _, _, _, _, _, _, _, _, _, _, _, _, _, _, _, _, _, _, _, _, _, _, _, _, _, _, _, _, _, _, _, _, _, _, _, _, _, _, _, _, _, _, _, _, _, _, _, _, _, _], z_no)) dX8_init_165 rfl rfl rfl rfl (vp_in_iff.mpr (by decide)) rfl ?_
  refine j_putF (w' := ([.inr (12, [_, _, _, _, _, _, _, _, _]), _, _, _, _, _, _, _, _, _, _, _, _, _, _, _, _, _, _, _, _, _, _, _, _, _, _, _, _, _, _, _, _, _, _, _, _, _, _, _, _, _, _, _, _, _, _, _, _, _, _], z_no)) dX8_init_166 fX8_43 tX8_6 rfl (z_dc rfl rfl (z_w 190 ((lwg_1 145).trans (by decide +kernel)) (by decide +kernel))) rfl (Or.inr ⟨_, rfl⟩) rfl ?_
  refine j_vret dX8_init_169 rfl ?_ (Nat.le_of_ble_eq_true rfl) (Nat.le_of_ble_eq_true rfl)
  exact ⟨rfl, (Nat.le_of_ble_eq_true rfl), rfl, sp_cw0 hf10 hf16 hf21⟩
end ZCi
