section ZCwt
variable {G : z_G} {l : Launch}
set_option maxRecDepth 100000 in
set_option maxHeartbeats 8000000 in
theorem c_X5_init_e (hl : l.stackTraces = false) (b : Bool) (f g c : Nat → Int32) (m : Int32)  : z_CF G l mX5_init 13 0 0 [.inr (10, [.null, .int 0, .int 0, .null, .int 0]), .inr (9, [.int (z_bi b), .ref 2, .ref 3, .ref 4, .int m]), z_ia 20 f, z_ia 20 g, .inr (11, [.ref 5]), z_ia 7 c] [.ref 0, .ref 1] (fun v L => v = none ∧ L = [.inr (10, [.ref 4, .int 0, .int 0, .ref 1, .int 0]), .inr (9, [.int (z_bi b), .ref 2, .ref 3, .ref 4, .int m]), z_ia 20 f, z_ia 20 g, .inr (11, [.ref 5]), z_ia 7 (z_bp c 0)]) := by
  refine z_body hl (by decide) rfl (Nat.le_of_ble_eq_true rfl) ?_
  show z_J G l mX5_init (z_SF 13 0 0 [.inr (10, [.null, .int 0, .int 0, .null, .int 0]), .inr (9, [.int (z_bi b), .ref 2, .ref 3, .ref 4, .int m]), z_ia 20 f, z_ia 20 g, .inr (11, [.ref 5]), z_ia 7 c] (fun v L => v = none ∧ L = [.inr (10, [.ref 4, .int 0, .int 0, .ref 1, .int 0]), .inr (9, [.int (z_bi b), .ref 2, .ref 3, .ref 4, .int m]), z_ia 20 f, z_ia 20 g, .inr (11, [.ref 5]), z_ia 7 (z_bp c 0)])) 0 [(0, _), (1, _)] [] _ 0 0
  refine j_aload_n dX5_init_0 rfl rfl ?_
  refine j_aload_n dX5_init_1 rfl rfl ?_
  refine j_getf dX5_init_2 fX5_3 rfl rfl ?_
  refine j_callI dX5_init_5 kX7_init rfl lX5_9 inX7_init rfl (z_frame [0, 4, 5] rfl (by decide) (Nat.le_of_ble_eq_true rfl) (c_X7_init_X5_e hl _ _ _ _)) (Nat.le_of_ble_eq_true rfl) ⟨(Nat.le_of_ble_eq_true rfl), (Nat.le_of_ble_eq_true rfl)⟩ rfl (Nat.le_of_ble_eq_true rfl) rfl rfl (fun _ _ h => h.elim) ?_
  rintro _ _ ⟨_, _, ⟨rfl, rfl⟩, rfl, rfl⟩
  refine j_w ([.inr (10, [_, _, _, _, _]), .inr (9, [_, _, _, _, _]), z_ia 20 _, z_ia 20 _, .inr (11, [_]), z_ia 7 _], z_no) rfl ?_
  refine j_aload_n dX5_init_8 rfl rfl ?_
  refine j_aload_n dX5_init_9 rfl rfl ?_
  refine j_putF (w' := ([.inr (10, [_, _, _, _, _]), .inr (9, [_, _, _, _, _]), z_ia 20 _, z_ia 20 _, .inr (11, [_]), z_ia 7 _], z_no)) dX5_init_10 fX5_15 tX5_3 rfl (z_dc rfl rfl (z_w 1112 ((lwg_5 107).trans (by decide +kernel)) (by decide +kernel))) rfl (Or.inl ⟨_, rfl⟩) rfl ?_
  refine j_vret dX5_init_13 rfl ?_ (Nat.le_of_ble_eq_true rfl) (Nat.le_of_ble_eq_true rfl)
  exact ⟨rfl, rfl, rfl, rfl⟩
set_option maxRecDepth 100000 in
set_option maxHeartbeats 8000000 in
theorem c_X5_isMore_e (hl : l.stackTraces = false) (k u : Int32) (j : Nat) (b : Bool) (f g c : Nat → Int32) (M : Nat) (T : List (Nat × Int32)) (ht : z_tba f g T) (hM : M = T.length) (hj : j < 1000) : z_CF G l mX5_isMore 10 0 0 [.inr (10, [.ref 4, .int k, .int u, .ref 1, .int (nI j)]), .inr (9, [.int (z_bi b), .ref 2, .ref 3, .ref 4, .int (nI M)]), z_ia 20 f, z_ia 20 g, .inr (11, [.ref 5]), z_ia 7 c] [.ref 0] (fun v L => v = some (.int (z_bi (decide (j < M)))) ∧ L = [.inr (10, [.ref 4, .int k, .int u, .ref 1, .int (nI j)]), .inr (9, [.int (z_bi b), .ref 2, .ref 3, .ref 4, .int (nI M)]), z_ia 20 f, z_ia 20 g, .inr (11, [.ref 5]), z_ia 7 c]) := by
  refine z_body hl (by decide) rfl (Nat.le_of_ble_eq_true rfl) ?_
  show z_J G l mX5_isMore (z_SF 10 0 0 [.inr (10, [.ref 4, .int k, .int u, .ref 1, .int (nI j)]), .inr (9, [.int (z_bi b), .ref 2, .ref 3, .ref 4, .int (nI M)]), z_ia 20 f, z_ia 20 g, .inr (11, [.ref 5]), z_ia 7 c] (fun v L => v = some (.int (z_bi (decide (j < M)))) ∧ L = [.inr (10, [.ref 4, .int k, .int u, .ref 1, .int (nI j)]), .inr (9, [.int (z_bi b), .ref 2, .ref 3, .ref 4, .int (nI M)]), z_ia 20 f, z_ia 20 g, .inr (11, [.ref 5]), z_ia 7 c])) 0 [(0, _)] [] _ 0 0
  have hln := ht.len
  refine j_aload_n dX5_isMore_0 rfl rfl ?_
  refine j_getf dX5_isMore_1 fX5_21 rfl rfl ?_
  refine j_aload_n dX5_isMore_4 rfl rfl ?_
  refine j_getf dX5_isMore_5 fX5_15 rfl rfl ?_
  refine j_getf dX5_isMore_8 fX5_25 rfl rfl ?_
  refine j_icmp_ge (tgt := 18) dX5_isMore_11 (by decide) (fun c_11 => ?_) (fun c_11 => ?_)
  · have hb11 : M ≤ j := (nI_leI (a := M) (b := j) (by omega) (by omega)).mp c_11
    refine j_iconst (v := 0) dX5_isMore_18 (by decide) ?_
    refine j_iret dX5_isMore_19 rfl rfl ?_ (Nat.le_of_ble_eq_true rfl) (Nat.le_of_ble_eq_true rfl)
    first | exact ⟨rfl, rfl, by rw [q_b1 (by omega)], rfl⟩ | exact ⟨rfl, rfl, by rw [q_b0 (by omega)], rfl⟩
  · have hb11 : j < M := Nat.not_le.mp (fun z => c_11 ((nI_leI (a := M) (b := j) (by omega) (by omega)).mpr z))
    refine j_iconst (v := 1) dX5_isMore_14 (by decide) ?_
    refine j_goto (tgt := 19) dX5_isMore_15 (by decide) ?_
    refine j_iret dX5_isMore_19 rfl rfl ?_ (Nat.le_of_ble_eq_true rfl) (Nat.le_of_ble_eq_true rfl)
    first | exact ⟨rfl, rfl, by rw [q_b1 (by omega)], rfl⟩ | exact ⟨rfl, rfl, by rw [q_b0 (by omega)], rfl⟩
set_option maxRecDepth 100000 in
set_option maxHeartbeats 8000000 in
theorem c_X5_next_e (hl : l.stackTraces = false) (k u : Int32) (j : Nat) (b : Bool) (f g c : Nat → Int32) (M : Nat) (T : List (Nat × Int32)) (p : Nat × Int32) (ht : z_tba f g T) (hM : M = T.length) (hj : T[j]? = some p) : z_CF G l mX5_next 12 0 0 [.inr (10, [.ref 4, .int k, .int u, .ref 1, .int (nI j)]), .inr (9, [.int (z_bi b), .ref 2, .ref 3, .ref 4, .int (nI M)]), z_ia 20 f, z_ia 20 g, .inr (11, [.ref 5]), z_ia 7 c] [.ref 0] (fun v L => v = some (.int (1000 * nI p.1 + p.2)) ∧ L = [.inr (10, [.ref 4, .int (nI p.1), .int p.2, .ref 1, .int (nI (j + 1))]), .inr (9, [.int (z_bi b), .ref 2, .ref 3, .ref 4, .int (nI M)]), z_ia 20 f, z_ia 20 g, .inr (11, [.ref 5]), z_ia 7 c]) := by
  refine z_body hl (by decide) rfl (Nat.le_of_ble_eq_true rfl) ?_
  show z_J G l mX5_next (z_SF 12 0 0 [.inr (10, [.ref 4, .int k, .int u, .ref 1, .int (nI j)]), .inr (9, [.int (z_bi b), .ref 2, .ref 3, .ref 4, .int (nI M)]), z_ia 20 f, z_ia 20 g, .inr (11, [.ref 5]), z_ia 7 c] (fun v L => v = some (.int (1000 * nI p.1 + p.2)) ∧ L = [.inr (10, [.ref 4, .int (nI p.1), .int p.2, .ref 1, .int (nI (j + 1))]), .inr (9, [.int (z_bi b), .ref 2, .ref 3, .ref 4, .int (nI M)]), z_ia 20 f, z_ia 20 g, .inr (11, [.ref 5]), z_ia 7 c])) 0 [(0, _)] [] _ 0 0
  have hln := ht.len
  have hlt : j < T.length := (List.getElem?_eq_some_iff.mp hj).1
  have hpm : p ∈ T := List.mem_of_getElem? hj
  have hp20 := (ht.1.2 p hpm).1
  have hpv := sp_lk_mem ht.1.1 hpm
  refine j_aload_n dX5_next_0 rfl rfl ?_
  refine j_aload_n dX5_next_1 rfl rfl ?_
  refine j_getf dX5_next_2 fX5_15 rfl rfl ?_
  refine j_aload_n dX5_next_5 rfl rfl ?_
  refine j_getf dX5_next_6 fX5_21 rfl rfl ?_
  refine j_callV (q := (RX4, TX4, 5)) dX5_next_9 kX4_keyAt lX5_28 inX4_keyAt seX4_keyAt rfl rfl (z_frame [1, 2, 3, 4, 5] rfl (by decide) (Nat.le_of_ble_eq_true rfl) (c_X4_keyAt_e hl _ _ _ _ M T j p ht hM hj)) (Nat.le_of_ble_eq_true rfl) ⟨(Nat.le_of_ble_eq_true rfl), (Nat.le_of_ble_eq_true rfl)⟩ rfl (Nat.le_of_ble_eq_true rfl) rfl rfl (fun _ _ h => h.elim) ?_
  rintro _ _ ⟨_, _, ⟨rfl, rfl⟩, rfl, rfl⟩
  refine j_w ([.inr (10, [_, _, _, _, _]), .inr (9, [_, _, _, _, _]), z_ia 20 _, z_ia 20 _, .inr (11, [_]), z_ia 7 _], z_no) rfl ?_
  refine j_put (w' := ([.inr (10, [_, _, _, _, _]), .inr (9, [_, _, _, _, _]), z_ia 20 _, z_ia 20 _, .inr (11, [_]), z_ia 7 _], z_no)) dX5_next_12 fX5_32 tX5_1 rfl ⟨rfl, rfl⟩ rfl ?_
  refine j_aload_n dX5_next_15 rfl rfl ?_
  refine j_aload_n dX5_next_16 rfl rfl ?_
  refine j_getf dX5_next_17 fX5_15 rfl rfl ?_
  refine j_aload_n dX5_next_20 rfl rfl ?_
  refine j_getf dX5_next_21 fX5_32 rfl rfl ?_
  refine j_callV (q := (RX4, TX4, 5)) dX5_next_24 kX4_look lX5_35 inX4_look seX4_look rfl rfl (z_frame [1, 2, 3, 4, 5] rfl (by decide) (Nat.le_of_ble_eq_true rfl) (c_X4_look_e hl _ _ _ _ _ T p.1 ht hp20)) (Nat.le_of_ble_eq_true rfl) ⟨(Nat.le_of_ble_eq_true rfl), (Nat.le_of_ble_eq_true rfl)⟩ rfl (Nat.le_of_ble_eq_true rfl) rfl rfl (fun _ _ h => h.elim) ?_
  rintro _ _ ⟨_, _, ⟨rfl, rfl⟩, rfl, rfl⟩
  refine j_w ([.inr (10, [_, _, _, _, _]), .inr (9, [_, _, _, _, _]), z_ia 20 _, z_ia 20 _, .inr (11, [_]), z_ia 7 _], z_no) rfl ?_
  rw [hpv]
  refine j_put (w' := ([.inr (10, [_, _, _, _, _]), .inr (9, [_, _, _, _, _]), z_ia 20 _, z_ia 20 _, .inr (11, [_]), z_ia 7 _], z_no)) dX5_next_27 fX5_38 tX5_2 rfl ⟨rfl, rfl⟩ rfl ?_
  refine j_aload_n dX5_next_30 rfl rfl ?_
  refine j_dup dX5_next_31 rfl ?_
  refine j_getf dX5_next_32 fX5_21 rfl rfl ?_
  refine j_iconst (v := 1) dX5_next_35 (by decide) ?_
  refine j_iadd dX5_next_36 ?_
  refine j_top (congrArg Value.int (show nI (j) + nI (1) = nI (j + 1) from nI_add _ _)) ?_
  refine j_put (w' := ([.inr (10, [_, _, _, _, _]), .inr (9, [_, _, _, _, _]), z_ia 20 _, z_ia 20 _, .inr (11, [_]), z_ia 7 _], z_no)) dX5_next_37 fX5_21 tX5_4 rfl ⟨rfl, rfl⟩ rfl ?_
  refine j_sipush (v := 1000) dX5_next_40 (by decide) ?_
  refine j_aload_n dX5_next_43 rfl rfl ?_
  refine j_getf dX5_next_44 fX5_32 rfl rfl ?_
  refine j_imul dX5_next_47 ?_
  refine j_aload_n dX5_next_48 rfl rfl ?_
  refine j_getf dX5_next_49 fX5_38 rfl rfl ?_
  refine j_iadd dX5_next_52 ?_
  refine j_iret dX5_next_53 rfl rfl ?_ (Nat.le_of_ble_eq_true rfl) (Nat.le_of_ble_eq_true rfl)
  exact ⟨rfl, rfl, rfl, rfl⟩
set_option maxRecDepth 100000 in
set_option maxHeartbeats 8000000 in
theorem c_X5_putInPlace_e (hl : l.stackTraces = false) (k : Nat) (u : Int32) (j : Nat) (b : Bool) (f g c : Nat → Int32) (M : Nat) (y : Int32) (hk : k < 20) : z_CF G l mX5_putInPlace 12 0 0 [.inr (10, [.ref 4, .int (nI k), .int u, .ref 1, .int (nI j)]), .inr (9, [.int (z_bi b), .ref 2, .ref 3, .ref 4, .int (nI M)]), z_ia 20 f, z_ia 20 g, .inr (11, [.ref 5]), z_ia 7 c] [.ref 0, .int y] (fun v L => v = some (.int (z_bi true)) ∧ L = [.inr (10, [.ref 4, .int (nI k), .int u, .ref 1, .int (nI j)]), .inr (9, [.int (z_bi b), .ref 2, .ref 3, .ref 4, .int (nI M)]), z_ia 20 (z_ui f k y), z_ia 20 g, .inr (11, [.ref 5]), z_ia 7 (z_bp c 3)]) := by
  refine z_body hl (by decide) rfl (Nat.le_of_ble_eq_true rfl) ?_
  show z_J G l mX5_putInPlace (z_SF 12 0 0 [.inr (10, [.ref 4, .int (nI k), .int u, .ref 1, .int (nI j)]), .inr (9, [.int (z_bi b), .ref 2, .ref 3, .ref 4, .int (nI M)]), z_ia 20 f, z_ia 20 g, .inr (11, [.ref 5]), z_ia 7 c] (fun v L => v = some (.int (z_bi true)) ∧ L = [.inr (10, [.ref 4, .int (nI k), .int u, .ref 1, .int (nI j)]), .inr (9, [.int (z_bi b), .ref 2, .ref 3, .ref 4, .int (nI M)]), z_ia 20 (z_ui f k y), z_ia 20 g, .inr (11, [.ref 5]), z_ia 7 (z_bp c 3)])) 0 [(0, _), (1, _)] [] _ 0 0
  refine j_aload_n dX5_putInPlace_0 rfl rfl ?_
  refine j_getf dX5_putInPlace_1 fX5_41 rfl rfl ?_
  refine j_iconst (v := 3) dX5_putInPlace_4 (by decide) ?_
  refine j_callV (q := (RX6, TX6, 1)) dX5_putInPlace_5 kX6_add lX5_42 inX6_add seX6_add rfl rfl (z_frame [4, 5] rfl (by decide) (Nat.le_of_ble_eq_true rfl) (c_X6_add_e hl _ 3 (by decide))) (Nat.le_of_ble_eq_true rfl) ⟨(Nat.le_of_ble_eq_true rfl), (Nat.le_of_ble_eq_true rfl)⟩ rfl (Nat.le_of_ble_eq_true rfl) rfl rfl (fun _ _ h => h.elim) ?_
  rintro _ _ ⟨_, _, ⟨rfl, rfl⟩, rfl, rfl⟩
  refine j_w ([.inr (10, [_, _, _, _, _]), .inr (9, [_, _, _, _, _]), z_ia 20 _, z_ia 20 _, .inr (11, [_]), z_ia 7 _], z_no) rfl ?_
  refine j_aload_n dX5_putInPlace_8 rfl rfl ?_
  refine j_getf dX5_putInPlace_9 fX5_15 rfl rfl ?_
  refine j_aload_n dX5_putInPlace_12 rfl rfl ?_
  refine j_getf dX5_putInPlace_13 fX5_32 rfl rfl ?_
  refine j_iload_n dX5_putInPlace_16 rfl ?_
  refine j_callV (q := (RX4, TX4, 5)) dX5_putInPlace_17 kX4_setValue lX5_48 inX4_setValue seX4_setValue rfl rfl (z_frame [1, 2, 3, 4, 5] rfl (by decide) (Nat.le_of_ble_eq_true rfl) (c_X4_setValm_e hl _ _ _ _ _ k _ hk)) (Nat.le_of_ble_eq_true rfl) ⟨(Nat.le_of_ble_eq_true rfl), (Nat.le_of_ble_eq_true rfl)⟩ rfl (Nat.le_of_ble_eq_true rfl) rfl rfl (fun _ _ h => h.elim) ?_
  rintro _ _ ⟨_, _, ⟨rfl, rfl⟩, rfl, rfl⟩
  refine j_w ([.inr (10, [_, _, _, _, _]), .inr (9, [_, _, _, _, _]), z_ia 20 _, z_ia 20 _, .inr (11, [_]), z_ia 7 _], z_no) rfl ?_
  refine j_iconst (v := 1) dX5_putInPlace_20 (by decide) ?_
  refine j_iret dX5_putInPlace_21 rfl rfl ?_ (Nat.le_of_ble_eq_true rfl) (Nat.le_of_ble_eq_true rfl)
  exact ⟨rfl, rfl, rfl, rfl⟩
set_option maxRecDepth 100000 in
set_option maxHeartbeats 8000000 in
theorem c_X7_ask_X5_e (hl : l.stackTraces = false) (k u : Int32) (j : Nat) (b : Bool) (f g c : Nat → Int32) (M : Nat) (T : List (Nat × Int32)) (ht : z_tba f g T) (hM : M = T.length) (hj : j < 1000) : z_CF G l mX7_ask 13 0 0 [.inr (10, [.ref 4, .int k, .int u, .ref 1, .int (nI j)]), .inr (9, [.int (z_bi b), .ref 2, .ref 3, .ref 4, .int (nI M)]), z_ia 20 f, z_ia 20 g, .inr (11, [.ref 5]), z_ia 7 c] [.ref 0] (fun v L => v = some (.int (z_bi (decide (j < M)))) ∧ L = [.inr (10, [.ref 4, .int k, .int u, .ref 1, .int (nI j)]), .inr (9, [.int (z_bi b), .ref 2, .ref 3, .ref 4, .int (nI M)]), z_ia 20 f, z_ia 20 g, .inr (11, [.ref 5]), z_ia 7 (z_bp c 1)]) := by
  refine z_body hl (by decide) rfl (Nat.le_of_ble_eq_true rfl) ?_
  show z_J G l mX7_ask (z_SF 13 0 0 [.inr (10, [.ref 4, .int k, .int u, .ref 1, .int (nI j)]), .inr (9, [.int (z_bi b), .ref 2, .ref 3, .ref 4, .int (nI M)]), z_ia 20 f, z_ia 20 g, .inr (11, [.ref 5]), z_ia 7 c] (fun v L => v = some (.int (z_bi (decide (j < M)))) ∧ L = [.inr (10, [.ref 4, .int k, .int u, .ref 1, .int (nI j)]), .inr (9, [.int (z_bi b), .ref 2, .ref 3, .ref 4, .int (nI M)]), z_ia 20 f, z_ia 20 g, .inr (11, [.ref 5]), z_ia 7 (z_bp c 1)])) 0 [(0, _)] [] _ 0 0
  refine j_aload_n dX7_ask_0 rfl rfl ?_
  refine j_getf dX7_ask_1 fX7_9_X5 rfl rfl ?_
  refine j_iconst (v := 1) dX7_ask_4 (by decide) ?_
  refine j_callV (q := (RX6, TX6, 1)) dX7_ask_5 kX6_add lX7_15 inX6_add seX6_add rfl rfl (z_frame [4, 5] rfl (by decide) (Nat.le_of_ble_eq_true rfl) (c_X6_add_e hl _ 1 (by decide))) (Nat.le_of_ble_eq_true rfl) ⟨(Nat.le_of_ble_eq_true rfl), (Nat.le_of_ble_eq_true rfl)⟩ rfl (Nat.le_of_ble_eq_true rfl) rfl rfl (fun _ _ h => h.elim) ?_
  rintro _ _ ⟨_, _, ⟨rfl, rfl⟩, rfl, rfl⟩
  refine j_w ([.inr (10, [_, _, _, _, _]), .inr (9, [_, _, _, _, _]), z_ia 20 _, z_ia 20 _, .inr (11, [_]), z_ia 7 _], z_no) rfl ?_
  refine j_aload_n dX7_ask_8 rfl rfl ?_
  refine j_callU (q := (RX5, TX5, 5)) dX7_ask_9 kX5_isMore cuX7_21_X5 rfl rfl (z_frame [0, 1, 2, 3, 4, 5] rfl (by decide) (Nat.le_of_ble_eq_true rfl) (c_X5_isMore_e hl _ _ j _ _ _ _ M T ht hM hj)) (Nat.le_of_ble_eq_true rfl) ⟨(Nat.le_of_ble_eq_true rfl), (Nat.le_of_ble_eq_true rfl)⟩ rfl (Nat.le_of_ble_eq_true rfl) rfl rfl (fun _ _ h => h.elim) ?_
  rintro _ _ ⟨_, _, ⟨rfl, rfl⟩, rfl, rfl⟩
  refine j_w ([.inr (10, [_, _, _, _, _]), .inr (9, [_, _, _, _, _]), z_ia 20 _, z_ia 20 _, .inr (11, [_]), z_ia 7 _], z_no) rfl ?_
  refine j_iret dX7_ask_12 rfl (z_bn _) ?_ (Nat.le_of_ble_eq_true rfl) (Nat.le_of_ble_eq_true rfl)
  exact ⟨rfl, rfl, rfl, rfl⟩
set_option maxRecDepth 100000 in
set_option maxHeartbeats 8000000 in
theorem c_X7_give_X5_e (hl : l.stackTraces = false) (k u : Int32) (j : Nat) (b : Bool) (f g c : Nat → Int32) (M : Nat) (T : List (Nat × Int32)) (p : Nat × Int32) (ht : z_tba f g T) (hM : M = T.length) (hj : T[j]? = some p) : z_CF G l mX7_give 13 0 0 [.inr (10, [.ref 4, .int k, .int u, .ref 1, .int (nI j)]), .inr (9, [.int (z_bi b), .ref 2, .ref 3, .ref 4, .int (nI M)]), z_ia 20 f, z_ia 20 g, .inr (11, [.ref 5]), z_ia 7 c] [.ref 0] (fun v L => v = some (.int (1000 * nI p.1 + p.2)) ∧ L = [.inr (10, [.ref 4, .int (nI p.1), .int p.2, .ref 1, .int (nI (j + 1))]), .inr (9, [.int (z_bi b), .ref 2, .ref 3, .ref 4, .int (nI M)]), z_ia 20 f, z_ia 20 g, .inr (11, [.ref 5]), z_ia 7 (z_bp c 2)]) := by
  refine z_body hl (by decide) rfl (Nat.le_of_ble_eq_true rfl) ?_
  show z_J G l mX7_give (z_SF 13 0 0 [.inr (10, [.ref 4, .int k, .int u, .ref 1, .int (nI j)]), .inr (9, [.int (z_bi b), .ref 2, .ref 3, .ref 4, .int (nI M)]), z_ia 20 f, z_ia 20 g, .inr (11, [.ref 5]), z_ia 7 c] (fun v L => v = some (.int (1000 * nI p.1 + p.2)) ∧ L = [.inr (10, [.ref 4, .int (nI p.1), .int p.2, .ref 1, .int (nI (j + 1))]), .inr (9, [.int (z_bi b), .ref 2, .ref 3, .ref 4, .int (nI M)]), z_ia 20 f, z_ia 20 g, .inr (11, [.ref 5]), z_ia 7 (z_bp c 2)])) 0 [(0, _)] [] _ 0 0
  refine j_aload_n dX7_give_0 rfl rfl ?_
  refine j_getf dX7_give_1 fX7_9_X5 rfl rfl ?_
  refine j_iconst (v := 2) dX7_give_4 (by decide) ?_
  refine j_callV (q := (RX6, TX6, 1)) dX7_give_5 kX6_add lX7_15 inX6_add seX6_add rfl rfl (z_frame [4, 5] rfl (by decide) (Nat.le_of_ble_eq_true rfl) (c_X6_add_e hl _ 2 (by decide))) (Nat.le_of_ble_eq_true rfl) ⟨(Nat.le_of_ble_eq_true rfl), (Nat.le_of_ble_eq_true rfl)⟩ rfl (Nat.le_of_ble_eq_true rfl) rfl rfl (fun _ _ h => h.elim) ?_
  rintro _ _ ⟨_, _, ⟨rfl, rfl⟩, rfl, rfl⟩
  refine j_w ([.inr (10, [_, _, _, _, _]), .inr (9, [_, _, _, _, _]), z_ia 20 _, z_ia 20 _, .inr (11, [_]), z_ia 7 _], z_no) rfl ?_
  refine j_aload_n dX7_give_8 rfl rfl ?_
  refine j_callU (q := (RX5, TX5, 5)) dX7_give_9 kX5_next cuX7_25_X5 rfl rfl (z_frame [0, 1, 2, 3, 4, 5] rfl (by decide) (Nat.le_of_ble_eq_true rfl) (c_X5_next_e hl _ _ j _ _ _ _ M T p ht hM hj)) (Nat.le_of_ble_eq_true rfl) ⟨(Nat.le_of_ble_eq_true rfl), (Nat.le_of_ble_eq_true rfl)⟩ rfl (Nat.le_of_ble_eq_true rfl) rfl rfl (fun _ _ h => h.elim) ?_
  rintro _ _ ⟨_, _, ⟨rfl, rfl⟩, rfl, rfl⟩
  refine j_w ([.inr (10, [_, _, _, _, _]), .inr (9, [_, _, _, _, _]), z_ia 20 _, z_ia 20 _, .inr (11, [_]), z_ia 7 _], z_no) rfl ?_
  refine j_iret dX7_give_12 rfl rfl ?_ (Nat.le_of_ble_eq_true rfl) (Nat.le_of_ble_eq_true rfl)
  exact ⟨rfl, rfl, rfl, rfl⟩
set_option maxRecDepth 100000 in
set_option maxHeartbeats 8000000 in
theorem c_X8_hearOut_X5_e (hl : l.stackTraces = false) (k u : Int32) (b : Bool) (f g c : Nat → Int32) (M : Nat) (T : List (Nat × Int32)) (h : sp_H) (ef : Nat → Int32) (ht : z_tba f g T) (hM : M = T.length) (he : z_row 10 (nI h.2.length) ef h.2) : z_CF G l mX8_hearOut 15 0 0 [.inr (10, [.ref 4, .int k, .int u, .ref 1, .int (nI 0)]), .inr (9, [.int (z_bi b), .ref 2, .ref 3, .ref 4, .int (nI M)]), z_ia 20 f, z_ia 20 g, .inr (11, [.ref 5]), z_ia 7 c, .inr (5, [.ref 7, .int (nI h.2.length), .int h.1.2.1, .int h.1.2.2.1, .int h.1.2.2.2, .int h.1.1]), z_ia 10 ef] [.ref 0, .ref 6] (fun v L => v = some (.int (((sp_ho c h 0 (sp_prs T)).1.map nI).getD (-1001))) ∧ ∃ (k' : Int32) (u' : Int32) (p' : Int32) (ef' : Nat → Int32), z_row 10 (nI (sp_ho c h 0 (sp_prs T)).2.2.2.length) ef' (sp_ho c h 0 (sp_prs T)).2.2.2 ∧ L = [.inr (10, [.ref 4, .int k', .int u', .ref 1, .int p']), .inr (9, [.int (z_bi b), .ref 2, .ref 3, .ref 4, .int (nI M)]), z_ia 20 f, z_ia 20 g, .inr (11, [.ref 5]), z_ia 7 (sp_ho c h 0 (sp_prs T)).2.1, .inr (5, [.ref 7, .int (nI (sp_ho c h 0 (sp_prs T)).2.2.2.length), .int (sp_ho c h 0 (sp_prs T)).2.2.1.2.1, .int (sp_ho c h 0 (sp_prs T)).2.2.1.2.2.1, .int (sp_ho c h 0 (sp_prs T)).2.2.1.2.2.2, .int (sp_ho c h 0 (sp_prs T)).2.2.1.1]), z_ia 10 ef']) := by
  refine z_body hl (by decide) rfl (Nat.le_of_ble_eq_true rfl) ?_
  show z_J G l mX8_hearOut (z_SF 15 0 0 [.inr (10, [.ref 4, .int k, .int u, .ref 1, .int (nI 0)]), .inr (9, [.int (z_bi b), .ref 2, .ref 3, .ref 4, .int (nI M)]), z_ia 20 f, z_ia 20 g, .inr (11, [.ref 5]), z_ia 7 c, .inr (5, [.ref 7, .int (nI h.2.length), .int h.1.2.1, .int h.1.2.2.1, .int h.1.2.2.2, .int h.1.1]), z_ia 10 ef] (fun v L => v = some (.int (((sp_ho c h 0 (sp_prs T)).1.map nI).getD (-1001))) ∧ ∃ (k' : Int32) (u' : Int32) (p' : Int32) (ef' : Nat → Int32), z_row 10 (nI (sp_ho c h 0 (sp_prs T)).2.2.2.length) ef' (sp_ho c h 0 (sp_prs T)).2.2.2 ∧ L = [.inr (10, [.ref 4, .int k', .int u', .ref 1, .int p']), .inr (9, [.int (z_bi b), .ref 2, .ref 3, .ref 4, .int (nI M)]), z_ia 20 f, z_ia 20 g, .inr (11, [.ref 5]), z_ia 7 (sp_ho c h 0 (sp_prs T)).2.1, .inr (5, [.ref 7, .int (nI (sp_ho c h 0 (sp_prs T)).2.2.2.length), .int (sp_ho c h 0 (sp_prs T)).2.2.1.2.1, .int (sp_ho c h 0 (sp_prs T)).2.2.1.2.2.1, .int (sp_ho c h 0 (sp_prs T)).2.2.1.2.2.2, .int (sp_ho c h 0 (sp_prs T)).2.2.1.1]), z_ia 10 ef'])) 0 [(0, _), (1, _)] [] _ 0 0
  have hln := ht.len
  refine j_iconst (v := 0) dX8_hearOut_0 (by decide) ?_
  refine j_istore_n (lo' := [(2, _), (0, _), (1, _)]) dX8_hearOut_1 (by decide) rfl ?_
  refine j_iconst (v := 0) dX8_hearOut_2 (by decide) ?_
  refine j_istore_n (lo' := [(3, _), (2, _), (0, _), (1, _)]) dX8_hearOut_3 (by decide) rfl ?_
  have loop : ∀ (n9 : Nat) (h1 : sp_H) (c1 ef1 : Nat → Int32) (m s1 : Nat) (k1 u1 : Int32) (j1 : Nat), (j1 ≤ T.length) → (s1 ≤ j1) → (m ≤ j1) → (T.length < j1 + n9) → (z_row 10 (nI h1.2.length) ef1 h1.2) → (sp_ho c1 h1 m ((sp_prs T).drop j1) = (sp_ho c h 0 (sp_prs T))) → z_J G l mX8_hearOut (z_SF 15 0 0 [.inr (10, [.ref 4, .int k, .int u, .ref 1, .int (nI 0)]), .inr (9, [.int (z_bi b), .ref 2, .ref 3, .ref 4, .int (nI M)]), z_ia 20 f, z_ia 20 g, .inr (11, [.ref 5]), z_ia 7 c, .inr (5, [.ref 7, .int (nI h.2.length), .int h.1.2.1, .int h.1.2.2.1, .int h.1.2.2.2, .int h.1.1]), z_ia 10 ef] (fun v L => v = some (.int (((sp_ho c h 0 (sp_prs T)).1.map nI).getD (-1001))) ∧ ∃ (k' : Int32) (u' : Int32) (p' : Int32) (ef' : Nat → Int32), z_row 10 (nI (sp_ho c h 0 (sp_prs T)).2.2.2.length) ef' (sp_ho c h 0 (sp_prs T)).2.2.2 ∧ L = [.inr (10, [.ref 4, .int k', .int u', .ref 1, .int p']), .inr (9, [.int (z_bi b), .ref 2, .ref 3, .ref 4, .int (nI M)]), z_ia 20 f, z_ia 20 g, .inr (11, [.ref 5]), z_ia 7 (sp_ho c h 0 (sp_prs T)).2.1, .inr (5, [.ref 7, .int (nI (sp_ho c h 0 (sp_prs T)).2.2.2.length), .int (sp_ho c h 0 (sp_prs T)).2.2.1.2.1, .int (sp_ho c h 0 (sp_prs T)).2.2.1.2.2.1, .int (sp_ho c h 0 (sp_prs T)).2.2.1.2.2.2, .int (sp_ho c h 0 (sp_prs T)).2.2.1.1]), z_ia 10 ef'])) 4 [(0, .ref 0), (1, .ref 6), (2, .int (nI m)), (3, .int (nI s1))] [] ([.inr (10, [.ref 4, .int k1, .int u1, .ref 1, .int (nI j1)]), .inr (9, [.int (z_bi b), .ref 2, .ref 3, .ref 4, .int (nI M)]), z_ia 20 f, z_ia 20 g, .inr (11, [.ref 5]), z_ia 7 c1, .inr (5, [.ref 7, .int (nI h1.2.length), .int h1.1.2.1, .int h1.1.2.2.1, .int h1.1.2.2.2, .int h1.1.1]), z_ia 10 ef1], z_no) 0 0 := by
    intro n9
    induction n9 with
    | zero => intro h1 c1 ef1 m s1 k1 u1 j1 hj1 hs1 hm hf9 he1 ho; exact absurd hf9 (by omega)
    | succ n9 ih =>
      intro h1 c1 ef1 m s1 k1 u1 j1 hj1 hs1 hm hf9 he1 ho
      refine j_iload_n dX8_hearOut_4 rfl ?_
      refine j_sipush (v := 1000) dX8_hearOut_5 (by decide) ?_
      refine j_icmp_ge (tgt := 42) dX8_hearOut_8 (by decide) (fun c_8 => ?_) (fun c_8 => ?_)
      · have hb8 : 1000 ≤ s1 := (nI_leI (a := 1000) (b := s1) (by omega) (by omega)).mp c_8
        exact absurd hb8 (by omega)
      · have hb8 : s1 < 1000 := Nat.not_le.mp (fun z => c_8 ((nI_leI (a := 1000) (b := s1) (by omega) (by omega)).mpr z))
        refine j_aload_n dX8_hearOut_11 rfl rfl ?_
        refine j_callU (q := (RX5, TX5, 5)) dX8_hearOut_12 kX7_ask cuX8_320_X5 rfl rfl (z_frame [0, 1, 2, 3, 4, 5] rfl (by decide) (Nat.le_of_ble_eq_true rfl) (c_X7_ask_X5_e hl _ _ j1 _ _ _ _ M T ht hM (by omega))) (Nat.le_of_ble_eq_true rfl) ⟨(Nat.le_of_ble_eq_true rfl), (Nat.le_of_ble_eq_true rfl)⟩ rfl (Nat.le_of_ble_eq_true rfl) rfl rfl (fun _ _ h => h.elim) ?_
        rintro _ _ ⟨_, _, ⟨rfl, rfl⟩, rfl, rfl⟩
        refine j_w ([.inr (10, [_, _, _, _, _]), .inr (9, [_, _, _, _, _]), z_ia 20 _, z_ia 20 _, .inr (11, [_]), z_ia 7 _, .inr (5, [_, _, _, _, _, _]), z_ia 10 _], z_no) rfl ?_
        refine j_if_eq (tgt := 42) dX8_hearOut_15 (by decide) (fun c_15 => ?_) (fun c_15 => ?_)
        · have hb15 := z_bF c_15
          have hnil : (sp_prs T).drop j1 = [] := sp_drop_nil (by rw [sp_prl]; have := of_decide_eq_false hb15; omega)
          rw [hnil] at ho
          refine j_iload_n dX8_hearOut_42 rfl ?_
          refine j_iret dX8_hearOut_43 rfl rfl ?_ (Nat.le_of_ble_eq_true rfl) (Nat.le_of_ble_eq_true rfl)
          exact ⟨rfl, rfl, (by rw [← ho]; rfl), _, _, _, _, (by rw [← ho]; exact he1), (by rw [← ho]; rfl)⟩
        · have hb15 := z_bt c_15
          obtain ⟨p1, hp1, hpm1⟩ := sp_gt (T := T) (j := j1) (by have := of_decide_eq_true hb15; omega)
          have hjl := (List.getElem?_eq_some_iff.mp hp1).1
          rw [sp_prd hp1] at ho
          refine j_aload_n dX8_hearOut_18 rfl rfl ?_
          refine j_aload_n dX8_hearOut_19 rfl rfl ?_
          refine j_callU (q := (RX5, TX5, 5)) dX8_hearOut_20 kX7_give cuX8_315_X5 rfl rfl (z_frame [0, 1, 2, 3, 4, 5] rfl (by decide) (Nat.le_of_ble_eq_true rfl) (c_X7_give_X5_e hl _ _ j1 _ _ _ _ M T p1 ht hM hp1)) (Nat.le_of_ble_eq_true rfl) ⟨(Nat.le_of_ble_eq_true rfl), (Nat.le_of_ble_eq_true rfl)⟩ rfl (Nat.le_of_ble_eq_true rfl) rfl rfl (fun _ _ h => h.elim) ?_
          rintro _ _ ⟨_, _, ⟨rfl, rfl⟩, rfl, rfl⟩
          refine j_w ([.inr (10, [_, _, _, _, _]), .inr (9, [_, _, _, _, _]), z_ia 20 _, z_ia 20 _, .inr (11, [_]), z_ia 7 _, .inr (5, [_, _, _, _, _, _]), z_ia 10 _], z_no) rfl ?_
          refine j_callV (q := (RX0, TX0, 6)) dX8_hearOut_23 kX0_takesIn lX8_323 inX0_takesIn seX0_takesIn rfl rfl (z_frame [6, 7] rfl (by decide) (Nat.le_of_ble_eq_true rfl) (c_X0_takesIn_e hl h1 _ (1000 * nI p1.1 + p1.2) he1)) (Nat.le_of_ble_eq_true rfl) ⟨(Nat.le_of_ble_eq_true rfl), (Nat.le_of_ble_eq_true rfl)⟩ rfl (Nat.le_of_ble_eq_true rfl) rfl rfl (fun _ _ h => h.elim) ?_
          rintro _ _ ⟨_, _, ⟨rfl, ef2, hf9e, rfl⟩, rfl, rfl⟩
          refine j_w ([.inr (10, [_, _, _, _, _]), .inr (9, [_, _, _, _, _]), z_ia 20 _, z_ia 20 _, .inr (11, [_]), z_ia 7 _, .inr (5, [_, _, _, _, _, _]), z_ia 10 _], z_no) rfl ?_
          refine j_if_ne (tgt := 33) dX8_hearOut_26 (by decide) (fun c_26 => ?_) (fun c_26 => ?_)
          · have hb26 := z_bt c_26
            rw [sp_hoS2 hb26] at ho
            refine j_iinc (lo' := [(2, _), (0, _), (1, _), (3, _)]) dX8_hearOut_33 rfl (z_inc _) (by decide) rfl ?_
            refine j_iinc (lo' := [(3, _), (2, _), (0, _), (1, _)]) dX8_hearOut_36 rfl (z_inc _) (by decide) rfl ?_
            refine j_goto (tgt := 4) dX8_hearOut_39 (by decide) ?_
            exact j_lo2 (ih _ _ _ (m + 1) (s1 + 1) _ _ (j1 + 1) (by omega) (by omega) (by omega) (by omega) hf9e ho) (z_q1 rfl (z_q1 rfl (z_q1 rfl (z_q1 rfl z_q0))))
          · have hb26 := z_bF c_26
            rw [sp_hoN2 hb26] at ho
            refine j_sipush (v := (-1001)) dX8_hearOut_29 (by decide) ?_
            refine j_iret dX8_hearOut_32 rfl rfl ?_ (Nat.le_of_ble_eq_true rfl) (Nat.le_of_ble_eq_true rfl)
            exact ⟨rfl, rfl, (by rw [← ho]; rfl), _, _, _, _, (by rw [← ho]; exact hf9e), (by rw [← ho] <;> rfl)⟩
  exact j_lo2 (loop (T.length + 1) h c ef 0 0 k u 0 (by omega) (by omega) (by omega) (by omega) he rfl) (z_q1 rfl (z_q1 rfl (z_q1 rfl (z_q1 rfl z_q0))))
set_option maxRecDepth 100000 in
set_option maxHeartbeats 8000000 in
theorem c_X8_changeEach_X5_e (hl : l.stackTraces = false) (k u : Int32) (b : Bool) (f g c : Nat → Int32) (M : Nat) (T : List (Nat × Int32)) (r n : Int32) (ht : z_tba f g T) (hM : M = T.length) (hr2n : ¬ r = 2) (hr3n : ¬ r = 3) (hn : z_vl n) : z_CF G l mX8_changeEach 15 0 0 [.inr (10, [.ref 4, .int k, .int u, .ref 1, .int (nI 0)]), .inr (9, [.int (z_bi b), .ref 2, .ref 3, .ref 4, .int (nI M)]), z_ia 20 f, z_ia 20 g, .inr (11, [.ref 5]), z_ia 7 c] [.ref 0, .int r, .int n] (fun v L => v = some (.int (z_bi (sp_rt r n c [] T).1)) ∧ ∃ (k' u' p' : Int32) (f' : Nat → Int32), z_tba f' g (sp_rt r n c [] T).2.2 ∧ L = [.inr (10, [.ref 4, .int k', .int u', .ref 1, .int p']), .inr (9, [.int (z_bi b), .ref 2, .ref 3, .ref 4, .int (nI (sp_rt r n c [] T).2.2.length)]), z_ia 20 f', z_ia 20 g, .inr (11, [.ref 5]), z_ia 7 (sp_rt r n c [] T).2.1]) := by
  refine z_body hl (by decide) rfl (Nat.le_of_ble_eq_true rfl) ?_
  show z_J G l mX8_changeEach (z_SF 15 0 0 [.inr (10, [.ref 4, .int k, .int u, .ref 1, .int (nI 0)]), .inr (9, [.int (z_bi b), .ref 2, .ref 3, .ref 4, .int (nI M)]), z_ia 20 f, z_ia 20 g, .inr (11, [.ref 5]), z_ia 7 c] (fun v L => v = some (.int (z_bi (sp_rt r n c [] T).1)) ∧ ∃ (k' u' p' : Int32) (f' : Nat → Int32), z_tba f' g (sp_rt r n c [] T).2.2 ∧ L = [.inr (10, [.ref 4, .int k', .int u', .ref 1, .int p']), .inr (9, [.int (z_bi b), .ref 2, .ref 3, .ref 4, .int (nI (sp_rt r n c [] T).2.2.length)]), z_ia 20 f', z_ia 20 g, .inr (11, [.ref 5]), z_ia 7 (sp_rt r n c [] T).2.1])) 0 [(0, _), (1, _), (2, _)] [] _ 0 0
  have hln := ht.len
  refine j_iconst (v := 0) dX8_changeEach_0 (by decide) ?_
  refine j_istore_n (lo' := [(3, _), (0, _), (1, _), (2, _)]) dX8_changeEach_1 (by decide) rfl ?_
  have loop : ∀ (n9 : Nat) (f1 c1 : Nat → Int32) (k1 u1 : Int32) (A D : List (Nat × Int32)) (q1 s1 : Nat), (z_tba f1 g (A ++ D)) → (M = (A ++ D).length) → (sp_rt r n c1 A D = (sp_rt r n c [] T)) → (q1 = A.length) → (s1 = A.length) → (D.length < n9) → z_J G l mX8_changeEach (z_SF 15 0 0 [.inr (10, [.ref 4, .int k, .int u, .ref 1, .int (nI 0)]), .inr (9, [.int (z_bi b), .ref 2, .ref 3, .ref 4, .int (nI M)]), z_ia 20 f, z_ia 20 g, .inr (11, [.ref 5]), z_ia 7 c] (fun v L => v = some (.int (z_bi (sp_rt r n c [] T).1)) ∧ ∃ (k' u' p' : Int32) (f' : Nat → Int32), z_tba f' g (sp_rt r n c [] T).2.2 ∧ L = [.inr (10, [.ref 4, .int k', .int u', .ref 1, .int p']), .inr (9, [.int (z_bi b), .ref 2, .ref 3, .ref 4, .int (nI (sp_rt r n c [] T).2.2.length)]), z_ia 20 f', z_ia 20 g, .inr (11, [.ref 5]), z_ia 7 (sp_rt r n c [] T).2.1])) 2 [(0, .ref 0), (1, .int r), (2, .int n), (3, .int (nI s1))] [] ([.inr (10, [.ref 4, .int k1, .int u1, .ref 1, .int (nI q1)]), .inr (9, [.int (z_bi b), .ref 2, .ref 3, .ref 4, .int (nI M)]), z_ia 20 f1, z_ia 20 g, .inr (11, [.ref 5]), z_ia 7 c1], z_no) 0 0 := by
    intro n9
    induction n9 with
    | zero => intro f1 c1 k1 u1 A D q1 s1 ht1 hBl ho hq1 hs1 hf9; exact absurd hf9 (by omega)
    | succ n9 ih =>
      intro f1 c1 k1 u1 A D q1 s1 ht1 hBl ho hq1 hs1 hf9
      have hAD : (A ++ D).length = A.length + D.length := List.length_append
      have h20 := ht1.len
      refine j_iload_n dX8_changeEach_2 rfl ?_
      refine j_sipush (v := 1000) dX8_changeEach_3 (by decide) ?_
      refine j_icmp_ge (tgt := 61) dX8_changeEach_6 (by decide) (fun c_6 => ?_) (fun c_6 => ?_)
      · have hb6 : 1000 ≤ s1 := (nI_leI (a := 1000) (b := s1) (by omega) (by omega)).mp c_6
        exact absurd hb6 (by have := ht1.len; rw [List.length_append] at this; omega)
      · have hb6 : s1 < 1000 := Nat.not_le.mp (fun z => c_6 ((nI_leI (a := 1000) (b := s1) (by omega) (by omega)).mpr z))
        refine j_aload_n dX8_changeEach_9 rfl rfl ?_
        refine j_callU (q := (RX5, TX5, 5)) dX8_changeEach_10 kX7_ask cuX8_320_X5 rfl rfl (z_frame [0, 1, 2, 3, 4, 5] rfl (by decide) (Nat.le_of_ble_eq_true rfl) (c_X7_ask_X5_e hl _ _ q1 _ _ _ _ M (A ++ D) ht1 hBl (by have := ht1.len; rw [List.length_append] at this; omega))) (Nat.le_of_ble_eq_true rfl) ⟨(Nat.le_of_ble_eq_true rfl), (Nat.le_of_ble_eq_true rfl)⟩ rfl (Nat.le_of_ble_eq_true rfl) rfl rfl (fun _ _ h => h.elim) ?_
        rintro _ _ ⟨_, _, ⟨rfl, rfl⟩, rfl, rfl⟩
        refine j_w ([.inr (10, [_, _, _, _, _]), .inr (9, [_, _, _, _, _]), z_ia 20 _, z_ia 20 _, .inr (11, [_]), z_ia 7 _], z_no) rfl ?_
        refine j_if_eq (tgt := 61) dX8_changeEach_13 (by decide) (fun c_13 => ?_) (fun c_13 => ?_)
        · have hb13 := z_bF c_13
          have hD := sp_cut (A := A) (D := D) (by have := of_decide_eq_false hb13; omega)
          subst hD
          rw [List.append_nil] at ht1 hBl
          refine j_iconst (v := 1) dX8_changeEach_61 (by decide) ?_
          refine j_iret dX8_changeEach_62 rfl rfl ?_ (Nat.le_of_ble_eq_true rfl) (Nat.le_of_ble_eq_true rfl)
          exact ⟨rfl, rfl, (by rw [← ho]; rfl), _, _, _, _, (by rw [← ho]; exact ht1), (by rw [← ho, hBl]; rfl)⟩
        · have hb13 := z_bt c_13
          obtain ⟨p1, D1, hD⟩ := sp_cons (A := A) (D := D) (by have := of_decide_eq_true hb13; omega)
          subst hD
          have hp1 : (A ++ p1 :: D1)[q1]? = some p1 := by rw [hq1]; exact sp_gmid
          have hpo := ht1.1.2 p1 (List.mem_append_right _ List.mem_cons_self)
          have hlm := sp_lmid (A := A) (D := D1) (v := p1)
          rw [List.length_cons] at hf9
          refine j_aload_n dX8_changeEach_16 rfl rfl ?_
          refine j_callU (q := (RX5, TX5, 5)) dX8_changeEach_17 kX7_give cuX8_315_X5 rfl rfl (z_frame [0, 1, 2, 3, 4, 5] rfl (by decide) (Nat.le_of_ble_eq_true rfl) (c_X7_give_X5_e hl _ _ q1 _ _ _ _ M (A ++ p1 :: D1) p1 ht1 hBl hp1)) (Nat.le_of_ble_eq_true rfl) ⟨(Nat.le_of_ble_eq_true rfl), (Nat.le_of_ble_eq_true rfl)⟩ rfl (Nat.le_of_ble_eq_true rfl) rfl rfl (fun _ _ h => h.elim) ?_
          rintro _ _ ⟨_, _, ⟨rfl, rfl⟩, rfl, rfl⟩
          refine j_w ([.inr (10, [_, _, _, _, _]), .inr (9, [_, _, _, _, _]), z_ia 20 _, z_ia 20 _, .inr (11, [_]), z_ia 7 _], z_no) rfl ?_
          refine j_pop dX8_changeEach_20 rfl ?_
          refine j_iload_n dX8_changeEach_21 rfl ?_
          refine j_aload_n dX8_changeEach_22 rfl rfl ?_
          refine j_getf dX8_changeEach_23 fX8_326_X5 rfl rfl ?_
          refine j_aload_n dX8_changeEach_26 rfl rfl ?_
          refine j_getf dX8_changeEach_27 fX8_329_X5 rfl rfl ?_
          refine j_iload_n dX8_changeEach_30 rfl ?_
          refine j_callS dX8_changeEach_31 kX8_ruleTells lX8_237 stX8_ruleTells (c_X8_ruleTells_e hl _ _ _ _ _) (Nat.le_of_ble_eq_true rfl) ⟨(Nat.le_of_ble_eq_true rfl), (Nat.le_of_ble_eq_true rfl)⟩ rfl (Nat.le_of_ble_eq_true rfl) rfl rfl (fun _ _ h => h.elim) ?_
          rintro _ _ ⟨rfl, rfl⟩
          rw [q_dn (sp_vln hpo.2)]
          refine j_istore (lo' := [(4, _), (0, _), (1, _), (2, _), (3, _)]) dX8_changeEach_34 (by decide) rfl ?_
          refine j_iload dX8_changeEach_36 rfl ?_
          refine j_sipush (v := (-1001)) dX8_changeEach_38 (by decide) ?_
          refine j_icmp_eq (tgt := 53) dX8_changeEach_41 (by decide) (fun c_41 => ?_) (fun c_41 => ?_)
          · have hq0 := q_gn (m := -1001) (fun y hy => q_rtm hpo.2 hn hy) c_41
            rw [sp_rtN hq0] at ho
            refine j_iconst (v := 0) dX8_changeEach_53 (by decide) ?_
            refine j_iret dX8_changeEach_54 rfl rfl ?_ (Nat.le_of_ble_eq_true rfl) (Nat.le_of_ble_eq_true rfl)
            exact ⟨rfl, rfl, (by rw [← ho]; rfl), _, _, _, _, (by rw [← ho]; exact ht1), (by rw [← ho, hBl] <;> rfl)⟩
          · have hq0 := q_gs (m := -1001) c_41
            rw [sp_rtS hq0] at ho
            have hyv := q_rt_v hr2n hr3n hpo.2 hn hq0
            refine j_aload_n dX8_changeEach_44 rfl rfl ?_
            refine j_iload dX8_changeEach_45 rfl ?_
            refine j_callU (q := (RX5, TX5, 5)) dX8_changeEach_47 kX5_putInPlace cuX8_332_X5 rfl rfl (z_frame [0, 1, 2, 3, 4, 5] rfl (by decide) (Nat.le_of_ble_eq_true rfl) (c_X5_putInPlace_e hl p1.1 _ _ _ _ _ _ _ _ hpo.1)) (Nat.le_of_ble_eq_true rfl) ⟨(Nat.le_of_ble_eq_true rfl), (Nat.le_of_ble_eq_true rfl)⟩ rfl (Nat.le_of_ble_eq_true rfl) rfl rfl (fun _ _ h => h.elim) ?_
            rintro _ _ ⟨_, _, ⟨rfl, rfl⟩, rfl, rfl⟩
            refine j_w ([.inr (10, [_, _, _, _, _]), .inr (9, [_, _, _, _, _]), z_ia 20 _, z_ia 20 _, .inr (11, [_]), z_ia 7 _], z_no) rfl ?_
            refine j_if_ne (tgt := 55) dX8_changeEach_50 (by decide) (fun c_50 => ?_) (fun c_50 => ?_)
            · have hb50 := z_bt c_50
              refine j_iinc (lo' := [(3, _), (4, _), (0, _), (1, _), (2, _)]) dX8_changeEach_55 rfl (z_inc _) (by decide) rfl ?_
              refine j_goto (tgt := 2) dX8_changeEach_58 (by decide) ?_
              exact j_lo2 (ih _ _ _ _ (A ++ [(p1.1, ((q_rt r (nI p1.1) p1.2 n).getD (-1001)))]) D1 (q1 + 1) (s1 + 1) (by rw [← sp_mid]; exact ht1.put hyv) (sp_midl hBl) ho (by rw [List.length_append, hq1]; rfl) (by rw [List.length_append, hs1]; rfl) (by omega)) (z_q1 rfl (z_q1 rfl (z_q1 rfl (z_q1 rfl z_q0))))
            · have hb50 := z_bF c_50
              cases hb50
  exact j_lo2 (loop (T.length + 1) f c k u [] T 0 0 ht hM rfl rfl rfl (by omega)) (z_q1 rfl (z_q1 rfl (z_q1 rfl (z_q1 rfl z_q0))))
end ZCwt
