section ZK1
variable {G : z_G} {l : Launch}
set_option maxRecDepth 100000 in
set_option maxHeartbeats 8000000 in
theorem c_Jxd2413_init_da8c8 (hl : l.stackTraces = false) (w : z_W) (n : Nat) : z_Con G l mJxd2413_init_da8c8 10 0 0 w [.ref n] (fun v w9 => (v = none) ∧ w9 = w) (fun _ _ => False) := by
  refine z_body hl (by decide) rfl (Nat.le_of_ble_eq_true rfl) ?_
  show z_J G l mJxd2413_init_da8c8 ((10, 0, 0, w, (fun v w9 => (v = none) ∧ w9 = w), fun _ _ => False)) 0 [(0, _)] [] _ 0 0
  refine j_aload_n dJxd2413_init_da8c8_0 rfl rfl ?_
  refine j_objI dJxd2413_init_da8c8_1 oJxd2413_1 z_oi1 z_oi2 (Nat.le_of_ble_eq_true rfl) (Nat.le_of_ble_eq_true rfl) ?_
  refine j_vret dJxd2413_init_da8c8_4 rfl ?_ (Nat.le_of_ble_eq_true rfl) (Nat.le_of_ble_eq_true rfl)
  exact ⟨rfl, rfl⟩
set_option maxRecDepth 100000 in
set_option maxHeartbeats 8000000 in
theorem c_Jxa1e45_init_da8c8 (hl : l.stackTraces = false) (w : z_W) (n : Nat) : z_Con G l mJxa1e45_init_da8c8 10 0 0 w [.ref n] (fun v w9 => (v = none) ∧ w9 = w) (fun _ _ => False) := by
  refine z_body hl (by decide) rfl (Nat.le_of_ble_eq_true rfl) ?_
  show z_J G l mJxa1e45_init_da8c8 ((10, 0, 0, w, (fun v w9 => (v = none) ∧ w9 = w), fun _ _ => False)) 0 [(0, _)] [] _ 0 0
  refine j_aload_n dJxa1e45_init_da8c8_0 rfl rfl ?_
  refine j_objI dJxa1e45_init_da8c8_1 oJxa1e45_1 z_oi1 z_oi2 (Nat.le_of_ble_eq_true rfl) (Nat.le_of_ble_eq_true rfl) ?_
  refine j_vret dJxa1e45_init_da8c8_4 rfl ?_ (Nat.le_of_ble_eq_true rfl) (Nat.le_of_ble_eq_true rfl)
  exact ⟨rfl, rfl⟩
set_option maxRecDepth 100000 in
set_option maxHeartbeats 8000000 in
theorem c_J6_init_d00df (hl : l.stackTraces = false) (x : Int32) : z_CF G l mJ6_init_d00df 11 0 0 [.inr (2, [.int 0])] [.ref 0, .int x] (fun v L => v = none ∧ L = [.inr (2, [.int x])]) := by
  refine z_body hl (by decide) rfl (Nat.le_of_ble_eq_true rfl) ?_
  show z_J G l mJ6_init_d00df (z_SF 11 0 0 [.inr (2, [.int 0])] (fun v L => v = none ∧ L = [.inr (2, [.int x])])) 0 [(0, _), (1, _)] [] _ 0 0
  refine j_aload_n dJ6_init_d00df_0 rfl rfl ?_
  refine j_callI dJ6_init_d00df_1 kJxd2413_init_da8c8 rfl lJ6_202 inJxd2413_init_da8c8 rfl (c_Jxd2413_init_da8c8 hl _ _) (Nat.le_of_ble_eq_true rfl) ⟨(Nat.le_of_ble_eq_true rfl), (Nat.le_of_ble_eq_true rfl)⟩ rfl (Nat.le_of_ble_eq_true rfl) rfl rfl (fun _ _ h => h.elim) ?_
  rintro _ _ ⟨rfl, rfl⟩
  refine j_aload_n dJ6_init_d00df_4 rfl rfl ?_
  refine j_iload_n dJ6_init_d00df_5 rfl ?_
  refine j_putF (w' := ([.inr (2, [_])], z_no)) dJ6_init_d00df_6 fJ6_205 tJ6_0 rfl (z_dc rfl rfl (z_w 1535 ((lwg_7 50).trans (by decide +kernel)) (by decide +kernel))) rfl ⟨rfl, rfl⟩ rfl ?_
  refine j_vret dJ6_init_d00df_9 rfl ?_ (Nat.le_of_ble_eq_true rfl) (Nat.le_of_ble_eq_true rfl)
  exact ⟨rfl, rfl, rfl, rfl⟩
set_option maxRecDepth 100000 in
set_option maxHeartbeats 8000000 in
theorem c_J6_valueOf_2dffe (hl : l.stackTraces = false) (x : Int32) : z_CF G l mJ6_valueOf_2dffe 12 1 1 [] [.int x] (fun v L => v = some (.float x.toUInt32) ∧ L = []) := by
  refine z_body hl (by decide) rfl (Nat.le_of_ble_eq_true rfl) ?_
  show z_J G l mJ6_valueOf_2dffe (z_SF 12 1 1 [] (fun v L => v = some (.float x.toUInt32) ∧ L = [])) 0 [(0, _)] [] _ 0 0
  refine j_iload_n dJ6_valueOf_2dffe_0 rfl ?_
  refine j_bipush (v := (-128)) dJ6_valueOf_2dffe_1 (by decide) ?_
  refine j_icmp_lt (tgt := 23) dJ6_valueOf_2dffe_3 (by decide) (fun c_3 => ?_) (fun c_3 => ?_)
  · refine j_new (w' := ([.inr (2, [_])], z_no)) (n := 0) dJ6_valueOf_2dffe_23 nJ6_1 rfl (z_al_l rfl rfl) (Nat.le_of_ble_eq_true rfl) (Nat.le_of_ble_eq_true rfl) ?_
    refine j_dup dJ6_valueOf_2dffe_26 rfl ?_
    refine j_iload_n dJ6_valueOf_2dffe_27 rfl ?_
    refine j_callI dJ6_valueOf_2dffe_28 kJ6_init_d00df rfl lJ6_199 inJ6_init_d00df rfl (z_frame [0] rfl (by decide) (Nat.le_of_ble_eq_true rfl) (c_J6_init_d00df hl _)) (Nat.le_of_ble_eq_true rfl) ⟨(Nat.le_of_ble_eq_true rfl), (Nat.le_of_ble_eq_true rfl)⟩ rfl (Nat.le_of_ble_eq_true rfl) rfl rfl (fun _ _ h => h.elim) ?_
    rintro _ _ ⟨_, _, ⟨rfl, rfl⟩, rfl, rfl⟩
    refine j_w ([.inr (2, [_])], z_no) rfl ?_
    refine j_toBox (n := 0) (L0 := []) rfl (Nat.le_of_ble_eq_true rfl) (Nat.le_of_ble_eq_true rfl) rfl rfl trivial rfl ?_
    refine j_w ([], z_no) rfl ?_
    refine j_aret dJ6_valueOf_2dffe_31 rfl (Or.inl ⟨_, rfl⟩) rfl ?_ (Nat.le_of_ble_eq_true rfl) (Nat.le_of_ble_eq_true rfl)
    exact ⟨rfl, rfl, rfl, rfl⟩
  · refine j_iload_n dJ6_valueOf_2dffe_6 rfl ?_
    refine j_gets dJ6_valueOf_2dffe_7 (List.mem_of_getElem? (i := 1) rfl) rfl (z_w 1522 ((lwg_7 37).trans (by decide +kernel)) (by decide +kernel)) ?_
    refine j_icmp_gt (tgt := 23) dJ6_valueOf_2dffe_10 (by decide) (fun c_10 => ?_) (fun c_10 => ?_)
    · refine j_new (w' := ([.inr (2, [_])], z_no)) (n := 0) dJ6_valueOf_2dffe_23 nJ6_1 rfl (z_al_l rfl rfl) (Nat.le_of_ble_eq_true rfl) (Nat.le_of_ble_eq_true rfl) ?_
      refine j_dup dJ6_valueOf_2dffe_26 rfl ?_
      refine j_iload_n dJ6_valueOf_2dffe_27 rfl ?_
      refine j_callI dJ6_valueOf_2dffe_28 kJ6_init_d00df rfl lJ6_199 inJ6_init_d00df rfl (z_frame [0] rfl (by decide) (Nat.le_of_ble_eq_true rfl) (c_J6_init_d00df hl _)) (Nat.le_of_ble_eq_true rfl) ⟨(Nat.le_of_ble_eq_true rfl), (Nat.le_of_ble_eq_true rfl)⟩ rfl (Nat.le_of_ble_eq_true rfl) rfl rfl (fun _ _ h => h.elim) ?_
      rintro _ _ ⟨_, _, ⟨rfl, rfl⟩, rfl, rfl⟩
      refine j_w ([.inr (2, [_])], z_no) rfl ?_
      refine j_toBox (n := 0) (L0 := []) rfl (Nat.le_of_ble_eq_true rfl) (Nat.le_of_ble_eq_true rfl) rfl rfl trivial rfl ?_
      refine j_w ([], z_no) rfl ?_
      refine j_aret dJ6_valueOf_2dffe_31 rfl (Or.inl ⟨_, rfl⟩) rfl ?_ (Nat.le_of_ble_eq_true rfl) (Nat.le_of_ble_eq_true rfl)
      exact ⟨rfl, rfl, rfl, rfl⟩
    · refine j_gets dJ6_valueOf_2dffe_13 (List.mem_of_getElem? (i := 4) rfl) rfl (z_w 1524 ((lwg_7 39).trans (by decide +kernel)) (by decide +kernel)) ?_
      refine j_iload_n dJ6_valueOf_2dffe_16 rfl ?_
      refine j_sipush (v := 128) dJ6_valueOf_2dffe_17 (by decide) ?_
      refine j_iadd dJ6_valueOf_2dffe_20 ?_
      refine j_aaldC dJ6_valueOf_2dffe_21 (z_cnx c_3 c_10).1 ?_
      refine j_aret dJ6_valueOf_2dffe_22 rfl (Or.inl ⟨_, rfl⟩) rfl ?_ (Nat.le_of_ble_eq_true rfl) (Nat.le_of_ble_eq_true rfl)
      exact ⟨rfl, rfl, by rw [(z_cnx c_3 c_10).2], rfl⟩
set_option maxRecDepth 100000 in
set_option maxHeartbeats 8000000 in
theorem c_J6_intValue_8abf5 (hl : l.stackTraces = false) (w : z_W) (b : UInt32) : z_Con G l mJ6_intValue_8abf5 10 0 0 w [.float b] (fun v w9 => (v = some (.int b.toInt32)) ∧ w9 = w) (fun _ _ => False) := by
  refine z_body hl (by decide) rfl (Nat.le_of_ble_eq_true rfl) ?_
  show z_J G l mJ6_intValue_8abf5 ((10, 0, 0, w, (fun v w9 => (v = some (.int b.toInt32)) ∧ w9 = w), fun _ _ => False)) 0 [(0, _)] [] _ 0 0
  refine j_aload_n dJ6_intValue_8abf5_0 rfl rfl ?_
  refine j_getB dJ6_intValue_8abf5_1 fJ6_205 ?_
  refine j_iret dJ6_intValue_8abf5_4 rfl rfl ?_ (Nat.le_of_ble_eq_true rfl) (Nat.le_of_ble_eq_true rfl)
  exact ⟨rfl, rfl⟩
set_option maxRecDepth 100000 in
set_option maxHeartbeats 8000000 in
theorem c_Jxc12de_init_da8c8 (hl : l.stackTraces = false)  : z_CF G l mJxc12de_init_da8c8 11 0 0 [.inr (4, [.int 0, .null, .int 0])] [.ref 0] (fun v L => v = none ∧ L = [.inr (4, [.int 0, .null, .int 0])]) := by
  refine z_body hl (by decide) rfl (Nat.le_of_ble_eq_true rfl) ?_
  show z_J G l mJxc12de_init_da8c8 (z_SF 11 0 0 [.inr (4, [.int 0, .null, .int 0])] (fun v L => v = none ∧ L = [.inr (4, [.int 0, .null, .int 0])])) 0 [(0, _)] [] _ 0 0
  refine j_aload_n dJxc12de_init_da8c8_0 rfl rfl ?_
  refine j_callI dJxc12de_init_da8c8_1 kJxa1e45_init_da8c8 rfl lJxc12de_1 inJxa1e45_init_da8c8 rfl (c_Jxa1e45_init_da8c8 hl _ _) (Nat.le_of_ble_eq_true rfl) ⟨(Nat.le_of_ble_eq_true rfl), (Nat.le_of_ble_eq_true rfl)⟩ rfl (Nat.le_of_ble_eq_true rfl) rfl rfl (fun _ _ h => h.elim) ?_
  rintro _ _ ⟨rfl, rfl⟩
  refine j_aload_n dJxc12de_init_da8c8_4 rfl rfl ?_
  refine j_iconst (v := 0) dJxc12de_init_da8c8_5 (by decide) ?_
  refine j_put (w' := ([.inr (4, [_, _, _])], z_no)) dJxc12de_init_da8c8_6 fJxc12de_7 tJx4a65c_0 rfl ⟨rfl, rfl⟩ rfl ?_
  refine j_vret dJxc12de_init_da8c8_9 rfl ?_ (Nat.le_of_ble_eq_true rfl) (Nat.le_of_ble_eq_true rfl)
  exact ⟨rfl, rfl, rfl, rfl⟩
set_option maxRecDepth 100000 in
set_option maxHeartbeats 8000000 in
theorem c_Jx4a65c_init_da8c8 (hl : l.stackTraces = false)  : z_CF G l mJx4a65c_init_da8c8 12 0 0 [.inr (4, [.int 0, .null, .int 0])] [.ref 0] (fun v L => v = none ∧ L = [.inr (4, [.int 0, .retAddr 0, .int 0])]) := by
  refine z_body hl (by decide) rfl (Nat.le_of_ble_eq_true rfl) ?_
  show z_J G l mJx4a65c_init_da8c8 (z_SF 12 0 0 [.inr (4, [.int 0, .null, .int 0])] (fun v L => v = none ∧ L = [.inr (4, [.int 0, .retAddr 0, .int 0])])) 0 [(0, _)] [] _ 0 0
  refine j_aload_n dJx4a65c_init_da8c8_0 rfl rfl ?_
  refine j_callI dJx4a65c_init_da8c8_1 kJxc12de_init_da8c8 rfl lJx4a65c_1 inJxc12de_init_da8c8 rfl (z_frame [0] rfl (by decide) (Nat.le_of_ble_eq_true rfl) (c_Jxc12de_init_da8c8 hl)) (Nat.le_of_ble_eq_true rfl) ⟨(Nat.le_of_ble_eq_true rfl), (Nat.le_of_ble_eq_true rfl)⟩ rfl (Nat.le_of_ble_eq_true rfl) rfl rfl (fun _ _ h => h.elim) ?_
  rintro _ _ ⟨_, _, ⟨rfl, rfl⟩, rfl, rfl⟩
  refine j_w ([.inr (4, [_, _, _])], z_no) rfl ?_
  refine j_aload_n dJx4a65c_init_da8c8_4 rfl rfl ?_
  refine j_gets dJx4a65c_init_da8c8_5 (List.mem_of_getElem? (i := 2) rfl) rfl (z_w 1353 ((lwg_6 108).trans (by decide +kernel)) (by decide +kernel)) ?_
  refine j_put (w' := ([.inr (4, [_, _, _])], z_no)) dJx4a65c_init_da8c8_8 fJx4a65c_9 tJx4a65c_1 rfl (Or.inr ⟨_, rfl⟩) rfl ?_
  refine j_vret dJx4a65c_init_da8c8_11 rfl ?_ (Nat.le_of_ble_eq_true rfl) (Nat.le_of_ble_eq_true rfl)
  exact ⟨rfl, rfl, rfl, rfl⟩
set_option maxRecDepth 100000 in
set_option maxHeartbeats 8000000 in
theorem c_Jx4a65c_size_8abf5 (hl : l.stackTraces = false) (mo sz : Int32) (n : Nat) (f : Nat → Value) : z_CF G l mJx4a65c_size_8abf5 10 0 0 [.inr (4, [.int mo, .ref 1, .int sz]), .inl (3, n, f)] [.ref 0] (fun v L => v = some (.int sz) ∧ L = [.inr (4, [.int mo, .ref 1, .int sz]), .inl (3, n, f)]) := by
  refine z_body hl (by decide) rfl (Nat.le_of_ble_eq_true rfl) ?_
  show z_J G l mJx4a65c_size_8abf5 (z_SF 10 0 0 [.inr (4, [.int mo, .ref 1, .int sz]), .inl (3, n, f)] (fun v L => v = some (.int sz) ∧ L = [.inr (4, [.int mo, .ref 1, .int sz]), .inl (3, n, f)])) 0 [(0, _)] [] _ 0 0
  refine j_aload_n dJx4a65c_size_8abf5_0 rfl rfl ?_
  refine j_getf dJx4a65c_size_8abf5_1 fJx4a65c_48 rfl rfl ?_
  refine j_iret dJx4a65c_size_8abf5_4 rfl rfl ?_ (Nat.le_of_ble_eq_true rfl) (Nat.le_of_ble_eq_true rfl)
  exact ⟨rfl, rfl, rfl, rfl⟩
set_option maxRecDepth 100000 in
set_option maxHeartbeats 8000000 in
theorem c_Jx4a65c_size_e (hl : l.stackTraces = false) (mo sz : Int32) : z_CF G l mJx4a65c_size_8abf5 10 0 0 [.inr (4, [.int mo, .retAddr 0, .int sz])] [.ref 0] (fun v L => v = some (.int sz) ∧ L = [.inr (4, [.int mo, .retAddr 0, .int sz])]) := by
  refine z_body hl (by decide) rfl (Nat.le_of_ble_eq_true rfl) ?_
  show z_J G l mJx4a65c_size_8abf5 (z_SF 10 0 0 [.inr (4, [.int mo, .retAddr 0, .int sz])] (fun v L => v = some (.int sz) ∧ L = [.inr (4, [.int mo, .retAddr 0, .int sz])])) 0 [(0, _)] [] _ 0 0
  refine j_aload_n dJx4a65c_size_8abf5_0 rfl rfl ?_
  refine j_getf dJx4a65c_size_8abf5_1 fJx4a65c_48 rfl rfl ?_
  refine j_iret dJx4a65c_size_8abf5_4 rfl rfl ?_ (Nat.le_of_ble_eq_true rfl) (Nat.le_of_ble_eq_true rfl)
  exact ⟨rfl, rfl, rfl, rfl⟩
set_option maxRecDepth 100000 in
set_option maxHeartbeats 8000000 in
theorem c_J3_checkIndex_8e157 (hl : l.stackTraces = false) (w : z_W) (a b : Int32) (h1 : ¬ a < 0) (h2 : a < b) : z_Con G l mJ3_checkIndex_8e157 10 0 0 w [.int a, .int b, .null] (fun v w9 => (v = some (.int a)) ∧ w9 = w) (fun _ _ => False) := by
  refine z_body hl (by decide) rfl (Nat.le_of_ble_eq_true rfl) ?_
  show z_J G l mJ3_checkIndex_8e157 ((10, 0, 0, w, (fun v w9 => (v = some (.int a)) ∧ w9 = w), fun _ _ => False)) 0 [(0, _), (1, _), (2, _)] [] _ 0 0
  refine j_iload_n dJ3_checkIndex_8e157_0 rfl ?_
  refine j_if_lt (tgt := 9) dJ3_checkIndex_8e157_1 (by decide) (fun c_1 => ?_) (fun c_1 => ?_)
  · exact absurd c_1 h1
  · refine j_iload_n dJ3_checkIndex_8e157_4 rfl ?_
    refine j_iload_n dJ3_checkIndex_8e157_5 rfl ?_
    refine j_icmp_lt (tgt := 16) dJ3_checkIndex_8e157_6 (by decide) (fun c_6 => ?_) (fun c_6 => ?_)
    · refine j_iload_n dJ3_checkIndex_8e157_16 rfl ?_
      refine j_iret dJ3_checkIndex_8e157_17 rfl rfl ?_ (Nat.le_of_ble_eq_true rfl) (Nat.le_of_ble_eq_true rfl)
      exact ⟨rfl, rfl⟩
    · exact absurd h2 c_6
set_option maxRecDepth 100000 in
set_option maxHeartbeats 8000000 in
theorem c_J15_checkIndex_7cf53 (hl : l.stackTraces = false) (w : z_W) (a b : Int32) (h1 : ¬ a < 0) (h2 : a < b) : z_Con G l mJ15_checkIndex_7cf53 11 0 0 w [.int a, .int b] (fun v w9 => (v = some (.int a)) ∧ w9 = w) (fun _ _ => False) := by
  refine z_body hl (by decide) rfl (Nat.le_of_ble_eq_true rfl) ?_
  show z_J G l mJ15_checkIndex_7cf53 ((11, 0, 0, w, (fun v w9 => (v = some (.int a)) ∧ w9 = w), fun _ _ => False)) 0 [(0, _), (1, _)] [] _ 0 0
  refine j_iload_n dJ15_checkIndex_7cf53_0 rfl ?_
  refine j_iload_n dJ15_checkIndex_7cf53_1 rfl ?_
  refine j_null dJ15_checkIndex_7cf53_2 ?_
  refine j_callS dJ15_checkIndex_7cf53_3 kJ3_checkIndex_8e157 lJ15_105 stJ3_checkIndex_8e157 (c_J3_checkIndex_8e157 hl _ _ _ h1 h2) (Nat.le_of_ble_eq_true rfl) ⟨(Nat.le_of_ble_eq_true rfl), (Nat.le_of_ble_eq_true rfl)⟩ rfl (Nat.le_of_ble_eq_true rfl) rfl rfl (fun _ _ h => h.elim) ?_
  rintro _ _ ⟨rfl, rfl⟩
  refine j_iret dJ15_checkIndex_7cf53_6 rfl rfl ?_ (Nat.le_of_ble_eq_true rfl) (Nat.le_of_ble_eq_true rfl)
  exact ⟨rfl, rfl⟩
set_option maxRecDepth 100000 in
set_option maxHeartbeats 8000000 in
theorem c_Jx4a65c_elementData_915e3 (hl : l.stackTraces = false) (mo sz : Int32) (n : Nat) (f : Nat → Value) (i : Int32) (hi : vp_in i n) (hr : z_ir (f i.toNatClampNeg) = true) : z_CF G l mJx4a65c_elementData_915e3 10 0 0 [.inr (4, [.int mo, .ref 1, .int sz]), .inl (3, n, f)] [.ref 0, .int i] (fun v L => v = some (f i.toNatClampNeg) ∧ L = [.inr (4, [.int mo, .ref 1, .int sz]), .inl (3, n, f)]) := by
  refine z_body hl (by decide) rfl (Nat.le_of_ble_eq_true rfl) ?_
  show z_J G l mJx4a65c_elementData_915e3 (z_SF 10 0 0 [.inr (4, [.int mo, .ref 1, .int sz]), .inl (3, n, f)] (fun v L => v = some (f i.toNatClampNeg) ∧ L = [.inr (4, [.int mo, .ref 1, .int sz]), .inl (3, n, f)])) 0 [(0, _), (1, _)] [] _ 0 0
  refine j_aload_n dJx4a65c_elementData_915e3_0 rfl rfl ?_
  refine j_getf dJx4a65c_elementData_915e3_1 fJx4a65c_9 rfl rfl ?_
  refine j_iload_n dJx4a65c_elementData_915e3_4 rfl ?_
  refine j_aald dJx4a65c_elementData_915e3_5 rfl rfl rfl hi rfl ?_
  refine j_aret dJx4a65c_elementData_915e3_6 rfl (Or.inl ⟨_, rfl⟩) hr ?_ (Nat.le_of_ble_eq_true rfl) (Nat.le_of_ble_eq_true rfl)
  exact ⟨rfl, rfl, rfl, rfl⟩
set_option maxRecDepth 100000 in
set_option maxHeartbeats 8000000 in
theorem c_Jx4a65c_grow_e (hl : l.stackTraces = false) (mo : Int32) : z_CN G l mJx4a65c_grow_92f84 11 1 10 1 [.inr (4, [.int mo, .retAddr 0, .int 0])] [.ref 0, .int 1] (fun v L => v = some (.ref 1) ∧ L = [.inr (4, [.int mo, .ref 1, .int 0]), .inl (3, 10, fun _ => .null)]) := by
  refine z_body hl (by decide) rfl (Nat.le_of_ble_eq_true rfl) ?_
  show z_J G l mJx4a65c_grow_92f84 (z_SN 11 1 10 1 [.inr (4, [.int mo, .retAddr 0, .int 0])] (fun v L => v = some (.ref 1) ∧ L = [.inr (4, [.int mo, .ref 1, .int 0]), .inl (3, 10, fun _ => .null)])) 0 [(0, _), (1, _)] [] _ 0 0
  refine j_aload_n dJx4a65c_grow_92f84_0 rfl rfl ?_
  refine j_getf dJx4a65c_grow_92f84_1 fJx4a65c_9 rfl rfl ?_
  refine j_alenK (k := 0) (N := 0) dJx4a65c_grow_92f84_4 (fun U q h hk => h.2.2.2.1 0 q (by decide) hk) ?_
  refine j_istore_n (lo' := [(2, _), (0, _), (1, _)]) dJx4a65c_grow_92f84_5 (by decide) rfl ?_
  refine j_iload_n dJx4a65c_grow_92f84_6 rfl ?_
  refine j_if_gt (tgt := 20) dJx4a65c_grow_92f84_7 (by decide) (fun c_7 => ?_) (fun c_7 => ?_)
  · exact absurd c_7 (by decide)
  · refine j_aload_n dJx4a65c_grow_92f84_10 rfl rfl ?_
    refine j_getf dJx4a65c_grow_92f84_11 fJx4a65c_9 rfl rfl ?_
    refine j_gets dJx4a65c_grow_92f84_14 (List.mem_of_getElem? (i := 2) rfl) rfl (z_w 1353 ((lwg_6 108).trans (by decide +kernel)) (by decide +kernel)) ?_
    refine j_acmp_eqK (tgt := 45) dJx4a65c_grow_92f84_17 (by decide) ?_
    refine j_aload_n dJx4a65c_grow_92f84_45 rfl rfl ?_
    refine j_bipush (v := 10) dJx4a65c_grow_92f84_46 (by decide) ?_
    refine j_iload_n dJx4a65c_grow_92f84_48 rfl ?_
    refine j_mmax dJx4a65c_grow_92f84_49 lJx4a65c_79 (Nat.le_of_ble_eq_true rfl) (Nat.le_of_ble_eq_true rfl) (Nat.le_of_ble_eq_true rfl) (Nat.le_of_ble_eq_true rfl) ?_
    refine j_anew (kd := 3) (N := 10) (w' := ([.inr (4, [_, _, _]), _], z_no)) (n := 1) dJx4a65c_grow_92f84_52 rfl aJx4a65c_7 ao_Object (by decide) (by decide) (by decide) (z_al_l rfl rfl) (Nat.le_of_ble_eq_true rfl) (Nat.le_of_ble_eq_true rfl) ?_
    refine j_dup_x1 dJx4a65c_grow_92f84_55 rfl rfl ?_
    refine j_put (w' := ([.inr (4, [_, _, _]), _], z_no)) dJx4a65c_grow_92f84_56 fJx4a65c_9 tJx4a65c_1 rfl (Or.inr ⟨_, rfl⟩) rfl ?_
    refine j_aret dJx4a65c_grow_92f84_59 rfl (Or.inr ⟨_, rfl⟩) rfl ?_ (Nat.le_of_ble_eq_true rfl) (Nat.le_of_ble_eq_true rfl)
    exact ⟨rfl, (Nat.le_of_ble_eq_true rfl), rfl, rfl⟩
set_option maxRecDepth 100000 in
set_option maxHeartbeats 8000000 in
theorem c_J8_newLength_10 (hl : l.stackTraces = false) (w : z_W)  : z_Con G l mJ8_newLength_cabcc 11 0 0 w [.int 10, .int 1, .int 5] (fun v w9 => (v = some (.int 15)) ∧ w9 = w) (fun _ _ => False) := by
  refine z_body hl (by decide) rfl (Nat.le_of_ble_eq_true rfl) ?_
  show z_J G l mJ8_newLength_cabcc ((11, 0, 0, w, (fun v w9 => (v = some (.int 15)) ∧ w9 = w), fun _ _ => False)) 0 [(0, _), (1, _), (2, _)] [] _ 0 0
  refine j_iload_n dJ8_newLength_cabcc_0 rfl ?_
  refine j_iload_n dJ8_newLength_cabcc_1 rfl ?_
  refine j_iload_n dJ8_newLength_cabcc_2 rfl ?_
  refine j_mmax dJ8_newLength_cabcc_3 lJ8_194 (Nat.le_of_ble_eq_true rfl) (Nat.le_of_ble_eq_true rfl) (Nat.le_of_ble_eq_true rfl) (Nat.le_of_ble_eq_true rfl) ?_
  refine j_iadd dJ8_newLength_cabcc_6 ?_
  refine j_istore_n (lo' := [(3, _), (0, _), (1, _), (2, _)]) dJ8_newLength_cabcc_7 (by decide) rfl ?_
  refine j_iconst (v := 0) dJ8_newLength_cabcc_8 (by decide) ?_
  refine j_iload_n dJ8_newLength_cabcc_9 rfl ?_
  refine j_icmp_ge (tgt := 21) dJ8_newLength_cabcc_10 (by decide) (fun c_10 => ?_) (fun c_10 => ?_)
  · exact absurd c_10 (by decide)
  · refine j_iload_n dJ8_newLength_cabcc_13 rfl ?_
    refine j_ldc dJ8_newLength_cabcc_14 kcJ8_200 ?_
    refine j_icmp_gt (tgt := 21) dJ8_newLength_cabcc_16 (by decide) (fun c_16 => ?_) (fun c_16 => ?_)
    · exact absurd c_16 (by decide)
    · refine j_iload_n dJ8_newLength_cabcc_19 rfl ?_
      refine j_iret dJ8_newLength_cabcc_20 rfl rfl ?_ (Nat.le_of_ble_eq_true rfl) (Nat.le_of_ble_eq_true rfl)
      first | exact ⟨rfl, rfl⟩ | exact ⟨by decide, rfl⟩
set_option maxRecDepth 100000 in
set_option maxHeartbeats 8000000 in
theorem c_J8_newLength_15 (hl : l.stackTraces = false) (w : z_W)  : z_Con G l mJ8_newLength_cabcc 11 0 0 w [.int 15, .int 1, .int 7] (fun v w9 => (v = some (.int 22)) ∧ w9 = w) (fun _ _ => False) := by
  refine z_body hl (by decide) rfl (Nat.le_of_ble_eq_true rfl) ?_
  show z_J G l mJ8_newLength_cabcc ((11, 0, 0, w, (fun v w9 => (v = some (.int 22)) ∧ w9 = w), fun _ _ => False)) 0 [(0, _), (1, _), (2, _)] [] _ 0 0
  refine j_iload_n dJ8_newLength_cabcc_0 rfl ?_
  refine j_iload_n dJ8_newLength_cabcc_1 rfl ?_
  refine j_iload_n dJ8_newLength_cabcc_2 rfl ?_
  refine j_mmax dJ8_newLength_cabcc_3 lJ8_194 (Nat.le_of_ble_eq_true rfl) (Nat.le_of_ble_eq_true rfl) (Nat.le_of_ble_eq_true rfl) (Nat.le_of_ble_eq_true rfl) ?_
  refine j_iadd dJ8_newLength_cabcc_6 ?_
  refine j_istore_n (lo' := [(3, _), (0, _), (1, _), (2, _)]) dJ8_newLength_cabcc_7 (by decide) rfl ?_
  refine j_iconst (v := 0) dJ8_newLength_cabcc_8 (by decide) ?_
  refine j_iload_n dJ8_newLength_cabcc_9 rfl ?_
  refine j_icmp_ge (tgt := 21) dJ8_newLength_cabcc_10 (by decide) (fun c_10 => ?_) (fun c_10 => ?_)
  · exact absurd c_10 (by decide)
  · refine j_iload_n dJ8_newLength_cabcc_13 rfl ?_
    refine j_ldc dJ8_newLength_cabcc_14 kcJ8_200 ?_
    refine j_icmp_gt (tgt := 21) dJ8_newLength_cabcc_16 (by decide) (fun c_16 => ?_) (fun c_16 => ?_)
    · exact absurd c_16 (by decide)
    · refine j_iload_n dJ8_newLength_cabcc_19 rfl ?_
      refine j_iret dJ8_newLength_cabcc_20 rfl rfl ?_ (Nat.le_of_ble_eq_true rfl) (Nat.le_of_ble_eq_true rfl)
      first | exact ⟨rfl, rfl⟩ | exact ⟨by decide, rfl⟩
set_option maxRecDepth 100000 in
set_option maxHeartbeats 8000000 in
theorem c_Jx4a65c_get_915e3 (hl : l.stackTraces = false) (mo sz : Int32) (n : Nat) (f : Nat → Value) (i : Int32) (h1 : ¬ i < 0) (h2 : i < sz) (hi : vp_in i n) (hr : z_ir (f i.toNatClampNeg) = true) : z_CF G l mJx4a65c_get_915e3 13 0 0 [.inr (4, [.int mo, .ref 1, .int sz]), .inl (3, n, f)] [.ref 0, .int i] (fun v L => v = some (f i.toNatClampNeg) ∧ L = [.inr (4, [.int mo, .ref 1, .int sz]), .inl (3, n, f)]) := by
  refine z_body hl (by decide) rfl (Nat.le_of_ble_eq_true rfl) ?_
  show z_J G l mJx4a65c_get_915e3 (z_SF 13 0 0 [.inr (4, [.int mo, .ref 1, .int sz]), .inl (3, n, f)] (fun v L => v = some (f i.toNatClampNeg) ∧ L = [.inr (4, [.int mo, .ref 1, .int sz]), .inl (3, n, f)])) 0 [(0, _), (1, _)] [] _ 0 0
  refine j_iload_n dJx4a65c_get_915e3_0 rfl ?_
  refine j_aload_n dJx4a65c_get_915e3_1 rfl rfl ?_
  refine j_getf dJx4a65c_get_915e3_2 fJx4a65c_48 rfl rfl ?_
  refine j_callS dJx4a65c_get_915e3_5 kJ15_checkIndex_7cf53 lJx4a65c_118 stJ15_checkIndex_7cf53 (c_J15_checkIndex_7cf53 hl _ _ _ h1 h2) (Nat.le_of_ble_eq_true rfl) ⟨(Nat.le_of_ble_eq_true rfl), (Nat.le_of_ble_eq_true rfl)⟩ rfl (Nat.le_of_ble_eq_true rfl) rfl rfl (fun _ _ h => h.elim) ?_
  rintro _ _ ⟨rfl, rfl⟩
  refine j_pop dJx4a65c_get_915e3_8 rfl ?_
  refine j_aload_n dJx4a65c_get_915e3_9 rfl rfl ?_
  refine j_iload_n dJx4a65c_get_915e3_10 rfl ?_
  refine j_callV (q := (RJx4a65c, TJx4a65c, 3)) dJx4a65c_get_915e3_11 kJx4a65c_elementData_915e3 lJx4a65c_123 inJx4a65c_elementData_915e3 seJx4a65c_elementData_915e3 rfl rfl (z_dirF (c_Jx4a65c_elementData_915e3 hl _ _ _ _ _ hi hr)) (Nat.le_of_ble_eq_true rfl) ⟨(Nat.le_of_ble_eq_true rfl), (Nat.le_of_ble_eq_true rfl)⟩ rfl (Nat.le_of_ble_eq_true rfl) rfl rfl (fun _ _ h => h.elim) ?_
  rintro _ _ ⟨_, ⟨rfl, rfl⟩, rfl⟩
  refine j_aret dJx4a65c_get_915e3_14 rfl (Or.inl ⟨_, rfl⟩) hr ?_ (Nat.le_of_ble_eq_true rfl) (Nat.le_of_ble_eq_true rfl)
  exact ⟨rfl, rfl, rfl, rfl⟩
theorem cs_IO : Cond.castable "java/lang/Integer" "java/lang/Object" ∈ z_nst := (z_wn 1980 ((lwg_9 15).trans (by decide +kernel)) (by decide +kernel))
set_option maxRecDepth 100000 in
set_option maxHeartbeats 8000000 in
theorem c_Jx4a65c_set_bcc79 (hl : l.stackTraces = false) (mo sz : Int32) (n : Nat) (f : Nat → Value) (i : Int32) (b : UInt32) (h1 : ¬ i < 0) (h2 : i < sz) (hi : vp_in i n) (hr : z_ir (f i.toNatClampNeg) = true) : z_CF G l mJx4a65c_set_bcc79 13 0 0 [.inr (4, [.int mo, .ref 1, .int sz]), .inl (3, n, f)] [.ref 0, .int i, .float b] (fun v L => v = some (f i.toNatClampNeg) ∧ L = [.inr (4, [.int mo, .ref 1, .int sz]), .inl (3, n, (z_u f i.toNatClampNeg (.float b)))]) := by
  refine z_body hl (by decide) rfl (Nat.le_of_ble_eq_true rfl) ?_
  show z_J G l mJx4a65c_set_bcc79 (z_SF 13 0 0 [.inr (4, [.int mo, .ref 1, .int sz]), .inl (3, n, f)] (fun v L => v = some (f i.toNatClampNeg) ∧ L = [.inr (4, [.int mo, .ref 1, .int sz]), .inl (3, n, (z_u f i.toNatClampNeg (.float b)))])) 0 [(0, _), (1, _), (2, _)] [] _ 0 0
  refine j_iload_n dJx4a65c_set_bcc79_0 rfl ?_
  refine j_aload_n dJx4a65c_set_bcc79_1 rfl rfl ?_
  refine j_getf dJx4a65c_set_bcc79_2 fJx4a65c_48 rfl rfl ?_
  refine j_callS dJx4a65c_set_bcc79_5 kJ15_checkIndex_7cf53 lJx4a65c_118 stJ15_checkIndex_7cf53 (c_J15_checkIndex_7cf53 hl _ _ _ h1 h2) (Nat.le_of_ble_eq_true rfl) ⟨(Nat.le_of_ble_eq_true rfl), (Nat.le_of_ble_eq_true rfl)⟩ rfl (Nat.le_of_ble_eq_true rfl) rfl rfl (fun _ _ h => h.elim) ?_
  rintro _ _ ⟨rfl, rfl⟩
  refine j_pop dJx4a65c_set_bcc79_8 rfl ?_
  refine j_aload_n dJx4a65c_set_bcc79_9 rfl rfl ?_
  refine j_iload_n dJx4a65c_set_bcc79_10 rfl ?_
  refine j_callV (q := (RJx4a65c, TJx4a65c, 3)) dJx4a65c_set_bcc79_11 kJx4a65c_elementData_915e3 lJx4a65c_123 inJx4a65c_elementData_915e3 seJx4a65c_elementData_915e3 rfl rfl (z_dirF (c_Jx4a65c_elementData_915e3 hl _ _ _ _ _ hi hr)) (Nat.le_of_ble_eq_true rfl) ⟨(Nat.le_of_ble_eq_true rfl), (Nat.le_of_ble_eq_true rfl)⟩ rfl (Nat.le_of_ble_eq_true rfl) rfl rfl (fun _ _ h => h.elim) ?_
  rintro _ _ ⟨_, ⟨rfl, rfl⟩, rfl⟩
  refine j_astore_n (lo' := [(3, _), (0, _), (1, _), (2, _)]) dJx4a65c_set_bcc79_14 hr (by decide) rfl ?_
  refine j_aload_n dJx4a65c_set_bcc79_15 rfl rfl ?_
  refine j_getf dJx4a65c_set_bcc79_16 fJx4a65c_9 rfl rfl ?_
  refine j_iload_n dJx4a65c_set_bcc79_19 rfl ?_
  refine j_aload_n dJx4a65c_set_bcc79_20 rfl rfl ?_
  refine j_aastO (w' := ([.inr (4, [_, _, _]), .inl (3, _, _)], z_no)) (C := "java/lang/Integer") (E := "java/lang/Object") dJx4a65c_set_bcc79_21 rfl rfl rfl cs_IO hi rfl ?_
  refine j_aload_n dJx4a65c_set_bcc79_22 rfl hr ?_
  refine j_aret dJx4a65c_set_bcc79_23 rfl (Or.inl ⟨_, rfl⟩) hr ?_ (Nat.le_of_ble_eq_true rfl) (Nat.le_of_ble_eq_true rfl)
  exact ⟨rfl, rfl, rfl, rfl⟩
set_option maxRecDepth 100000 in
set_option maxHeartbeats 8000000 in
theorem c_Jx4a65c_add_72be8 (hl : l.stackTraces = false) (mo q9 : Int32) (n k : Nat) (f : Nat → Value) (b : UInt32) (hk : k < n) (hn : n < 2147483648) : z_CF G l mJx4a65c_add_72be8 12 0 0 [.inr (4, [.int mo, .ref 1, .int q9]), .inl (3, n, f)] [.ref 0, .float b, .ref 1, .int (nI k)] (fun v L => v = none ∧ L = [.inr (4, [.int mo, .ref 1, .int (nI (k + 1))]), .inl (3, n, (z_u f (nI k).toNatClampNeg (.float b)))]) := by
  refine z_body hl (by decide) rfl (Nat.le_of_ble_eq_true rfl) ?_
  show z_J G l mJx4a65c_add_72be8 (z_SF 12 0 0 [.inr (4, [.int mo, .ref 1, .int q9]), .inl (3, n, f)] (fun v L => v = none ∧ L = [.inr (4, [.int mo, .ref 1, .int (nI (k + 1))]), .inl (3, n, (z_u f (nI k).toNatClampNeg (.float b)))])) 0 [(0, _), (1, _), (2, _), (3, _)] [] _ 0 0
  refine j_iload_n dJx4a65c_add_72be8_0 rfl ?_
  refine j_aload_n dJx4a65c_add_72be8_1 rfl rfl ?_
  refine j_alen dJx4a65c_add_72be8_2 rfl rfl rfl ?_
  refine j_icmp_ne (tgt := 11) dJx4a65c_add_72be8_3 (by decide) (fun c_3 => ?_) (fun c_3 => ?_)
  · refine j_aload_n dJx4a65c_add_72be8_11 rfl rfl ?_
    refine j_iload_n dJx4a65c_add_72be8_12 rfl ?_
    refine j_aload_n dJx4a65c_add_72be8_13 rfl rfl ?_
    refine j_aastO (w' := ([.inr (4, [_, _, _]), .inl (3, _, _)], z_no)) (C := "java/lang/Integer") (E := "java/lang/Object") dJx4a65c_add_72be8_14 rfl rfl rfl cs_IO (vp_in_nI hk hn) rfl ?_
    refine j_aload_n dJx4a65c_add_72be8_15 rfl rfl ?_
    refine j_iload_n dJx4a65c_add_72be8_16 rfl ?_
    refine j_iconst (v := 1) dJx4a65c_add_72be8_17 (by decide) ?_
    refine j_iadd dJx4a65c_add_72be8_18 ?_
    refine j_top (congrArg Value.int (nI_1 k)) ?_
    refine j_put (w' := ([.inr (4, [_, _, _]), .inl (3, _, _)], z_no)) dJx4a65c_add_72be8_19 fJx4a65c_48 tJx4a65c_2 rfl ⟨rfl, rfl⟩ rfl ?_
    refine j_vret dJx4a65c_add_72be8_22 rfl ?_ (Nat.le_of_ble_eq_true rfl) (Nat.le_of_ble_eq_true rfl)
    exact ⟨rfl, rfl, rfl, rfl⟩
  · exact absurd ((nI_eq (by omega) hn).mp c_3) (by omega)
set_option maxRecDepth 100000 in
set_option maxHeartbeats 8000000 in
theorem c_Jx4a65c_add_9ea2d (hl : l.stackTraces = false) (mo : Int32) (n k : Nat) (f : Nat → Value) (b : UInt32) (hk : k < n) (hn : n < 2147483648) : z_CF G l mJx4a65c_add_9ea2d 14 0 0 [.inr (4, [.int mo, .ref 1, .int (nI k)]), .inl (3, n, f)] [.ref 0, .float b] (fun v L => v = some (.int 1) ∧ ∃ mo' : Int32, L = [.inr (4, [.int mo', .ref 1, .int (nI (k + 1))]), .inl (3, n, (z_u f (nI k).toNatClampNeg (.float b)))]) := by
  refine z_body hl (by decide) rfl (Nat.le_of_ble_eq_true rfl) ?_
  show z_J G l mJx4a65c_add_9ea2d (z_SF 14 0 0 [.inr (4, [.int mo, .ref 1, .int (nI k)]), .inl (3, n, f)] (fun v L => v = some (.int 1) ∧ ∃ mo' : Int32, L = [.inr (4, [.int mo', .ref 1, .int (nI (k + 1))]), .inl (3, n, (z_u f (nI k).toNatClampNeg (.float b)))])) 0 [(0, _), (1, _)] [] _ 0 0
  refine j_aload_n dJx4a65c_add_9ea2d_0 rfl rfl ?_
  refine j_dup dJx4a65c_add_9ea2d_1 rfl ?_
  refine j_getf dJx4a65c_add_9ea2d_2 fJx4a65c_63 rfl rfl ?_
  refine j_iconst (v := 1) dJx4a65c_add_9ea2d_5 (by decide) ?_
  refine j_iadd dJx4a65c_add_9ea2d_6 ?_
  refine j_put (w' := ([.inr (4, [_, _, _]), .inl (3, _, _)], z_no)) dJx4a65c_add_9ea2d_7 fJx4a65c_63 tJx4a65c_0 rfl ⟨rfl, rfl⟩ rfl ?_
  refine j_aload_n dJx4a65c_add_9ea2d_10 rfl rfl ?_
  refine j_aload_n dJx4a65c_add_9ea2d_11 rfl rfl ?_
  refine j_aload_n dJx4a65c_add_9ea2d_12 rfl rfl ?_
  refine j_getf dJx4a65c_add_9ea2d_13 fJx4a65c_9 rfl rfl ?_
  refine j_aload_n dJx4a65c_add_9ea2d_16 rfl rfl ?_
  refine j_getf dJx4a65c_add_9ea2d_17 fJx4a65c_48 rfl rfl ?_
  refine j_callV (q := (RJx4a65c, TJx4a65c, 3)) dJx4a65c_add_9ea2d_20 kJx4a65c_add_72be8 lJx4a65c_131 inJx4a65c_add_72be8 seJx4a65c_add_72be8 rfl rfl (z_dirF (c_Jx4a65c_add_72be8 hl _ _ _ _ _ _ hk hn)) (Nat.le_of_ble_eq_true rfl) ⟨(Nat.le_of_ble_eq_true rfl), (Nat.le_of_ble_eq_true rfl)⟩ rfl (Nat.le_of_ble_eq_true rfl) rfl rfl (fun _ _ h => h.elim) ?_
  rintro _ _ ⟨_, ⟨rfl, rfl⟩, rfl⟩
  refine j_iconst (v := 1) dJx4a65c_add_9ea2d_23 (by decide) ?_
  refine j_iret dJx4a65c_add_9ea2d_24 rfl rfl ?_ (Nat.le_of_ble_eq_true rfl) (Nat.le_of_ble_eq_true rfl)
  exact ⟨rfl, rfl, rfl, _, rfl⟩
theorem ac_n : Cond.native arraycopyName ∈ z_tbl := (z_w 636 ((lwg_3 111).trans (by decide +kernel)) (by decide +kernel))
theorem ac_s : Cond.static arraycopyName ∈ z_tbl := (z_w 635 ((lwg_3 110).trans (by decide +kernel)) (by decide +kernel))
theorem ac_i : Cond.initialized "java/lang/System" ∈ z_tbl := (z_w 59 ((lwg_1 14).trans (by decide +kernel)) (by decide +kernel))
theorem cl_110 : Cond.classLink RJ7 110 "[Ljava/lang/Object;" ∈ z_tbl := (z_w 1448 ((lwg_6 203).trans (by decide +kernel)) (by decide +kernel))
theorem z_dirN {G : z_G} {l : Launch} {y : z_M} {rk mc ms nm : Nat} {L0 : List z_E} {av : List Value} {Q : Option Value → List z_E → Prop} (h : z_CN G l y rk mc ms nm L0 av Q) : z_Con G l y rk mc ms (L0, z_no) av (fun v w => ∃ L' : List z_E, Q v L' ∧ w = (L', z_no)) (fun _ _ => False) :=
  z_weak h (fun _ w h => ⟨w.1, h.2.2, by rw [← h.1]⟩) (fun _ _ h => h)
theorem gc_d : Cond.declares ⟨"java/lang/Object", "getClass", "()Ljava/lang/Class;"⟩ ∈ z_nst := (z_wn 1633 ((lwg_7 148).trans (by decide +kernel)) (by decide +kernel))
theorem gc_s : Cond.selects "[Ljava/lang/Object;" ⟨"java/lang/Object", "getClass", "()Ljava/lang/Class;"⟩ ⟨"java/lang/Object", "getClass", "()Ljava/lang/Class;"⟩ ∈ z_tbl := (z_w 1997 ((lwg_9 32).trans (by decide +kernel)) (by decide +kernel))
theorem gc_i : Cond.instanceMethod ⟨"java/lang/Object", "getClass", "()Ljava/lang/Class;"⟩ ∈ z_tbl := (z_w 1423 ((lwg_6 178).trans (by decide +kernel)) (by decide +kernel))
theorem gc_n : Cond.native ⟨"java/lang/Object", "getClass", "()Ljava/lang/Class;"⟩ ∈ z_tbl := (z_w 1444 ((lwg_6 199).trans (by decide +kernel)) (by decide +kernel))
set_option maxRecDepth 100000 in
set_option maxHeartbeats 8000000 in
theorem c_J7_copyOf_10 (hl : l.stackTraces = false) (mo sz : Int32) (g : Nat → UInt32) : z_CN G l mJ7_copyOf_6403c 12 1 15 1 [.inr (4, [.int mo, .ref 1, .int sz]), .inl (3, 10, fun j => .float (g j))] [.ref 1, .int 15, .retAddr 6] (fun v L => v = some (.ref 2) ∧ ∃ F : Nat → Value, L = [.inr (4, [.int mo, .ref 1, .int sz]), .inl (3, 10, fun j => .float (g j)), .inl (3, 15, F)] ∧ (∀ j, j < 10 → F j = .float (g j)) ∧ ∀ j, 10 ≤ j → F j = .null) := by
  refine z_body hl (by decide) rfl (Nat.le_of_ble_eq_true rfl) ?_
  show z_J G l mJ7_copyOf_6403c (z_SN 12 1 15 1 [.inr (4, [.int mo, .ref 1, .int sz]), .inl (3, 10, fun j => .float (g j))] (fun v L => v = some (.ref 2) ∧ ∃ F : Nat → Value, L = [.inr (4, [.int mo, .ref 1, .int sz]), .inl (3, 10, fun j => .float (g j)), .inl (3, 15, F)] ∧ (∀ j, j < 10 → F j = .float (g j)) ∧ ∀ j, 10 ≤ j → F j = .null)) 0 [(0, _), (1, _), (2, _)] [] _ 0 0
  refine j_aload_n dJ7_copyOf_6403c_0 rfl rfl ?_
  refine j_ldcM dJ7_copyOf_6403c_1 cl_110 ?_
  refine j_acmp_neK (tgt := 13) dJ7_copyOf_6403c_3 (by decide) ?_
  refine j_iload_n dJ7_copyOf_6403c_6 rfl ?_
  refine j_anew (kd := 3) (N := 15) (w' := ([.inr (4, [_, _, _]), .inl (3, _, _), .inl (3, _, _)], z_no)) (n := 2) dJ7_copyOf_6403c_7 rfl aJ7_2 ao_Object (by decide) (by decide) (by decide) (z_al_l rfl rfl) (Nat.le_of_ble_eq_true rfl) (Nat.le_of_ble_eq_true rfl) ?_
  refine j_goto (tgt := 24) dJ7_copyOf_6403c_10 (by decide) ?_
  refine j_astore_n (lo' := [(3, _), (0, _), (1, _), (2, _)]) dJ7_copyOf_6403c_24 rfl (by decide) rfl ?_
  refine j_aload_n dJ7_copyOf_6403c_25 rfl rfl ?_
  refine j_iconst (v := 0) dJ7_copyOf_6403c_26 (by decide) ?_
  refine j_aload_n dJ7_copyOf_6403c_27 rfl rfl ?_
  refine j_iconst (v := 0) dJ7_copyOf_6403c_28 (by decide) ?_
  refine j_aload_n dJ7_copyOf_6403c_29 rfl rfl ?_
  refine j_alen dJ7_copyOf_6403c_30 rfl rfl rfl ?_
  refine j_iload_n dJ7_copyOf_6403c_31 rfl ?_
  refine j_mmin dJ7_copyOf_6403c_32 lJ7_304 (Nat.le_of_ble_eq_true rfl) (Nat.le_of_ble_eq_true rfl) (Nat.le_of_ble_eq_true rfl) (Nat.le_of_ble_eq_true rfl) ?_
  refine j_acopy (w' := ([.inr (4, [_, _, _]), .inl (3, _, _), .inl (3, _, _)], z_no)) dJ7_copyOf_6403c_35 lJ7_150 ac_n ac_s ac_i rfl rfl rfl (by decide) (by decide) (by decide) (by decide) (by decide) (fun i hi => Or.inr (Or.inr ⟨"java/lang/Integer", "java/lang/Object", rfl, rfl, cs_IO⟩)) (Nat.le_of_ble_eq_true rfl) (Nat.le_of_ble_eq_true rfl) rfl ?_
  refine j_aload_n dJ7_copyOf_6403c_38 rfl rfl ?_
  refine j_aret dJ7_copyOf_6403c_39 rfl (Or.inr ⟨_, rfl⟩) rfl ?_ (Nat.le_of_ble_eq_true rfl) (Nat.le_of_ble_eq_true rfl)
  exact ⟨rfl, (Nat.le_of_ble_eq_true rfl), rfl, _, rfl, fun j hj => by show (if (0 : Nat) ≤ j ∧ j < 0 + 10 then Value.float (g (0 + (j - 0))) else Value.null) = _; rw [if_pos (by omega), Nat.zero_add, Nat.sub_zero], fun j hj => by show (if (0 : Nat) ≤ j ∧ j < 0 + 10 then Value.float (g (0 + (j - 0))) else Value.null) = _; rw [if_neg (by omega)]⟩
set_option maxRecDepth 100000 in
set_option maxHeartbeats 8000000 in
theorem c_J7_copyOf2_10 (hl : l.stackTraces = false) (mo sz : Int32) (g : Nat → UInt32) : z_CN G l mJ7_copyOf_1904c 13 1 15 1 [.inr (4, [.int mo, .ref 1, .int sz]), .inl (3, 10, fun j => .float (g j))] [.ref 1, .int 15] (fun v L => v = some (.ref 2) ∧ ∃ F : Nat → Value, L = [.inr (4, [.int mo, .ref 1, .int sz]), .inl (3, 10, fun j => .float (g j)), .inl (3, 15, F)] ∧ (∀ j, j < 10 → F j = .float (g j)) ∧ ∀ j, 10 ≤ j → F j = .null) := by
  refine z_body hl (by decide) rfl (Nat.le_of_ble_eq_true rfl) ?_
  show z_J G l mJ7_copyOf_1904c (z_SN 13 1 15 1 [.inr (4, [.int mo, .ref 1, .int sz]), .inl (3, 10, fun j => .float (g j))] (fun v L => v = some (.ref 2) ∧ ∃ F : Nat → Value, L = [.inr (4, [.int mo, .ref 1, .int sz]), .inl (3, 10, fun j => .float (g j)), .inl (3, 15, F)] ∧ (∀ j, j < 10 → F j = .float (g j)) ∧ ∀ j, 10 ≤ j → F j = .null)) 0 [(0, _), (1, _)] [] _ 0 0
  refine j_aload_n dJ7_copyOf_1904c_0 rfl rfl ?_
  refine j_iload_n dJ7_copyOf_1904c_1 rfl ?_
  refine j_aload_n dJ7_copyOf_1904c_2 rfl rfl ?_
  refine j_getC dJ7_copyOf_1904c_3 lJ7_86 gc_d gc_s gc_i gc_n rfl (Nat.le_of_ble_eq_true rfl) (Nat.le_of_ble_eq_true rfl) ?_
  refine j_callS dJ7_copyOf_1904c_6 kJ7_copyOf_6403c lJ7_300 stJ7_copyOf_6403c (z_dirN (c_J7_copyOf_10 hl _ _ _)) (Nat.le_of_ble_eq_true rfl) ⟨(Nat.le_of_ble_eq_true rfl), (Nat.le_of_ble_eq_true rfl)⟩ rfl (Nat.le_of_ble_eq_true rfl) rfl rfl (fun _ _ h => h.elim) ?_
  rintro _ _ ⟨_, ⟨rfl, F, rfl, hF1, hF2⟩, rfl⟩
  refine j_aret dJ7_copyOf_1904c_9 rfl (Or.inr ⟨_, rfl⟩) rfl ?_ (Nat.le_of_ble_eq_true rfl) (Nat.le_of_ble_eq_true rfl)
  exact ⟨rfl, (Nat.le_of_ble_eq_true rfl), rfl, _, rfl, hF1, hF2⟩
set_option maxRecDepth 100000 in
set_option maxHeartbeats 8000000 in
theorem c_Jx4a65c_grow_10 (hl : l.stackTraces = false) (mo sz : Int32) (g : Nat → UInt32) : z_CN G l mJx4a65c_grow_92f84 14 1 15 1 [.inr (4, [.int mo, .ref 1, .int sz]), .inl (3, 10, fun j => .float (g j))] [.ref 0, .int 11] (fun v L => v = some (.ref 2) ∧ ∃ F : Nat → Value, L = [.inr (4, [.int mo, .ref 2, .int sz]), .inl (3, 10, fun j => .float (g j)), .inl (3, 15, F)] ∧ (∀ j, j < 10 → F j = .float (g j)) ∧ ∀ j, 10 ≤ j → F j = .null) := by
  refine z_body hl (by decide) rfl (Nat.le_of_ble_eq_true rfl) ?_
  show z_J G l mJx4a65c_grow_92f84 (z_SN 14 1 15 1 [.inr (4, [.int mo, .ref 1, .int sz]), .inl (3, 10, fun j => .float (g j))] (fun v L => v = some (.ref 2) ∧ ∃ F : Nat → Value, L = [.inr (4, [.int mo, .ref 2, .int sz]), .inl (3, 10, fun j => .float (g j)), .inl (3, 15, F)] ∧ (∀ j, j < 10 → F j = .float (g j)) ∧ ∀ j, 10 ≤ j → F j = .null)) 0 [(0, _), (1, _)] [] _ 0 0
  refine j_aload_n dJx4a65c_grow_92f84_0 rfl rfl ?_
  refine j_getf dJx4a65c_grow_92f84_1 fJx4a65c_9 rfl rfl ?_
  refine j_alen dJx4a65c_grow_92f84_4 rfl rfl rfl ?_
  refine j_istore_n (lo' := [(2, _), (0, _), (1, _)]) dJx4a65c_grow_92f84_5 (by decide) rfl ?_
  refine j_iload_n dJx4a65c_grow_92f84_6 rfl ?_
  refine j_if_gt (tgt := 20) dJx4a65c_grow_92f84_7 (by decide) (fun c_7 => ?_) (fun c_7 => ?_)
  · refine j_iload_n dJx4a65c_grow_92f84_20 rfl ?_
    refine j_iload_n dJx4a65c_grow_92f84_21 rfl ?_
    refine j_iload_n dJx4a65c_grow_92f84_22 rfl ?_
    refine j_isub dJx4a65c_grow_92f84_23 ?_
    refine j_iload_n dJx4a65c_grow_92f84_24 rfl ?_
    refine j_iconst (v := 1) dJx4a65c_grow_92f84_25 (by decide) ?_
    refine j_ishr dJx4a65c_grow_92f84_26 ?_
    refine j_callS dJx4a65c_grow_92f84_27 kJ8_newLength_cabcc lJx4a65c_73 stJ8_newLength_cabcc (c_J8_newLength_10 hl _) (Nat.le_of_ble_eq_true rfl) ⟨(Nat.le_of_ble_eq_true rfl), (Nat.le_of_ble_eq_true rfl)⟩ rfl (Nat.le_of_ble_eq_true rfl) rfl rfl (fun _ _ h => h.elim) ?_
    rintro _ _ ⟨rfl, rfl⟩
    refine j_istore_n (lo' := [(3, _), (2, _), (0, _), (1, _)]) dJx4a65c_grow_92f84_30 (by decide) rfl ?_
    refine j_aload_n dJx4a65c_grow_92f84_31 rfl rfl ?_
    refine j_aload_n dJx4a65c_grow_92f84_32 rfl rfl ?_
    refine j_getf dJx4a65c_grow_92f84_33 fJx4a65c_9 rfl rfl ?_
    refine j_iload_n dJx4a65c_grow_92f84_36 rfl ?_
    refine j_callS dJx4a65c_grow_92f84_37 kJ7_copyOf_1904c lJx4a65c_66 stJ7_copyOf_1904c (z_dirN (c_J7_copyOf2_10 hl _ _ _)) (Nat.le_of_ble_eq_true rfl) ⟨(Nat.le_of_ble_eq_true rfl), (Nat.le_of_ble_eq_true rfl)⟩ rfl (Nat.le_of_ble_eq_true rfl) rfl rfl (fun _ _ h => h.elim) ?_
    rintro _ _ ⟨_, ⟨rfl, F, rfl, hF1, hF2⟩, rfl⟩
    refine j_dup_x1 dJx4a65c_grow_92f84_40 rfl rfl ?_
    refine j_put (w' := ([.inr (4, [_, _, _]), .inl (3, _, _), .inl (3, _, _)], z_no)) dJx4a65c_grow_92f84_41 fJx4a65c_9 tJx4a65c_1 rfl (Or.inr ⟨_, rfl⟩) rfl ?_
    refine j_aret dJx4a65c_grow_92f84_44 rfl (Or.inr ⟨_, rfl⟩) rfl ?_ (Nat.le_of_ble_eq_true rfl) (Nat.le_of_ble_eq_true rfl)
    exact ⟨rfl, (Nat.le_of_ble_eq_true rfl), rfl, _, rfl, hF1, hF2⟩
  · exact absurd (by decide) c_7
set_option maxRecDepth 100000 in
set_option maxHeartbeats 8000000 in
theorem c_J7_copyOf_15 (hl : l.stackTraces = false) (mo sz : Int32) (g : Nat → UInt32) : z_CN G l mJ7_copyOf_6403c 12 1 22 1 [.inr (4, [.int mo, .ref 1, .int sz]), .inl (3, 15, fun j => .float (g j))] [.ref 1, .int 22, .retAddr 6] (fun v L => v = some (.ref 2) ∧ ∃ F : Nat → Value, L = [.inr (4, [.int mo, .ref 1, .int sz]), .inl (3, 15, fun j => .float (g j)), .inl (3, 22, F)] ∧ (∀ j, j < 15 → F j = .float (g j)) ∧ ∀ j, 15 ≤ j → F j = .null) := by
  refine z_body hl (by decide) rfl (Nat.le_of_ble_eq_true rfl) ?_
  show z_J G l mJ7_copyOf_6403c (z_SN 12 1 22 1 [.inr (4, [.int mo, .ref 1, .int sz]), .inl (3, 15, fun j => .float (g j))] (fun v L => v = some (.ref 2) ∧ ∃ F : Nat → Value, L = [.inr (4, [.int mo, .ref 1, .int sz]), .inl (3, 15, fun j => .float (g j)), .inl (3, 22, F)] ∧ (∀ j, j < 15 → F j = .float (g j)) ∧ ∀ j, 15 ≤ j → F j = .null)) 0 [(0, _), (1, _), (2, _)] [] _ 0 0
  refine j_aload_n dJ7_copyOf_6403c_0 rfl rfl ?_
  refine j_ldcM dJ7_copyOf_6403c_1 cl_110 ?_
  refine j_acmp_neK (tgt := 13) dJ7_copyOf_6403c_3 (by decide) ?_
  refine j_iload_n dJ7_copyOf_6403c_6 rfl ?_
  refine j_anew (kd := 3) (N := 22) (w' := ([.inr (4, [_, _, _]), .inl (3, _, _), .inl (3, _, _)], z_no)) (n := 2) dJ7_copyOf_6403c_7 rfl aJ7_2 ao_Object (by decide) (by decide) (by decide) (z_al_l rfl rfl) (Nat.le_of_ble_eq_true rfl) (Nat.le_of_ble_eq_true rfl) ?_
  refine j_goto (tgt := 24) dJ7_copyOf_6403c_10 (by decide) ?_
  refine j_astore_n (lo' := [(3, _), (0, _), (1, _), (2, _)]) dJ7_copyOf_6403c_24 rfl (by decide) rfl ?_
  refine j_aload_n dJ7_copyOf_6403c_25 rfl rfl ?_
  refine j_iconst (v := 0) dJ7_copyOf_6403c_26 (by decide) ?_
  refine j_aload_n dJ7_copyOf_6403c_27 rfl rfl ?_
  refine j_iconst (v := 0) dJ7_copyOf_6403c_28 (by decide) ?_
  refine j_aload_n dJ7_copyOf_6403c_29 rfl rfl ?_
  refine j_alen dJ7_copyOf_6403c_30 rfl rfl rfl ?_
  refine j_iload_n dJ7_copyOf_6403c_31 rfl ?_
  refine j_mmin dJ7_copyOf_6403c_32 lJ7_304 (Nat.le_of_ble_eq_true rfl) (Nat.le_of_ble_eq_true rfl) (Nat.le_of_ble_eq_true rfl) (Nat.le_of_ble_eq_true rfl) ?_
  refine j_acopy (w' := ([.inr (4, [_, _, _]), .inl (3, _, _), .inl (3, _, _)], z_no)) dJ7_copyOf_6403c_35 lJ7_150 ac_n ac_s ac_i rfl rfl rfl (by decide) (by decide) (by decide) (by decide) (by decide) (fun i hi => Or.inr (Or.inr ⟨"java/lang/Integer", "java/lang/Object", rfl, rfl, cs_IO⟩)) (Nat.le_of_ble_eq_true rfl) (Nat.le_of_ble_eq_true rfl) rfl ?_
  refine j_aload_n dJ7_copyOf_6403c_38 rfl rfl ?_
  refine j_aret dJ7_copyOf_6403c_39 rfl (Or.inr ⟨_, rfl⟩) rfl ?_ (Nat.le_of_ble_eq_true rfl) (Nat.le_of_ble_eq_true rfl)
  exact ⟨rfl, (Nat.le_of_ble_eq_true rfl), rfl, _, rfl, fun j hj => by show (if (0 : Nat) ≤ j ∧ j < 0 + 15 then Value.float (g (0 + (j - 0))) else Value.null) = _; rw [if_pos (by omega), Nat.zero_add, Nat.sub_zero], fun j hj => by show (if (0 : Nat) ≤ j ∧ j < 0 + 15 then Value.float (g (0 + (j - 0))) else Value.null) = _; rw [if_neg (by omega)]⟩
set_option maxRecDepth 100000 in
set_option maxHeartbeats 8000000 in
theorem c_J7_copyOf2_15 (hl : l.stackTraces = false) (mo sz : Int32) (g : Nat → UInt32) : z_CN G l mJ7_copyOf_1904c 13 1 22 1 [.inr (4, [.int mo, .ref 1, .int sz]), .inl (3, 15, fun j => .float (g j))] [.ref 1, .int 22] (fun v L => v = some (.ref 2) ∧ ∃ F : Nat → Value, L = [.inr (4, [.int mo, .ref 1, .int sz]), .inl (3, 15, fun j => .float (g j)), .inl (3, 22, F)] ∧ (∀ j, j < 15 → F j = .float (g j)) ∧ ∀ j, 15 ≤ j → F j = .null) := by
  refine z_body hl (by decide) rfl (Nat.le_of_ble_eq_true rfl) ?_
  show z_J G l mJ7_copyOf_1904c (z_SN 13 1 22 1 [.inr (4, [.int mo, .ref 1, .int sz]), .inl (3, 15, fun j => .float (g j))] (fun v L => v = some (.ref 2) ∧ ∃ F : Nat → Value, L = [.inr (4, [.int mo, .ref 1, .int sz]), .inl (3, 15, fun j => .float (g j)), .inl (3, 22, F)] ∧ (∀ j, j < 15 → F j = .float (g j)) ∧ ∀ j, 15 ≤ j → F j = .null)) 0 [(0, _), (1, _)] [] _ 0 0
  refine j_aload_n dJ7_copyOf_1904c_0 rfl rfl ?_
  refine j_iload_n dJ7_copyOf_1904c_1 rfl ?_
  refine j_aload_n dJ7_copyOf_1904c_2 rfl rfl ?_
  refine j_getC dJ7_copyOf_1904c_3 lJ7_86 gc_d gc_s gc_i gc_n rfl (Nat.le_of_ble_eq_true rfl) (Nat.le_of_ble_eq_true rfl) ?_
  refine j_callS dJ7_copyOf_1904c_6 kJ7_copyOf_6403c lJ7_300 stJ7_copyOf_6403c (z_dirN (c_J7_copyOf_15 hl _ _ _)) (Nat.le_of_ble_eq_true rfl) ⟨(Nat.le_of_ble_eq_true rfl), (Nat.le_of_ble_eq_true rfl)⟩ rfl (Nat.le_of_ble_eq_true rfl) rfl rfl (fun _ _ h => h.elim) ?_
  rintro _ _ ⟨_, ⟨rfl, F, rfl, hF1, hF2⟩, rfl⟩
  refine j_aret dJ7_copyOf_1904c_9 rfl (Or.inr ⟨_, rfl⟩) rfl ?_ (Nat.le_of_ble_eq_true rfl) (Nat.le_of_ble_eq_true rfl)
  exact ⟨rfl, (Nat.le_of_ble_eq_true rfl), rfl, _, rfl, hF1, hF2⟩
set_option maxRecDepth 100000 in
set_option maxHeartbeats 8000000 in
theorem c_Jx4a65c_grow_15 (hl : l.stackTraces = false) (mo sz : Int32) (g : Nat → UInt32) : z_CN G l mJx4a65c_grow_92f84 14 1 22 1 [.inr (4, [.int mo, .ref 1, .int sz]), .inl (3, 15, fun j => .float (g j))] [.ref 0, .int 16] (fun v L => v = some (.ref 2) ∧ ∃ F : Nat → Value, L = [.inr (4, [.int mo, .ref 2, .int sz]), .inl (3, 15, fun j => .float (g j)), .inl (3, 22, F)] ∧ (∀ j, j < 15 → F j = .float (g j)) ∧ ∀ j, 15 ≤ j → F j = .null) := by
  refine z_body hl (by decide) rfl (Nat.le_of_ble_eq_true rfl) ?_
  show z_J G l mJx4a65c_grow_92f84 (z_SN 14 1 22 1 [.inr (4, [.int mo, .ref 1, .int sz]), .inl (3, 15, fun j => .float (g j))] (fun v L => v = some (.ref 2) ∧ ∃ F : Nat → Value, L = [.inr (4, [.int mo, .ref 2, .int sz]), .inl (3, 15, fun j => .float (g j)), .inl (3, 22, F)] ∧ (∀ j, j < 15 → F j = .float (g j)) ∧ ∀ j, 15 ≤ j → F j = .null)) 0 [(0, _), (1, _)] [] _ 0 0
  refine j_aload_n dJx4a65c_grow_92f84_0 rfl rfl ?_
  refine j_getf dJx4a65c_grow_92f84_1 fJx4a65c_9 rfl rfl ?_
  refine j_alen dJx4a65c_grow_92f84_4 rfl rfl rfl ?_
  refine j_istore_n (lo' := [(2, _), (0, _), (1, _)]) dJx4a65c_grow_92f84_5 (by decide) rfl ?_
  refine j_iload_n dJx4a65c_grow_92f84_6 rfl ?_
  refine j_if_gt (tgt := 20) dJx4a65c_grow_92f84_7 (by decide) (fun c_7 => ?_) (fun c_7 => ?_)
  · refine j_iload_n dJx4a65c_grow_92f84_20 rfl ?_
    refine j_iload_n dJx4a65c_grow_92f84_21 rfl ?_
    refine j_iload_n dJx4a65c_grow_92f84_22 rfl ?_
    refine j_isub dJx4a65c_grow_92f84_23 ?_
    refine j_iload_n dJx4a65c_grow_92f84_24 rfl ?_
    refine j_iconst (v := 1) dJx4a65c_grow_92f84_25 (by decide) ?_
    refine j_ishr dJx4a65c_grow_92f84_26 ?_
    refine j_callS dJx4a65c_grow_92f84_27 kJ8_newLength_cabcc lJx4a65c_73 stJ8_newLength_cabcc (c_J8_newLength_15 hl _) (Nat.le_of_ble_eq_true rfl) ⟨(Nat.le_of_ble_eq_true rfl), (Nat.le_of_ble_eq_true rfl)⟩ rfl (Nat.le_of_ble_eq_true rfl) rfl rfl (fun _ _ h => h.elim) ?_
    rintro _ _ ⟨rfl, rfl⟩
    refine j_istore_n (lo' := [(3, _), (2, _), (0, _), (1, _)]) dJx4a65c_grow_92f84_30 (by decide) rfl ?_
    refine j_aload_n dJx4a65c_grow_92f84_31 rfl rfl ?_
    refine j_aload_n dJx4a65c_grow_92f84_32 rfl rfl ?_
    refine j_getf dJx4a65c_grow_92f84_33 fJx4a65c_9 rfl rfl ?_
    refine j_iload_n dJx4a65c_grow_92f84_36 rfl ?_
    refine j_callS dJx4a65c_grow_92f84_37 kJ7_copyOf_1904c lJx4a65c_66 stJ7_copyOf_1904c (z_dirN (c_J7_copyOf2_15 hl _ _ _)) (Nat.le_of_ble_eq_true rfl) ⟨(Nat.le_of_ble_eq_true rfl), (Nat.le_of_ble_eq_true rfl)⟩ rfl (Nat.le_of_ble_eq_true rfl) rfl rfl (fun _ _ h => h.elim) ?_
    rintro _ _ ⟨_, ⟨rfl, F, rfl, hF1, hF2⟩, rfl⟩
    refine j_dup_x1 dJx4a65c_grow_92f84_40 rfl rfl ?_
    refine j_put (w' := ([.inr (4, [_, _, _]), .inl (3, _, _), .inl (3, _, _)], z_no)) dJx4a65c_grow_92f84_41 fJx4a65c_9 tJx4a65c_1 rfl (Or.inr ⟨_, rfl⟩) rfl ?_
    refine j_aret dJx4a65c_grow_92f84_44 rfl (Or.inr ⟨_, rfl⟩) rfl ?_ (Nat.le_of_ble_eq_true rfl) (Nat.le_of_ble_eq_true rfl)
    exact ⟨rfl, (Nat.le_of_ble_eq_true rfl), rfl, _, rfl, hF1, hF2⟩
  · exact absurd (by decide) c_7
set_option maxRecDepth 100000 in
set_option maxHeartbeats 8000000 in
theorem c_Jx4a65c_grow0_10 (hl : l.stackTraces = false) (mo : Int32) (g : Nat → UInt32) : z_CN G l mJx4a65c_grow_d5877 15 1 15 1 [.inr (4, [.int mo, .ref 1, .int 10]), .inl (3, 10, fun j => .float (g j))] [.ref 0] (fun v L => v = some (.ref 2) ∧ ∃ F : Nat → Value, L = [.inr (4, [.int mo, .ref 2, .int 10]), .inl (3, 10, fun j => .float (g j)), .inl (3, 15, F)] ∧ (∀ j, j < 10 → F j = .float (g j)) ∧ ∀ j, 10 ≤ j → F j = .null) := by
  refine z_body hl (by decide) rfl (Nat.le_of_ble_eq_true rfl) ?_
  show z_J G l mJx4a65c_grow_d5877 (z_SN 15 1 15 1 [.inr (4, [.int mo, .ref 1, .int 10]), .inl (3, 10, fun j => .float (g j))] (fun v L => v = some (.ref 2) ∧ ∃ F : Nat → Value, L = [.inr (4, [.int mo, .ref 2, .int 10]), .inl (3, 10, fun j => .float (g j)), .inl (3, 15, F)] ∧ (∀ j, j < 10 → F j = .float (g j)) ∧ ∀ j, 10 ≤ j → F j = .null)) 0 [(0, _)] [] _ 0 0
  refine j_aload_n dJx4a65c_grow_d5877_0 rfl rfl ?_
  refine j_aload_n dJx4a65c_grow_d5877_1 rfl rfl ?_
  refine j_getf dJx4a65c_grow_d5877_2 fJx4a65c_48 rfl rfl ?_
  refine j_iconst (v := 1) dJx4a65c_grow_d5877_5 (by decide) ?_
  refine j_iadd dJx4a65c_grow_d5877_6 ?_
  refine j_callV (q := (RJx4a65c, TJx4a65c, 3)) dJx4a65c_grow_d5877_7 kJx4a65c_grow_92f84 lJx4a65c_69 inJx4a65c_grow_92f84 seJx4a65c_grow_92f84 rfl rfl (z_dirN (c_Jx4a65c_grow_10 hl _ _ _)) (Nat.le_of_ble_eq_true rfl) ⟨(Nat.le_of_ble_eq_true rfl), (Nat.le_of_ble_eq_true rfl)⟩ rfl (Nat.le_of_ble_eq_true rfl) rfl rfl (fun _ _ h => h.elim) ?_
  rintro _ _ ⟨_, ⟨rfl, F, rfl, hF1, hF2⟩, rfl⟩
  refine j_aret dJx4a65c_grow_d5877_10 rfl (Or.inr ⟨_, rfl⟩) rfl ?_ (Nat.le_of_ble_eq_true rfl) (Nat.le_of_ble_eq_true rfl)
  exact ⟨rfl, (Nat.le_of_ble_eq_true rfl), rfl, _, rfl, hF1, hF2⟩
set_option maxRecDepth 100000 in
set_option maxHeartbeats 8000000 in
theorem c_Jx4a65c_addg_10 (hl : l.stackTraces = false) (mo : Int32) (g : Nat → UInt32) (b : UInt32) : z_CN G l mJx4a65c_add_72be8 16 1 15 1 [.inr (4, [.int mo, .ref 1, .int 10]), .inl (3, 10, fun j => .float (g j))] [.ref 0, .float b, .ref 1, .int 10] (fun v L => v = none ∧ ∃ F : Nat → Value, L = [.inr (4, [.int mo, .ref 2, .int 11]), .inl (3, 10, fun j => .float (g j)), .inl (3, 15, F)] ∧ (∀ j, j < 10 → F j = .float (g j)) ∧ F 10 = .float b ∧ ∀ j, 11 ≤ j → F j = .null) := by
  refine z_body hl (by decide) rfl (Nat.le_of_ble_eq_true rfl) ?_
  show z_J G l mJx4a65c_add_72be8 (z_SN 16 1 15 1 [.inr (4, [.int mo, .ref 1, .int 10]), .inl (3, 10, fun j => .float (g j))] (fun v L => v = none ∧ ∃ F : Nat → Value, L = [.inr (4, [.int mo, .ref 2, .int 11]), .inl (3, 10, fun j => .float (g j)), .inl (3, 15, F)] ∧ (∀ j, j < 10 → F j = .float (g j)) ∧ F 10 = .float b ∧ ∀ j, 11 ≤ j → F j = .null)) 0 [(0, _), (1, _), (2, _), (3, _)] [] _ 0 0
  refine j_iload_n dJx4a65c_add_72be8_0 rfl ?_
  refine j_aload_n dJx4a65c_add_72be8_1 rfl rfl ?_
  refine j_alen dJx4a65c_add_72be8_2 rfl rfl rfl ?_
  refine j_icmp_ne (tgt := 11) dJx4a65c_add_72be8_3 (by decide) (fun c_3 => ?_) (fun c_3 => ?_)
  · exact absurd rfl c_3
  · refine j_aload_n dJx4a65c_add_72be8_6 rfl rfl ?_
    refine j_callV (q := (RJx4a65c, TJx4a65c, 3)) dJx4a65c_add_72be8_7 kJx4a65c_grow_d5877 lJx4a65c_129 inJx4a65c_grow_d5877 seJx4a65c_grow_d5877 rfl rfl (z_dirN (c_Jx4a65c_grow0_10 hl _ _)) (Nat.le_of_ble_eq_true rfl) ⟨(Nat.le_of_ble_eq_true rfl), (Nat.le_of_ble_eq_true rfl)⟩ rfl (Nat.le_of_ble_eq_true rfl) rfl rfl (fun _ _ h => h.elim) ?_
    rintro _ _ ⟨_, ⟨rfl, F, rfl, hF1, hF2⟩, rfl⟩
    refine j_astore_n (lo' := [(2, _), (0, _), (1, _), (3, _)]) dJx4a65c_add_72be8_10 rfl (by decide) rfl ?_
    refine j_aload_n dJx4a65c_add_72be8_11 rfl rfl ?_
    refine j_iload_n dJx4a65c_add_72be8_12 rfl ?_
    refine j_aload_n dJx4a65c_add_72be8_13 rfl rfl ?_
    refine j_aastO (w' := ([.inr (4, [_, _, _]), .inl (3, _, _), .inl (3, _, _)], z_no)) (C := "java/lang/Integer") (E := "java/lang/Object") dJx4a65c_add_72be8_14 rfl rfl rfl cs_IO (vp_in_iff.mpr (by decide)) rfl ?_
    refine j_aload_n dJx4a65c_add_72be8_15 rfl rfl ?_
    refine j_iload_n dJx4a65c_add_72be8_16 rfl ?_
    refine j_iconst (v := 1) dJx4a65c_add_72be8_17 (by decide) ?_
    refine j_iadd dJx4a65c_add_72be8_18 ?_
    refine j_put (w' := ([.inr (4, [_, _, _]), .inl (3, _, _), .inl (3, _, _)], z_no)) dJx4a65c_add_72be8_19 fJx4a65c_48 tJx4a65c_2 rfl ⟨rfl, rfl⟩ rfl ?_
    refine j_vret dJx4a65c_add_72be8_22 rfl ?_ (Nat.le_of_ble_eq_true rfl) (Nat.le_of_ble_eq_true rfl)
    exact ⟨rfl, (Nat.le_of_ble_eq_true rfl), rfl, _, rfl, fun j hj => by show cond (Nat.beq j 10) _ _ = _; rw [z_beq (by omega)]; exact hF1 j hj, rfl, fun j hj => by show cond (Nat.beq j 10) _ _ = _; rw [z_beq (by omega)]; exact hF2 j (by omega)⟩
set_option maxRecDepth 100000 in
set_option maxHeartbeats 8000000 in
theorem c_Jx4a65c_add_g10 (hl : l.stackTraces = false) (mo : Int32) (g : Nat → UInt32) (b : UInt32) : z_CN G l mJx4a65c_add_9ea2d 17 1 15 1 [.inr (4, [.int mo, .ref 1, .int 10]), .inl (3, 10, fun j => .float (g j))] [.ref 0, .float b] (fun v L => v = some (.int 1) ∧ ∃ (mo' : Int32) (F : Nat → Value), L = [.inr (4, [.int mo', .ref 2, .int 11]), .inl (3, 10, fun j => .float (g j)), .inl (3, 15, F)] ∧ (∀ j, j < 10 → F j = .float (g j)) ∧ F 10 = .float b ∧ ∀ j, 11 ≤ j → F j = .null) := by
  refine z_body hl (by decide) rfl (Nat.le_of_ble_eq_true rfl) ?_
  show z_J G l mJx4a65c_add_9ea2d (z_SN 17 1 15 1 [.inr (4, [.int mo, .ref 1, .int 10]), .inl (3, 10, fun j => .float (g j))] (fun v L => v = some (.int 1) ∧ ∃ (mo' : Int32) (F : Nat → Value), L = [.inr (4, [.int mo', .ref 2, .int 11]), .inl (3, 10, fun j => .float (g j)), .inl (3, 15, F)] ∧ (∀ j, j < 10 → F j = .float (g j)) ∧ F 10 = .float b ∧ ∀ j, 11 ≤ j → F j = .null)) 0 [(0, _), (1, _)] [] _ 0 0
  refine j_aload_n dJx4a65c_add_9ea2d_0 rfl rfl ?_
  refine j_dup dJx4a65c_add_9ea2d_1 rfl ?_
  refine j_getf dJx4a65c_add_9ea2d_2 fJx4a65c_63 rfl rfl ?_
  refine j_iconst (v := 1) dJx4a65c_add_9ea2d_5 (by decide) ?_
  refine j_iadd dJx4a65c_add_9ea2d_6 ?_
  refine j_put (w' := ([.inr (4, [_, _, _]), .inl (3, _, _)], z_no)) dJx4a65c_add_9ea2d_7 fJx4a65c_63 tJx4a65c_0 rfl ⟨rfl, rfl⟩ rfl ?_
  refine j_aload_n dJx4a65c_add_9ea2d_10 rfl rfl ?_
  refine j_aload_n dJx4a65c_add_9ea2d_11 rfl rfl ?_
  refine j_aload_n dJx4a65c_add_9ea2d_12 rfl rfl ?_
  refine j_getf dJx4a65c_add_9ea2d_13 fJx4a65c_9 rfl rfl ?_
  refine j_aload_n dJx4a65c_add_9ea2d_16 rfl rfl ?_
  refine j_getf dJx4a65c_add_9ea2d_17 fJx4a65c_48 rfl rfl ?_
  refine j_callV (q := (RJx4a65c, TJx4a65c, 3)) dJx4a65c_add_9ea2d_20 kJx4a65c_add_72be8 lJx4a65c_131 inJx4a65c_add_72be8 seJx4a65c_add_72be8 rfl rfl (z_dirN (c_Jx4a65c_addg_10 hl _ _ _)) (Nat.le_of_ble_eq_true rfl) ⟨(Nat.le_of_ble_eq_true rfl), (Nat.le_of_ble_eq_true rfl)⟩ rfl (Nat.le_of_ble_eq_true rfl) rfl rfl (fun _ _ h => h.elim) ?_
  rintro _ _ ⟨_, ⟨rfl, F, rfl, hF1, hFn, hF2⟩, rfl⟩
  refine j_iconst (v := 1) dJx4a65c_add_9ea2d_23 (by decide) ?_
  refine j_iret dJx4a65c_add_9ea2d_24 rfl rfl ?_ (Nat.le_of_ble_eq_true rfl) (Nat.le_of_ble_eq_true rfl)
  exact ⟨rfl, (Nat.le_of_ble_eq_true rfl), rfl, _, _, rfl, hF1, hFn, hF2⟩
set_option maxRecDepth 100000 in
set_option maxHeartbeats 8000000 in
theorem c_Jx4a65c_grow0_15 (hl : l.stackTraces = false) (mo : Int32) (g : Nat → UInt32) : z_CN G l mJx4a65c_grow_d5877 15 1 22 1 [.inr (4, [.int mo, .ref 1, .int 15]), .inl (3, 15, fun j => .float (g j))] [.ref 0] (fun v L => v = some (.ref 2) ∧ ∃ F : Nat → Value, L = [.inr (4, [.int mo, .ref 2, .int 15]), .inl (3, 15, fun j => .float (g j)), .inl (3, 22, F)] ∧ (∀ j, j < 15 → F j = .float (g j)) ∧ ∀ j, 15 ≤ j → F j = .null) := by
  refine z_body hl (by decide) rfl (Nat.le_of_ble_eq_true rfl) ?_
  show z_J G l mJx4a65c_grow_d5877 (z_SN 15 1 22 1 [.inr (4, [.int mo, .ref 1, .int 15]), .inl (3, 15, fun j => .float (g j))] (fun v L => v = some (.ref 2) ∧ ∃ F : Nat → Value, L = [.inr (4, [.int mo, .ref 2, .int 15]), .inl (3, 15, fun j => .float (g j)), .inl (3, 22, F)] ∧ (∀ j, j < 15 → F j = .float (g j)) ∧ ∀ j, 15 ≤ j → F j = .null)) 0 [(0, _)] [] _ 0 0
  refine j_aload_n dJx4a65c_grow_d5877_0 rfl rfl ?_
  refine j_aload_n dJx4a65c_grow_d5877_1 rfl rfl ?_
  refine j_getf dJx4a65c_grow_d5877_2 fJx4a65c_48 rfl rfl ?_
  refine j_iconst (v := 1) dJx4a65c_grow_d5877_5 (by decide) ?_
  refine j_iadd dJx4a65c_grow_d5877_6 ?_
  refine j_callV (q := (RJx4a65c, TJx4a65c, 3)) dJx4a65c_grow_d5877_7 kJx4a65c_grow_92f84 lJx4a65c_69 inJx4a65c_grow_92f84 seJx4a65c_grow_92f84 rfl rfl (z_dirN (c_Jx4a65c_grow_15 hl _ _ _)) (Nat.le_of_ble_eq_true rfl) ⟨(Nat.le_of_ble_eq_true rfl), (Nat.le_of_ble_eq_true rfl)⟩ rfl (Nat.le_of_ble_eq_true rfl) rfl rfl (fun _ _ h => h.elim) ?_
  rintro _ _ ⟨_, ⟨rfl, F, rfl, hF1, hF2⟩, rfl⟩
  refine j_aret dJx4a65c_grow_d5877_10 rfl (Or.inr ⟨_, rfl⟩) rfl ?_ (Nat.le_of_ble_eq_true rfl) (Nat.le_of_ble_eq_true rfl)
  exact ⟨rfl, (Nat.le_of_ble_eq_true rfl), rfl, _, rfl, hF1, hF2⟩
set_option maxRecDepth 100000 in
set_option maxHeartbeats 8000000 in
theorem c_Jx4a65c_addg_15 (hl : l.stackTraces = false) (mo : Int32) (g : Nat → UInt32) (b : UInt32) : z_CN G l mJx4a65c_add_72be8 16 1 22 1 [.inr (4, [.int mo, .ref 1, .int 15]), .inl (3, 15, fun j => .float (g j))] [.ref 0, .float b, .ref 1, .int 15] (fun v L => v = none ∧ ∃ F : Nat → Value, L = [.inr (4, [.int mo, .ref 2, .int 16]), .inl (3, 15, fun j => .float (g j)), .inl (3, 22, F)] ∧ (∀ j, j < 15 → F j = .float (g j)) ∧ F 15 = .float b ∧ ∀ j, 16 ≤ j → F j = .null) := by
  refine z_body hl (by decide) rfl (Nat.le_of_ble_eq_true rfl) ?_
  show z_J G l mJx4a65c_add_72be8 (z_SN 16 1 22 1 [.inr (4, [.int mo, .ref 1, .int 15]), .inl (3, 15, fun j => .float (g j))] (fun v L => v = none ∧ ∃ F : Nat → Value, L = [.inr (4, [.int mo, .ref 2, .int 16]), .inl (3, 15, fun j => .float (g j)), .inl (3, 22, F)] ∧ (∀ j, j < 15 → F j = .float (g j)) ∧ F 15 = .float b ∧ ∀ j, 16 ≤ j → F j = .null)) 0 [(0, _), (1, _), (2, _), (3, _)] [] _ 0 0
  refine j_iload_n dJx4a65c_add_72be8_0 rfl ?_
  refine j_aload_n dJx4a65c_add_72be8_1 rfl rfl ?_
  refine j_alen dJx4a65c_add_72be8_2 rfl rfl rfl ?_
  refine j_icmp_ne (tgt := 11) dJx4a65c_add_72be8_3 (by decide) (fun c_3 => ?_) (fun c_3 => ?_)
  · exact absurd rfl c_3
  · refine j_aload_n dJx4a65c_add_72be8_6 rfl rfl ?_
    refine j_callV (q := (RJx4a65c, TJx4a65c, 3)) dJx4a65c_add_72be8_7 kJx4a65c_grow_d5877 lJx4a65c_129 inJx4a65c_grow_d5877 seJx4a65c_grow_d5877 rfl rfl (z_dirN (c_Jx4a65c_grow0_15 hl _ _)) (Nat.le_of_ble_eq_true rfl) ⟨(Nat.le_of_ble_eq_true rfl), (Nat.le_of_ble_eq_true rfl)⟩ rfl (Nat.le_of_ble_eq_true rfl) rfl rfl (fun _ _ h => h.elim) ?_
    rintro _ _ ⟨_, ⟨rfl, F, rfl, hF1, hF2⟩, rfl⟩
    refine j_astore_n (lo' := [(2, _), (0, _), (1, _), (3, _)]) dJx4a65c_add_72be8_10 rfl (by decide) rfl ?_
    refine j_aload_n dJx4a65c_add_72be8_11 rfl rfl ?_
    refine j_iload_n dJx4a65c_add_72be8_12 rfl ?_
    refine j_aload_n dJx4a65c_add_72be8_13 rfl rfl ?_
    refine j_aastO (w' := ([.inr (4, [_, _, _]), .inl (3, _, _), .inl (3, _, _)], z_no)) (C := "java/lang/Integer") (E := "java/lang/Object") dJx4a65c_add_72be8_14 rfl rfl rfl cs_IO (vp_in_iff.mpr (by decide)) rfl ?_
    refine j_aload_n dJx4a65c_add_72be8_15 rfl rfl ?_
    refine j_iload_n dJx4a65c_add_72be8_16 rfl ?_
    refine j_iconst (v := 1) dJx4a65c_add_72be8_17 (by decide) ?_
    refine j_iadd dJx4a65c_add_72be8_18 ?_
    refine j_put (w' := ([.inr (4, [_, _, _]), .inl (3, _, _), .inl (3, _, _)], z_no)) dJx4a65c_add_72be8_19 fJx4a65c_48 tJx4a65c_2 rfl ⟨rfl, rfl⟩ rfl ?_
    refine j_vret dJx4a65c_add_72be8_22 rfl ?_ (Nat.le_of_ble_eq_true rfl) (Nat.le_of_ble_eq_true rfl)
    exact ⟨rfl, (Nat.le_of_ble_eq_true rfl), rfl, _, rfl, fun j hj => by show cond (Nat.beq j 15) _ _ = _; rw [z_beq (by omega)]; exact hF1 j hj, rfl, fun j hj => by show cond (Nat.beq j 15) _ _ = _; rw [z_beq (by omega)]; exact hF2 j (by omega)⟩
set_option maxRecDepth 100000 in
set_option maxHeartbeats 8000000 in
theorem c_Jx4a65c_add_g15 (hl : l.stackTraces = false) (mo : Int32) (g : Nat → UInt32) (b : UInt32) : z_CN G l mJx4a65c_add_9ea2d 17 1 22 1 [.inr (4, [.int mo, .ref 1, .int 15]), .inl (3, 15, fun j => .float (g j))] [.ref 0, .float b] (fun v L => v = some (.int 1) ∧ ∃ (mo' : Int32) (F : Nat → Value), L = [.inr (4, [.int mo', .ref 2, .int 16]), .inl (3, 15, fun j => .float (g j)), .inl (3, 22, F)] ∧ (∀ j, j < 15 → F j = .float (g j)) ∧ F 15 = .float b ∧ ∀ j, 16 ≤ j → F j = .null) := by
  refine z_body hl (by decide) rfl (Nat.le_of_ble_eq_true rfl) ?_
  show z_J G l mJx4a65c_add_9ea2d (z_SN 17 1 22 1 [.inr (4, [.int mo, .ref 1, .int 15]), .inl (3, 15, fun j => .float (g j))] (fun v L => v = some (.int 1) ∧ ∃ (mo' : Int32) (F : Nat → Value), L = [.inr (4, [.int mo', .ref 2, .int 16]), .inl (3, 15, fun j => .float (g j)), .inl (3, 22, F)] ∧ (∀ j, j < 15 → F j = .float (g j)) ∧ F 15 = .float b ∧ ∀ j, 16 ≤ j → F j = .null)) 0 [(0, _), (1, _)] [] _ 0 0
  refine j_aload_n dJx4a65c_add_9ea2d_0 rfl rfl ?_
  refine j_dup dJx4a65c_add_9ea2d_1 rfl ?_
  refine j_getf dJx4a65c_add_9ea2d_2 fJx4a65c_63 rfl rfl ?_
  refine j_iconst (v := 1) dJx4a65c_add_9ea2d_5 (by decide) ?_
  refine j_iadd dJx4a65c_add_9ea2d_6 ?_
  refine j_put (w' := ([.inr (4, [_, _, _]), .inl (3, _, _)], z_no)) dJx4a65c_add_9ea2d_7 fJx4a65c_63 tJx4a65c_0 rfl ⟨rfl, rfl⟩ rfl ?_
  refine j_aload_n dJx4a65c_add_9ea2d_10 rfl rfl ?_
  refine j_aload_n dJx4a65c_add_9ea2d_11 rfl rfl ?_
  refine j_aload_n dJx4a65c_add_9ea2d_12 rfl rfl ?_
  refine j_getf dJx4a65c_add_9ea2d_13 fJx4a65c_9 rfl rfl ?_
  refine j_aload_n dJx4a65c_add_9ea2d_16 rfl rfl ?_
  refine j_getf dJx4a65c_add_9ea2d_17 fJx4a65c_48 rfl rfl ?_
  refine j_callV (q := (RJx4a65c, TJx4a65c, 3)) dJx4a65c_add_9ea2d_20 kJx4a65c_add_72be8 lJx4a65c_131 inJx4a65c_add_72be8 seJx4a65c_add_72be8 rfl rfl (z_dirN (c_Jx4a65c_addg_15 hl _ _ _)) (Nat.le_of_ble_eq_true rfl) ⟨(Nat.le_of_ble_eq_true rfl), (Nat.le_of_ble_eq_true rfl)⟩ rfl (Nat.le_of_ble_eq_true rfl) rfl rfl (fun _ _ h => h.elim) ?_
  rintro _ _ ⟨_, ⟨rfl, F, rfl, hF1, hFn, hF2⟩, rfl⟩
  refine j_iconst (v := 1) dJx4a65c_add_9ea2d_23 (by decide) ?_
  refine j_iret dJx4a65c_add_9ea2d_24 rfl rfl ?_ (Nat.le_of_ble_eq_true rfl) (Nat.le_of_ble_eq_true rfl)
  exact ⟨rfl, (Nat.le_of_ble_eq_true rfl), rfl, _, _, rfl, hF1, hFn, hF2⟩
set_option maxRecDepth 100000 in
set_option maxHeartbeats 8000000 in
theorem c_Jx4a65c_grow0_e (hl : l.stackTraces = false) (mo : Int32) : z_CN G l mJx4a65c_grow_d5877 15 1 10 1 [.inr (4, [.int mo, .retAddr 0, .int 0])] [.ref 0] (fun v L => v = some (.ref 1) ∧ L = [.inr (4, [.int mo, .ref 1, .int 0]), .inl (3, 10, fun _ => .null)]) := by
  refine z_body hl (by decide) rfl (Nat.le_of_ble_eq_true rfl) ?_
  show z_J G l mJx4a65c_grow_d5877 (z_SN 15 1 10 1 [.inr (4, [.int mo, .retAddr 0, .int 0])] (fun v L => v = some (.ref 1) ∧ L = [.inr (4, [.int mo, .ref 1, .int 0]), .inl (3, 10, fun _ => .null)])) 0 [(0, _)] [] _ 0 0
  refine j_aload_n dJx4a65c_grow_d5877_0 rfl rfl ?_
  refine j_aload_n dJx4a65c_grow_d5877_1 rfl rfl ?_
  refine j_getf dJx4a65c_grow_d5877_2 fJx4a65c_48 rfl rfl ?_
  refine j_iconst (v := 1) dJx4a65c_grow_d5877_5 (by decide) ?_
  refine j_iadd dJx4a65c_grow_d5877_6 ?_
  refine j_callV (q := (RJx4a65c, TJx4a65c, 3)) dJx4a65c_grow_d5877_7 kJx4a65c_grow_92f84 lJx4a65c_69 inJx4a65c_grow_92f84 seJx4a65c_grow_92f84 rfl rfl (z_dirN (c_Jx4a65c_grow_e hl _)) (Nat.le_of_ble_eq_true rfl) ⟨(Nat.le_of_ble_eq_true rfl), (Nat.le_of_ble_eq_true rfl)⟩ rfl (Nat.le_of_ble_eq_true rfl) rfl rfl (fun _ _ h => h.elim) ?_
  rintro _ _ ⟨_, ⟨rfl, rfl⟩, rfl⟩
  refine j_aret dJx4a65c_grow_d5877_10 rfl (Or.inr ⟨_, rfl⟩) rfl ?_ (Nat.le_of_ble_eq_true rfl) (Nat.le_of_ble_eq_true rfl)
  exact ⟨rfl, (Nat.le_of_ble_eq_true rfl), rfl, rfl⟩
set_option maxRecDepth 100000 in
set_option maxHeartbeats 8000000 in
theorem c_Jx4a65c_addg_e (hl : l.stackTraces = false) (mo : Int32) (b : UInt32) : z_CN G l mJx4a65c_add_72be8 16 1 10 1 [.inr (4, [.int mo, .retAddr 0, .int 0])] [.ref 0, .float b, .retAddr 0, .int 0] (fun v L => v = none ∧ L = [.inr (4, [.int mo, .ref 1, .int 1]), .inl (3, 10, z_u (fun _ => .null) 0 (.float b))]) := by
  refine z_body hl (by decide) rfl (Nat.le_of_ble_eq_true rfl) ?_
  show z_J G l mJx4a65c_add_72be8 (z_SN 16 1 10 1 [.inr (4, [.int mo, .retAddr 0, .int 0])] (fun v L => v = none ∧ L = [.inr (4, [.int mo, .ref 1, .int 1]), .inl (3, 10, z_u (fun _ => .null) 0 (.float b))])) 0 [(0, _), (1, _), (2, _), (3, _)] [] _ 0 0
  refine j_iload_n dJx4a65c_add_72be8_0 rfl ?_
  refine j_aload_n dJx4a65c_add_72be8_1 rfl rfl ?_
  refine j_alenK (k := 0) (N := 0) dJx4a65c_add_72be8_2 (fun U q h hk => h.2.2.2.1 0 q (by decide) hk) ?_
  refine j_icmp_ne (tgt := 11) dJx4a65c_add_72be8_3 (by decide) (fun c_3 => ?_) (fun c_3 => ?_)
  · exact absurd rfl c_3
  · refine j_aload_n dJx4a65c_add_72be8_6 rfl rfl ?_
    refine j_callV (q := (RJx4a65c, TJx4a65c, 3)) dJx4a65c_add_72be8_7 kJx4a65c_grow_d5877 lJx4a65c_129 inJx4a65c_grow_d5877 seJx4a65c_grow_d5877 rfl rfl (z_dirN (c_Jx4a65c_grow0_e hl _)) (Nat.le_of_ble_eq_true rfl) ⟨(Nat.le_of_ble_eq_true rfl), (Nat.le_of_ble_eq_true rfl)⟩ rfl (Nat.le_of_ble_eq_true rfl) rfl rfl (fun _ _ h => h.elim) ?_
    rintro _ _ ⟨_, ⟨rfl, rfl⟩, rfl⟩
    refine j_astore_n (lo' := [(2, _), (0, _), (1, _), (3, _)]) dJx4a65c_add_72be8_10 rfl (by decide) rfl ?_
    refine j_aload_n dJx4a65c_add_72be8_11 rfl rfl ?_
    refine j_iload_n dJx4a65c_add_72be8_12 rfl ?_
    refine j_aload_n dJx4a65c_add_72be8_13 rfl rfl ?_
    refine j_aastO (w' := ([.inr (4, [_, _, _]), .inl (3, _, _)], z_no)) (C := "java/lang/Integer") (E := "java/lang/Object") dJx4a65c_add_72be8_14 rfl rfl rfl cs_IO (vp_in_iff.mpr (by decide)) rfl ?_
    refine j_aload_n dJx4a65c_add_72be8_15 rfl rfl ?_
    refine j_iload_n dJx4a65c_add_72be8_16 rfl ?_
    refine j_iconst (v := 1) dJx4a65c_add_72be8_17 (by decide) ?_
    refine j_iadd dJx4a65c_add_72be8_18 ?_
    refine j_put (w' := ([.inr (4, [_, _, _]), .inl (3, _, _)], z_no)) dJx4a65c_add_72be8_19 fJx4a65c_48 tJx4a65c_2 rfl ⟨rfl, rfl⟩ rfl ?_
    refine j_vret dJx4a65c_add_72be8_22 rfl ?_ (Nat.le_of_ble_eq_true rfl) (Nat.le_of_ble_eq_true rfl)
    exact ⟨rfl, (Nat.le_of_ble_eq_true rfl), rfl, rfl⟩
set_option maxRecDepth 100000 in
set_option maxHeartbeats 8000000 in
theorem c_Jx4a65c_add_e (hl : l.stackTraces = false) (mo : Int32) (b : UInt32) : z_CN G l mJx4a65c_add_9ea2d 17 1 10 1 [.inr (4, [.int mo, .retAddr 0, .int 0])] [.ref 0, .float b] (fun v L => v = some (.int 1) ∧ ∃ mo' : Int32, L = [.inr (4, [.int mo', .ref 1, .int 1]), .inl (3, 10, z_u (fun _ => .null) 0 (.float b))]) := by
  refine z_body hl (by decide) rfl (Nat.le_of_ble_eq_true rfl) ?_
  show z_J G l mJx4a65c_add_9ea2d (z_SN 17 1 10 1 [.inr (4, [.int mo, .retAddr 0, .int 0])] (fun v L => v = some (.int 1) ∧ ∃ mo' : Int32, L = [.inr (4, [.int mo', .ref 1, .int 1]), .inl (3, 10, z_u (fun _ => .null) 0 (.float b))])) 0 [(0, _), (1, _)] [] _ 0 0
  refine j_aload_n dJx4a65c_add_9ea2d_0 rfl rfl ?_
  refine j_dup dJx4a65c_add_9ea2d_1 rfl ?_
  refine j_getf dJx4a65c_add_9ea2d_2 fJx4a65c_63 rfl rfl ?_
  refine j_iconst (v := 1) dJx4a65c_add_9ea2d_5 (by decide) ?_
  refine j_iadd dJx4a65c_add_9ea2d_6 ?_
  refine j_put (w' := ([.inr (4, [_, _, _])], z_no)) dJx4a65c_add_9ea2d_7 fJx4a65c_63 tJx4a65c_0 rfl ⟨rfl, rfl⟩ rfl ?_
  refine j_aload_n dJx4a65c_add_9ea2d_10 rfl rfl ?_
  refine j_aload_n dJx4a65c_add_9ea2d_11 rfl rfl ?_
  refine j_aload_n dJx4a65c_add_9ea2d_12 rfl rfl ?_
  refine j_getf dJx4a65c_add_9ea2d_13 fJx4a65c_9 rfl rfl ?_
  refine j_aload_n dJx4a65c_add_9ea2d_16 rfl rfl ?_
  refine j_getf dJx4a65c_add_9ea2d_17 fJx4a65c_48 rfl rfl ?_
  refine j_callV (q := (RJx4a65c, TJx4a65c, 3)) dJx4a65c_add_9ea2d_20 kJx4a65c_add_72be8 lJx4a65c_131 inJx4a65c_add_72be8 seJx4a65c_add_72be8 rfl rfl (z_dirN (c_Jx4a65c_addg_e hl _ _)) (Nat.le_of_ble_eq_true rfl) ⟨(Nat.le_of_ble_eq_true rfl), (Nat.le_of_ble_eq_true rfl)⟩ rfl (Nat.le_of_ble_eq_true rfl) rfl rfl (fun _ _ h => h.elim) ?_
  rintro _ _ ⟨_, ⟨rfl, rfl⟩, rfl⟩
  refine j_iconst (v := 1) dJx4a65c_add_9ea2d_23 (by decide) ?_
  refine j_iret dJx4a65c_add_9ea2d_24 rfl rfl ?_ (Nat.le_of_ble_eq_true rfl) (Nat.le_of_ble_eq_true rfl)
  exact ⟨rfl, (Nat.le_of_ble_eq_true rfl), rfl, _, rfl⟩
end ZK1
