section ZK1
variable {G : z_G} {l : Launch}
set_option maxRecDepth 100000 in
set_option maxHeartbeats 8000000 in
theorem c_Jxd2413_init_da8c8 (hl : l.stackTraces = false) (w : z_W) (n : Nat) : z_Con G l mJxd2413_init_da8c8 10 0 0 w [.ref n] (fun v w9 => (v = none) ∧ w9 = w) (fun _ _ => False) := by
  refine z_body hl (by decide) rfl (Nat.le_of_ble_eq_true rfl) ?_
  show z_J G l mJxd2413_init_da8c8 ((10, 0, 0, w, (fun v w9 => (v = none) ∧ w9 = w), fun _ _ => False)) 0 [(0, _)] [] _ 0 0
  refine j_aload_n dJxd2413_init_da8c8_0 rfl rfl ?_
  refine j_objI dJxd2413_init_da8c8_1 oJxd2413_1 z_oi1 z_oi2 (Nat.le_of_ble_eq_true rfl) (Nat.le_of_ble_eq_true rfl) ?_
  refine j_vret dJxd2413_init_da8c8_4 rfl ?_ (Nat.le_of_ble_eq_true rfl) (Nat.le_of_ble_eq_true rfl)
  exact ⟨rfl, rfl⟩
set_option maxRecDepth 100000 in
set_option maxHeartbeats 8000000 in
theorem c_Jxa1e45_init_da8c8 (hl : l.stackTraces = false) (w : z_W) (n : Nat) : z_Con G l mJxa1e45_init_da8c8 10 0 0 w [.ref n] (fun v w9 => (v = none) ∧ w9 = w) (fun _ _ => False) := by
  refine z_body hl (by decide) rfl (Nat.le_of_ble_eq_true rfl) ?_
  show z_J G l mJxa1e45_init_da8c8 ((10, 0, 0, w, (fun v w9 => (v = none) ∧ w9 = w), fun _ _ => False)) 0 [(0, _)] [] _ 0 0
  refine j_aload_n dJxa1e45_init_da8c8_0 rfl rfl ?_
  refine j_objI dJxa1e45_init_da8c8_1 oJxa1e45_1 z_oi1 z_oi2 (Nat.le_of_ble_eq_true rfl) (Nat.le_of_ble_eq_true rfl) ?_
  refine j_vret dJxa1e45_init_da8c8_4 rfl ?_ (Nat.le_of_ble_eq_true rfl) (Nat.le_of_ble_eq_true rfl)
  exact ⟨rfl, rfl⟩
set_option maxRecDepth 100000 in
set_option maxHeartbeats 8000000 in
theorem c_J6_init_d00df (hl : l.stackTraces = false) (x : Int32) : z_CF G l mJ6_init_d00df 11 0 0 [.inr (2, [.int 0])] [.ref 0, .int x] (fun v L => v = none ∧ L = [.inr (2, [.int x])]) := by
  refine z_body hl (by decide) rfl (Nat.le_of_ble_eq_true rfl) ?_
  show z_J G l mJ6_init_d00df (z_SF 11 0 0 [.inr (2, [.int 0])] (fun v L => v = none ∧ L = [.inr (2, [.int x])])) 0 [(0, _), (1, _)] [] _ 0 0
  refine j_aload_n dJ6_init_d00df_0 rfl rfl ?_
  refine j_callI dJ6_init_d00df_1 kJxd2413_init_da8c8 rfl lJ6_202 inJxd2413_init_da8c8 rfl (c_Jxd2413_init_da8c8 hl _ _) (Nat.le_of_ble_eq_true rfl) ⟨(Nat.le_of_ble_eq_true rfl), (Nat.le_of_ble_eq_true rfl)⟩ rfl (Nat.le_of_ble_eq_true rfl) rfl rfl (fun _ _ h => h.elim) ?_
  rintro _ _ ⟨rfl, rfl⟩
  refine j_aload_n dJ6_init_d00df_4 rfl rfl ?_
  refine j_iload_n dJ6_init_d00df_5 rfl ?_
  refine j_putF (w' := ([.inr (2, [_])], z_no)) dJ6_init_d00df_6 fJ6_205 tJ6_0 rfl (z_dc rfl rfl (z_w 1535 ((lwt_7_1 20).trans rfl) (by decide +kernel))) rfl ⟨rfl, rfl⟩ rfl ?_
  refine j_vret dJ6_init_d00df_9 rfl ?_ (Nat.le_of_ble_eq_true rfl) (Nat.le_of_ble_eq_true rfl)
  exact ⟨rfl, rfl, rfl, rfl⟩
set_option maxRecDepth 100000 in
set_option maxHeartbeats 8000000 in
theorem c_J6_valueOf_2dffe (hl : l.stackTraces = false) (x : Int32) : z_CF G l mJ6_valueOf_2dffe 12 1 1 [] [.int x] (fun v L => v = some (.float x.toUInt32) ∧ L = []) := by
  refine z_body hl (by decide) rfl (Nat.le_of_ble_eq_true rfl) ?_
  show z_J G l mJ6_valueOf_2dffe (z_SF 12 1 1 [] (fun v L => v = some (.float x.toUInt32) ∧ L = [])) 0 [(0, _)] [] _ 0 0
  refine j_iload_n dJ6_valueOf_2dffe_0 rfl ?_
  refine j_bipush (v := (-128)) dJ6_valueOf_2dffe_1 (by decide) ?_
  refine j_icmp_lt (tgt := 23) dJ6_valueOf_2dffe_3 (by decide) (fun c_3 => ?_) (fun c_3 => ?_)
  · refine j_new (w' := ([.inr (2, [_])], z_no)) (n := 0) dJ6_valueOf_2dffe_23 nJ6_1 rfl (z_al_l rfl rfl) (Nat.le_of_ble_eq_true rfl) (Nat.le_of_ble_eq_true rfl) ?_
    refine j_dup dJ6_valueOf_2dffe_26 rfl ?_
    refine j_iload_n dJ6_valueOf_2dffe_27 rfl ?_
    refine j_callI dJ6_valueOf_2dffe_28 kJ6_init_d00df rfl lJ6_199 inJ6_init_d00df rfl (z_frame [0] rfl (by decide) (Nat.le_of_ble_eq_true rfl) (c_J6_init_d00df hl _)) (Nat.le_of_ble_eq_true rfl) ⟨(Nat.le_of_ble_eq_true rfl), (Nat.le_of_ble_eq_true rfl)⟩ rfl (Nat.le_of_ble_eq_true rfl) rfl rfl (fun _ _ h => h.elim) ?_
    rintro _ _ ⟨_, _, ⟨rfl, rfl⟩, rfl, rfl⟩
    refine j_ws (L' := [.inr (2, [_])]) (by decide) rfl rfl ?_
    refine j_toBox (n := 0) (L0 := []) rfl (Nat.le_of_ble_eq_true rfl) (Nat.le_of_ble_eq_true rfl) rfl rfl trivial rfl ?_
    refine j_w ([], z_no) rfl ?_
    refine j_aret dJ6_valueOf_2dffe_31 rfl (Or.inl ⟨_, rfl⟩) rfl ?_ (Nat.le_of_ble_eq_true rfl) (Nat.le_of_ble_eq_true rfl)
    exact ⟨rfl, rfl, rfl, rfl⟩
  · refine j_iload_n dJ6_valueOf_2dffe_6 rfl ?_
    refine j_gets dJ6_valueOf_2dffe_7 (List.mem_of_getElem? (i := 1) rfl) rfl (z_w 1522 ((lwt_7_1 7).trans rfl) (by decide +kernel)) ?_
    refine j_icmp_gt (tgt := 23) dJ6_valueOf_2dffe_10 (by decide) (fun c_10 => ?_) (fun c_10 => ?_)
    · refine j_new (w' := ([.inr (2, [_])], z_no)) (n := 0) dJ6_valueOf_2dffe_23 nJ6_1 rfl (z_al_l rfl rfl) (Nat.le_of_ble_eq_true rfl) (Nat.le_of_ble_eq_true rfl) ?_
      refine j_dup dJ6_valueOf_2dffe_26 rfl ?_
      refine j_iload_n dJ6_valueOf_2dffe_27 rfl ?_
      refine j_callI dJ6_valueOf_2dffe_28 kJ6_init_d00df rfl lJ6_199 inJ6_init_d00df rfl (z_frame [0] rfl (by decide) (Nat.le_of_ble_eq_true rfl) (c_J6_init_d00df hl _)) (Nat.le_of_ble_eq_true rfl) ⟨(Nat.le_of_ble_eq_true rfl), (Nat.le_of_ble_eq_true rfl)⟩ rfl (Nat.le_of_ble_eq_true rfl) rfl rfl (fun _ _ h => h.elim) ?_
      rintro _ _ ⟨_, _, ⟨rfl, rfl⟩, rfl, rfl⟩
      refine j_ws (L' := [.inr (2, [_])]) (by decide) rfl rfl ?_
      refine j_toBox (n := 0) (L0 := []) rfl (Nat.le_of_ble_eq_true rfl) (Nat.le_of_ble_eq_true rfl) rfl rfl trivial rfl ?_
      refine j_w ([], z_no) rfl ?_
      refine j_aret dJ6_valueOf_2dffe_31 rfl (Or.inl ⟨_, rfl⟩) rfl ?_ (Nat.le_of_ble_eq_true rfl) (Nat.le_of_ble_eq_true rfl)
      exact ⟨rfl, rfl, rfl, rfl⟩
    · refine j_gets dJ6_valueOf_2dffe_13 (List.mem_of_getElem? (i := 4) rfl) rfl (z_w 1524 ((lwt_7_1 9).trans rfl) (by decide +kernel)) ?_
      refine j_iload_n dJ6_valueOf_2dffe_16 rfl ?_
      refine j_sipush (v := 128) dJ6_valueOf_2dffe_17 (by decide) ?_
      refine j_iadd dJ6_valueOf_2dffe_20 ?_
      refine j_aaldC dJ6_valueOf_2dffe_21 (z_cnx c_3 c_10).1 ?_
      refine j_aret dJ6_valueOf_2dffe_22 rfl (Or.inl ⟨_, rfl⟩) rfl ?_ (Nat.le_of_ble_eq_true rfl) (Nat.le_of_ble_eq_true rfl)
      exact ⟨rfl, rfl, by rw [(z_cnx c_3 c_10).2], rfl⟩
set_option maxRecDepth 100000 in
set_option maxHeartbeats 8000000 in
theorem c_J6_intValue_8abf5 (hl : l.stackTraces = false) (w : z_W) (b : UInt32) : z_Con G l mJ6_intValue_8abf5 10 0 0 w [.float b] (fun v w9 => (v = some (.int b.toInt32)) ∧ w9 = w) (fun _ _ => False) := by
  refine z_body hl (by decide) rfl (Nat.le_of_ble_eq_true rfl) ?_
  show z_J G l mJ6_intValue_8abf5 ((10, 0, 0, w, (fun v w9 => (v = some (.int b.toInt32)) ∧ w9 = w), fun _ _ => False)) 0 [(0, _)] [] _ 0 0
  refine j_aload_n dJ6_intValue_8abf5_0 rfl rfl ?_
  refine j_getB dJ6_intValue_8abf5_1 fJ6_205 ?_
  refine j_iret dJ6_intValue_8abf5_4 rfl rfl ?_ (Nat.le_of_ble_eq_true rfl) (Nat.le_of_ble_eq_true rfl)
  exact ⟨rfl, rfl⟩
set_option maxRecDepth 100000 in
set_option maxHeartbeats 8000000 in
theorem c_J3_checkIndex_8e157 (hl : l.stackTraces = false) (w : z_W) (a b : Int32) (h1 : ¬ a < 0) (h2 : a < b) : z_Con G l mJ3_checkIndex_8e157 10 0 0 w [.int a, .int b, .null] (fun v w9 => (v = some (.int a)) ∧ w9 = w) (fun _ _ => False) := by
  refine z_body hl (by decide) rfl (Nat.le_of_ble_eq_true rfl) ?_
  show z_J G l mJ3_checkIndex_8e157 ((10, 0, 0, w, (fun v w9 => (v = some (.int a)) ∧ w9 = w), fun _ _ => False)) 0 [(0, _), (1, _), (2, _)] [] _ 0 0
  refine j_iload_n dJ3_checkIndex_8e157_0 rfl ?_
  refine j_if_lt (tgt := 9) dJ3_checkIndex_8e157_1 (by decide) (fun c_1 => ?_) (fun c_1 => ?_)
  · exact absurd c_1 h1
  · refine j_iload_n dJ3_checkIndex_8e157_4 rfl ?_
    refine j_iload_n dJ3_checkIndex_8e157_5 rfl ?_
    refine j_icmp_lt (tgt := 16) dJ3_checkIndex_8e157_6 (by decide) (fun c_6 => ?_) (fun c_6 => ?_)
    · refine j_iload_n dJ3_checkIndex_8e157_16 rfl ?_
      refine j_iret dJ3_checkIndex_8e157_17 rfl rfl ?_ (Nat.le_of_ble_eq_true rfl) (Nat.le_of_ble_eq_true rfl)
      exact ⟨rfl, rfl⟩
    · exact absurd h2 c_6
set_option maxRecDepth 100000 in
set_option maxHeartbeats 8000000 in
theorem c_J15_checkIndex_7cf53 (hl : l.stackTraces = false) (w : z_W) (a b : Int32) (h1 : ¬ a < 0) (h2 : a < b) : z_Con G l mJ15_checkIndex_7cf53 11 0 0 w [.int a, .int b] (fun v w9 => (v = some (.int a)) ∧ w9 = w) (fun _ _ => False) := by
  refine z_body hl (by decide) rfl (Nat.le_of_ble_eq_true rfl) ?_
  show z_J G l mJ15_checkIndex_7cf53 ((11, 0, 0, w, (fun v w9 => (v = some (.int a)) ∧ w9 = w), fun _ _ => False)) 0 [(0, _), (1, _)] [] _ 0 0
  refine j_iload_n dJ15_checkIndex_7cf53_0 rfl ?_
  refine j_iload_n dJ15_checkIndex_7cf53_1 rfl ?_
  refine j_null dJ15_checkIndex_7cf53_2 ?_
  refine j_callS dJ15_checkIndex_7cf53_3 kJ3_checkIndex_8e157 lJ15_105 stJ3_checkIndex_8e157 (c_J3_checkIndex_8e157 hl _ _ _ h1 h2) (Nat.le_of_ble_eq_true rfl) ⟨(Nat.le_of_ble_eq_true rfl), (Nat.le_of_ble_eq_true rfl)⟩ rfl (Nat.le_of_ble_eq_true rfl) rfl rfl (fun _ _ h => h.elim) ?_
  rintro _ _ ⟨rfl, rfl⟩
  refine j_iret dJ15_checkIndex_7cf53_6 rfl rfl ?_ (Nat.le_of_ble_eq_true rfl) (Nat.le_of_ble_eq_true rfl)
  exact ⟨rfl, rfl⟩
theorem cs_IO : Cond.castable "java/lang/Integer" "java/lang/Object" ∈ z_nst := (z_wn 1980 ((lwg_9 15).trans rfl) (by decide +kernel))
theorem ac_n : Cond.native arraycopyName ∈ z_tbl := (z_w 636 ((lwt_3_3 21).trans rfl) (by decide +kernel))
theorem ac_s : Cond.static arraycopyName ∈ z_tbl := (z_w 635 ((lwt_3_3 20).trans rfl) (by decide +kernel))
theorem ac_i : Cond.initialized "java/lang/System" ∈ z_tbl := (z_w 59 ((lwg_1 14).trans rfl) (by decide +kernel))
theorem cl_110 : Cond.classLink RJ7 110 "[Ljava/lang/Object;" ∈ z_tbl := (z_w 1448 ((lwt_6_6 23).trans rfl) (by decide +kernel))
theorem z_dirN {G : z_G} {l : Launch} {y : z_M} {rk mc ms nm : Nat} {L0 : List z_E} {av : List Value} {Q : Option Value → List z_E → Prop} (h : z_CN G l y rk mc ms nm L0 av Q) : z_Con G l y rk mc ms (L0, z_no) av (fun v w => ∃ L' : List z_E, Q v L' ∧ w = (L', z_no)) (fun _ _ => False) :=
  z_weak h (fun _ w h => ⟨w.1, h.2.2, by rw [← h.1]⟩) (fun _ _ h => h)
theorem gc_d : Cond.declares ⟨"java/lang/Object", "getClass", "()Ljava/lang/Class;"⟩ ∈ z_nst := (z_wn 1633 ((lwt_7_4 28).trans rfl) (by decide +kernel))
theorem gc_s : Cond.selects "[Ljava/lang/Object;" ⟨"java/lang/Object", "getClass", "()Ljava/lang/Class;"⟩ ⟨"java/lang/Object", "getClass", "()Ljava/lang/Class;"⟩ ∈ z_tbl := (z_w 1997 ((lwt_9_1 2).trans rfl) (by decide +kernel))
theorem gc_i : Cond.instanceMethod ⟨"java/lang/Object", "getClass", "()Ljava/lang/Class;"⟩ ∈ z_tbl := (z_w 1423 ((lwt_6_5 28).trans rfl) (by decide +kernel))
theorem gc_n : Cond.native ⟨"java/lang/Object", "getClass", "()Ljava/lang/Class;"⟩ ∈ z_tbl := (z_w 1444 ((lwt_6_6 19).trans rfl) (by decide +kernel))
end ZK1
