section ZM0
section ZJ5
variable {G : z_G} {l : Launch} {y : z_M} {S : z_S} {pc : Nat} {lo : List (Nat × Value)} {st : List Value} {w w' : z_W} {kc ks : Nat}
theorem z_isV {R0 R : z_R} {s : State} {p : Program} {m : MethodId} {args : Array Value} {meth : Method} {c : Code} {H : Heap} {locs : List Loc} {v : Value} {a : Nat} {C : String} (hok : z_ok G l y S p s m args meth c R0) (hat : z_at G S R0 s R w H locs) (hv : z_V G R w v (.ref a)) (hi : z_is w v C) : ∃ cell : Cell, H[a]? = some cell ∧ cell.vm.isStatics = false ∧ s.vm.findClass C = some cell.cls := by
  obtain ⟨cell, h1, h2, h3⟩ := z_isC hok hat hv hi
  exact ⟨cell, h1, h2, h3⟩
theorem j_callVB {idx np rk' mc' ms' : Nat} {y' : z_M} {as rest : List Value} {Q' : Option Value → z_W → Prop} {X' : String → z_W → Prop} {v0 : Value} {C : String} (hd : decode y.2.1 pc = .ok (.invokevirtual idx, 3)) (hm : z_okm y' np) (hl : Cond.methodLink y.1.cls idx y'.1 ∈ z_tbl) (hi : Cond.instanceMethod y'.1 ∈ z_tbl) (hse : Cond.selects C y'.1 y'.1 ∈ z_tbl) (hi9 : z_is w v0 C) (hc : z_Con G l y' rk' mc' ms' w (v0 :: as) Q' X') (hrk : rk' + 1 ≤ S.1) (hcs : kc + mc' ≤ S.2.1 ∧ ks + ms' ≤ S.2.2.1) (hstk : st = as.reverse ++ v0 :: rest) (hW : z_cat rest ≤ 8) (hn : as.length = np) (ht : y.2.2.2.2 = []) (hx : ∀ E w', X' E w' → S.2.2.2.2.2 E w') (kk : ∀ v w', Q' v w' → z_J G l y S (pc + 3) lo (v.toList ++ rest) w' (kc + mc') (ks + ms')) : z_J G l y S pc lo st w kc ks := by
  intro p e s m args below meth c R0 hok R H locs ls cst hat hlo hst
  subst hstk
  obtain ⟨b1, c2, rfl, hb1, hst⟩ := z_Lapp hst
  obtain ⟨c1, crest, rfl, h1, hrest⟩ := z_Lc hst
  obtain ⟨a, rfl⟩ := z_isR h1 hi9
  have hAs := z_Lrev hb1
  rw [List.reverse_reverse] at hAs
  exact z_run hok hat hlo hrest ht (vx_runV (C := C) (As := b1.reverse) ⟨hok.1, hok.2.1, rfl, hok.2.2.2.2.2.1, hok.2.2.2.2.2.2.1⟩ (hc R) ⟨z_CB hok.2.2.2.2.2.2.1 hm hrk hl, hok.2.2.2.2.2.2.1 _ hi, hok.2.2.2.2.2.2.1 _ hse⟩ ⟨z_Pc_blind, z_isV hok hat h1 hi9, fun U hU hW9 => z_pre hok hat (av := v0 :: as) (cav := .ref a :: b1.reverse) ⟨h1, hAs⟩ U hU hW9⟩ rfl (by rw [z_Ll hAs]; exact hn) hlo.choose_spec.1.1 (by rw [List.reverse_reverse]) (lv_room (by rw [z_Lcs hrest]; exact hW)) hd hcs) hcs hx kk
end ZJ5
theorem z_cnx {x : Int32} (h0 : ¬ x < -128) (h1 : ¬ (127 : Int32) < x) : vp_in (x + 128) 256 ∧ z_cn (x + 128).toNatClampNeg = x.toUInt32 := by
  have k0 : ¬ x.toInt < -128 := fun z => h0 ((Int32.lt_iff_toInt_lt).mpr z)
  have k1 : ¬ 127 < x.toInt := fun z => h1 ((Int32.lt_iff_toInt_lt).mpr z)
  have e : (x + 128).toInt = x.toInt + 128 := by
    rw [Int32.toInt_add, show (128 : Int32).toInt = 128 from rfl]
    exact Int.bmod_eq_of_le (by omega) (by omega)
  refine ⟨vp_in_iff.mpr ⟨by omega, by omega⟩, ?_⟩
  unfold z_cn
  have e2 : (((x + 128).toNatClampNeg : Nat) : Int) = x.toInt + 128 := by
    show (((x + 128).toInt.toNat : Nat) : Int) = _
    rw [e]
    omega
  rw [e2, show x.toInt + 128 - 128 = x.toInt by omega, Int32.ofInt_toInt]
end ZM0
section ZM1
section ZJ6
variable {G : z_G} {l : Launch} {y : z_M} {S : z_S} {pc : Nat} {lo : List (Nat × Value)} {st : List Value} {w w' : z_W} {kc ks : Nat}
theorem sm_max : Cond.static Lib.Math.max.name ∈ z_tbl := (z_w 614 ((lwt_3_2 29).trans rfl) (by decide +kernel))
theorem cm_max : Cond.code Lib.Math.max.name Lib.Math.max.code 2 (some .int) ∈ z_tbl := (z_w 615 ((lwt_3_3 0).trans rfl) (by decide +kernel))
theorem im_m : Cond.initialized "java/lang/Math" ∈ z_tbl := (z_w 57 ((lwg_1 12).trans rfl) (by decide +kernel))
theorem j_mmax {idx : Nat} {a b : Int32} (hd : decode y.2.1 pc = .ok (.invokestatic idx, 3)) (hl : Cond.methodLink y.1.cls idx Lib.Math.max.name ∈ z_tbl) (hrk : 1 ≤ S.1) (hW : z_cat st ≤ 8) (hc : kc ≤ S.2.1) (hs : ks ≤ S.2.2.1) (h : z_J G l y S (pc + 3) lo (.int (if a < b then b else a) :: st) w kc ks) : z_J G l y S pc lo (.int b :: .int a :: st) w kc ks := by
  intro p e s m args below meth c R0 hok R H locs ls cst hat hlo hst
  obtain ⟨c1, cs1, rfl, h1, hst1⟩ := z_Lc hst
  obtain ⟨c2, cs2, rfl, h2, hst2⟩ := z_Lc hst1
  have h1 : c1 = .int b := h1
  have h2 : c2 = .int a := h2
  subst h1 h2
  have hts := hok.2.2.2.2.2.2.1
  have hsz := hlo.choose_spec.1.1
  have h8 : (cs2.map fun v => v.category).sum ≤ 8 := by rw [z_Lcs hst2]; exact hW
  have h40 : 40 ≤ (z_rm S.1 S.2.1 S.2.2.1).locals := by show 40 ≤ 40 * S.1; omega
  exact va_mmax hok.1 hok.2.1 hsz.symm hok.2.2.2.2.2.1 (hts _ hl) (hts _ sm_max) (hts _ im_m) (hts _ cm_max) hrk (by omega) hc hs hd (h p e s m args below meth c R0 hok R H locs ls (.int (if a < b then b else a) :: cs2) hat hlo ⟨rfl, hst2⟩)
theorem sm_min : Cond.static Lib.Math.min.name ∈ z_tbl := (z_w 632 ((lwt_3_3 17).trans rfl) (by decide +kernel))
theorem cm_min : Cond.code Lib.Math.min.name Lib.Math.min.code 2 (some .int) ∈ z_tbl := (z_w 633 ((lwt_3_3 18).trans rfl) (by decide +kernel))
theorem j_mmin {idx : Nat} {a b : Int32} (hd : decode y.2.1 pc = .ok (.invokestatic idx, 3)) (hl : Cond.methodLink y.1.cls idx Lib.Math.min.name ∈ z_tbl) (hrk : 1 ≤ S.1) (hW : z_cat st ≤ 8) (hc : kc ≤ S.2.1) (hs : ks ≤ S.2.2.1) (h : z_J G l y S (pc + 3) lo (.int (if b < a then b else a) :: st) w kc ks) : z_J G l y S pc lo (.int b :: .int a :: st) w kc ks := by
  intro p e s m args below meth c R0 hok R H locs ls cst hat hlo hst
  obtain ⟨c1, cs1, rfl, h1, hst1⟩ := z_Lc hst
  obtain ⟨c2, cs2, rfl, h2, hst2⟩ := z_Lc hst1
  have h1 : c1 = .int b := h1
  have h2 : c2 = .int a := h2
  subst h1 h2
  have hts := hok.2.2.2.2.2.2.1
  have hsz := hlo.choose_spec.1.1
  have h8 : (cs2.map fun v => v.category).sum ≤ 8 := by rw [z_Lcs hst2]; exact hW
  have h40 : 40 ≤ (z_rm S.1 S.2.1 S.2.2.1).locals := by show 40 ≤ 40 * S.1; omega
  exact va_mmin hok.1 hok.2.1 hsz.symm hok.2.2.2.2.2.1 (hts _ hl) (hts _ sm_min) (hts _ im_m) (hts _ cm_min) hrk (by omega) hc hs hd (h p e s m args below meth c R0 hok R H locs ls (.int (if b < a then b else a) :: cs2) hat hlo ⟨rfl, hst2⟩)
theorem j_ishr {a b : Int32} (hd : decode y.2.1 pc = .ok (.ishr, 1)) (h : z_J G l y S (pc + 1) lo (.int (a >>> (b &&& 31)) :: st) w kc ks) : z_J G l y S pc lo (.int b :: .int a :: st) w kc ks := by
  intro p e s m args below meth c R0 hok R H locs ls cst hat hlo hst
  obtain ⟨c1, cs1, rfl, h1, hst1⟩ := z_Lc hst
  obtain ⟨c2, cs2, rfl, h2, hst2⟩ := z_Lc hst1
  have h1 : c1 = .int b := h1
  have h2 : c2 = .int a := h2
  subst h1 h2
  exact lv_ishr hok.1 hok.2.1 hd (h p e s m args below meth c R0 hok R H locs ls _ hat hlo ⟨rfl, hst2⟩)
theorem j_ishl {a b : Int32} (hd : decode y.2.1 pc = .ok (.ishl, 1)) (h : z_J G l y S (pc + 1) lo (.int (a <<< (b &&& 31)) :: st) w kc ks) : z_J G l y S pc lo (.int b :: .int a :: st) w kc ks := by
  intro p e s m args below meth c R0 hok R H locs ls cst hat hlo hst
  obtain ⟨c1, cs1, rfl, h1, hst1⟩ := z_Lc hst
  obtain ⟨c2, cs2, rfl, h2, hst2⟩ := z_Lc hst1
  have h1 : c1 = .int b := h1
  have h2 : c2 = .int a := h2
  subst h1 h2
  exact lv_ishl hok.1 hok.2.1 hd (h p e s m args below meth c R0 hok R H locs ls _ hat hlo ⟨rfl, hst2⟩)
end ZJ6
end ZM1
section ZM2
section ZK1
variable {G : z_G} {l : Launch}
set_option maxRecDepth 100000 in
set_option maxHeartbeats 8000000 in
theorem c_Jxd2413_init_da8c8 (hl : l.stackTraces = false) (w : z_W) (n : Nat) : z_Con G l mJxd2413_init_da8c8 10 0 0 w [.ref n] (fun v w9 => (v = none) ∧ w9 = w) (fun _ _ => False) := by
  refine z_body hl (by decide) rfl (Nat.le_of_ble_eq_true rfl) ?_
  show z_J G l mJxd2413_init_da8c8 ((10, 0, 0, w, (fun v w9 => (v = none) ∧ w9 = w), fun _ _ => False)) 0 [(0, _)] [] _ 0 0
  refine j_aload_n dJxd2413_init_da8c8_0 rfl rfl ?_
  refine j_objI dJxd2413_init_da8c8_1 oJxd2413_1 z_oi1 z_oi2 (Nat.le_of_ble_eq_true rfl) (Nat.le_of_ble_eq_true rfl) ?_
  refine j_vret dJxd2413_init_da8c8_4 rfl ?_ (Nat.le_of_ble_eq_true rfl) (Nat.le_of_ble_eq_true rfl)
  exact ⟨rfl, rfl⟩
set_option maxRecDepth 100000 in
set_option maxHeartbeats 8000000 in
theorem c_Jxa1e45_init_da8c8 (hl : l.stackTraces = false) (w : z_W) (n : Nat) : z_Con G l mJxa1e45_init_da8c8 10 0 0 w [.ref n] (fun v w9 => (v = none) ∧ w9 = w) (fun _ _ => False) := by
  refine z_body hl (by decide) rfl (Nat.le_of_ble_eq_true rfl) ?_
  show z_J G l mJxa1e45_init_da8c8 ((10, 0, 0, w, (fun v w9 => (v = none) ∧ w9 = w), fun _ _ => False)) 0 [(0, _)] [] _ 0 0
  refine j_aload_n dJxa1e45_init_da8c8_0 rfl rfl ?_
  refine j_objI dJxa1e45_init_da8c8_1 oJxa1e45_1 z_oi1 z_oi2 (Nat.le_of_ble_eq_true rfl) (Nat.le_of_ble_eq_true rfl) ?_
  refine j_vret dJxa1e45_init_da8c8_4 rfl ?_ (Nat.le_of_ble_eq_true rfl) (Nat.le_of_ble_eq_true rfl)
  exact ⟨rfl, rfl⟩
set_option maxRecDepth 100000 in
set_option maxHeartbeats 8000000 in
theorem c_J6_init_d00df (hl : l.stackTraces = false) (x : Int32) : z_CF G l mJ6_init_d00df 11 0 0 [.inr (2, [.int 0])] [.ref 0, .int x] (fun v L => v = none ∧ L = [.inr (2, [.int x])]) := by
  refine z_body hl (by decide) rfl (Nat.le_of_ble_eq_true rfl) ?_
  show z_J G l mJ6_init_d00df (z_SF 11 0 0 [.inr (2, [.int 0])] (fun v L => v = none ∧ L = [.inr (2, [.int x])])) 0 [(0, _), (1, _)] [] _ 0 0
  refine j_aload_n dJ6_init_d00df_0 rfl rfl ?_
  refine j_callI dJ6_init_d00df_1 kJxd2413_init_da8c8 rfl lJ6_202 inJxd2413_init_da8c8 rfl (c_Jxd2413_init_da8c8 hl _ _) (Nat.le_of_ble_eq_true rfl) ⟨(Nat.le_of_ble_eq_true rfl), (Nat.le_of_ble_eq_true rfl)⟩ rfl (Nat.le_of_ble_eq_true rfl) rfl rfl (fun _ _ h => h.elim) ?_
  rintro _ _ ⟨rfl, rfl⟩
  refine j_aload_n dJ6_init_d00df_4 rfl rfl ?_
  refine j_iload_n dJ6_init_d00df_5 rfl ?_
  refine j_putF (w' := ([.inr (2, [_])], z_no)) dJ6_init_d00df_6 fJ6_205 tJ6_0 rfl (z_dc rfl rfl (z_w 1535 ((lwt_7_1 20).trans rfl) (by decide +kernel))) rfl ⟨rfl, rfl⟩ rfl ?_
  refine j_vret dJ6_init_d00df_9 rfl ?_ (Nat.le_of_ble_eq_true rfl) (Nat.le_of_ble_eq_true rfl)
  exact ⟨rfl, rfl, rfl, rfl⟩
set_option maxRecDepth 100000 in
set_option maxHeartbeats 8000000 in
theorem c_J6_valueOf_2dffe (hl : l.stackTraces = false) (x : Int32) : z_CF G l mJ6_valueOf_2dffe 12 1 1 [] [.int x] (fun v L => v = some (.float x.toUInt32) ∧ L = []) := by
  refine z_body hl (by decide) rfl (Nat.le_of_ble_eq_true rfl) ?_
  show z_J G l mJ6_valueOf_2dffe (z_SF 12 1 1 [] (fun v L => v = some (.float x.toUInt32) ∧ L = [])) 0 [(0, _)] [] _ 0 0
  refine j_iload_n dJ6_valueOf_2dffe_0 rfl ?_
  refine j_bipush (v := (-128)) dJ6_valueOf_2dffe_1 (by decide) ?_
  refine j_icmp_lt (tgt := 23) dJ6_valueOf_2dffe_3 (by decide) (fun c_3 => ?_) (fun c_3 => ?_)
  · refine j_new (w' := ([.inr (2, [_])], z_no)) (n := 0) dJ6_valueOf_2dffe_23 nJ6_1 rfl (z_al_l rfl rfl) (Nat.le_of_ble_eq_true rfl) (Nat.le_of_ble_eq_true rfl) ?_
    refine j_dup dJ6_valueOf_2dffe_26 rfl ?_
    refine j_iload_n dJ6_valueOf_2dffe_27 rfl ?_
    refine j_callI dJ6_valueOf_2dffe_28 kJ6_init_d00df rfl lJ6_199 inJ6_init_d00df rfl (z_frame [0] rfl (by decide) (Nat.le_of_ble_eq_true rfl) (c_J6_init_d00df hl _)) (Nat.le_of_ble_eq_true rfl) ⟨(Nat.le_of_ble_eq_true rfl), (Nat.le_of_ble_eq_true rfl)⟩ rfl (Nat.le_of_ble_eq_true rfl) rfl rfl (fun _ _ h => h.elim) ?_
    rintro _ _ ⟨_, _, ⟨rfl, rfl⟩, rfl, rfl⟩
    refine j_ws (L' := [.inr (2, [_])]) (by decide) rfl rfl ?_
    refine j_toBox (n := 0) (L0 := []) rfl (Nat.le_of_ble_eq_true rfl) (Nat.le_of_ble_eq_true rfl) rfl rfl trivial rfl ?_
    refine j_w ([], z_no) rfl ?_
    refine j_aret dJ6_valueOf_2dffe_31 rfl (Or.inl ⟨_, rfl⟩) rfl ?_ (Nat.le_of_ble_eq_true rfl) (Nat.le_of_ble_eq_true rfl)
    exact ⟨rfl, rfl, rfl, rfl⟩
  · refine j_iload_n dJ6_valueOf_2dffe_6 rfl ?_
    refine j_gets dJ6_valueOf_2dffe_7 (List.mem_of_getElem? (i := 1) rfl) rfl (z_w 1522 ((lwt_7_1 7).trans rfl) (by decide +kernel)) ?_
    refine j_icmp_gt (tgt := 23) dJ6_valueOf_2dffe_10 (by decide) (fun c_10 => ?_) (fun c_10 => ?_)
    · refine j_new (w' := ([.inr (2, [_])], z_no)) (n := 0) dJ6_valueOf_2dffe_23 nJ6_1 rfl (z_al_l rfl rfl) (Nat.le_of_ble_eq_true rfl) (Nat.le_of_ble_eq_true rfl) ?_
      refine j_dup dJ6_valueOf_2dffe_26 rfl ?_
      refine j_iload_n dJ6_valueOf_2dffe_27 rfl ?_
      refine j_callI dJ6_valueOf_2dffe_28 kJ6_init_d00df rfl lJ6_199 inJ6_init_d00df rfl (z_frame [0] rfl (by decide) (Nat.le_of_ble_eq_true rfl) (c_J6_init_d00df hl _)) (Nat.le_of_ble_eq_true rfl) ⟨(Nat.le_of_ble_eq_true rfl), (Nat.le_of_ble_eq_true rfl)⟩ rfl (Nat.le_of_ble_eq_true rfl) rfl rfl (fun _ _ h => h.elim) ?_
      rintro _ _ ⟨_, _, ⟨rfl, rfl⟩, rfl, rfl⟩
      refine j_ws (L' := [.inr (2, [_])]) (by decide) rfl rfl ?_
      refine j_toBox (n := 0) (L0 := []) rfl (Nat.le_of_ble_eq_true rfl) (Nat.le_of_ble_eq_true rfl) rfl rfl trivial rfl ?_
      refine j_w ([], z_no) rfl ?_
      refine j_aret dJ6_valueOf_2dffe_31 rfl (Or.inl ⟨_, rfl⟩) rfl ?_ (Nat.le_of_ble_eq_true rfl) (Nat.le_of_ble_eq_true rfl)
      exact ⟨rfl, rfl, rfl, rfl⟩
    · refine j_gets dJ6_valueOf_2dffe_13 (List.mem_of_getElem? (i := 4) rfl) rfl (z_w 1524 ((lwt_7_1 9).trans rfl) (by decide +kernel)) ?_
      refine j_iload_n dJ6_valueOf_2dffe_16 rfl ?_
      refine j_sipush (v := 128) dJ6_valueOf_2dffe_17 (by decide) ?_
      refine j_iadd dJ6_valueOf_2dffe_20 ?_
      refine j_aaldC dJ6_valueOf_2dffe_21 (z_cnx c_3 c_10).1 ?_
      refine j_aret dJ6_valueOf_2dffe_22 rfl (Or.inl ⟨_, rfl⟩) rfl ?_ (Nat.le_of_ble_eq_true rfl) (Nat.le_of_ble_eq_true rfl)
      exact ⟨rfl, rfl, by rw [(z_cnx c_3 c_10).2], rfl⟩
set_option maxRecDepth 100000 in
set_option maxHeartbeats 8000000 in
theorem c_J6_intValue_8abf5 (hl : l.stackTraces = false) (w : z_W) (b : UInt32) : z_Con G l mJ6_intValue_8abf5 10 0 0 w [.float b] (fun v w9 => (v = some (.int b.toInt32)) ∧ w9 = w) (fun _ _ => False) := by
  refine z_body hl (by decide) rfl (Nat.le_of_ble_eq_true rfl) ?_
  show z_J G l mJ6_intValue_8abf5 ((10, 0, 0, w, (fun v w9 => (v = some (.int b.toInt32)) ∧ w9 = w), fun _ _ => False)) 0 [(0, _)] [] _ 0 0
  refine j_aload_n dJ6_intValue_8abf5_0 rfl rfl ?_
  refine j_getB dJ6_intValue_8abf5_1 fJ6_205 ?_
  refine j_iret dJ6_intValue_8abf5_4 rfl rfl ?_ (Nat.le_of_ble_eq_true rfl) (Nat.le_of_ble_eq_true rfl)
  exact ⟨rfl, rfl⟩
set_option maxRecDepth 100000 in
set_option maxHeartbeats 8000000 in
theorem c_J3_checkIndex_8e157 (hl : l.stackTraces = false) (w : z_W) (a b : Int32) (h1 : ¬ a < 0) (h2 : a < b) : z_Con G l mJ3_checkIndex_8e157 10 0 0 w [.int a, .int b, .null] (fun v w9 => (v = some (.int a)) ∧ w9 = w) (fun _ _ => False) := by
  refine z_body hl (by decide) rfl (Nat.le_of_ble_eq_true rfl) ?_
  show z_J G l mJ3_checkIndex_8e157 ((10, 0, 0, w, (fun v w9 => (v = some (.int a)) ∧ w9 = w), fun _ _ => False)) 0 [(0, _), (1, _), (2, _)] [] _ 0 0
  refine j_iload_n dJ3_checkIndex_8e157_0 rfl ?_
  refine j_if_lt (tgt := 9) dJ3_checkIndex_8e157_1 (by decide) (fun c_1 => ?_) (fun c_1 => ?_)
  · exact absurd c_1 h1
  · refine j_iload_n dJ3_checkIndex_8e157_4 rfl ?_
    refine j_iload_n dJ3_checkIndex_8e157_5 rfl ?_
    refine j_icmp_lt (tgt := 16) dJ3_checkIndex_8e157_6 (by decide) (fun c_6 => ?_) (fun c_6 => ?_)
    · refine j_iload_n dJ3_checkIndex_8e157_16 rfl ?_
      refine j_iret dJ3_checkIndex_8e157_17 rfl rfl ?_ (Nat.le_of_ble_eq_true rfl) (Nat.le_of_ble_eq_true rfl)
      exact ⟨rfl, rfl⟩
    · exact absurd h2 c_6
set_option maxRecDepth 100000 in
set_option maxHeartbeats 8000000 in
theorem c_J15_checkIndex_7cf53 (hl : l.stackTraces = false) (w : z_W) (a b : Int32) (h1 : ¬ a < 0) (h2 : a < b) : z_Con G l mJ15_checkIndex_7cf53 11 0 0 w [.int a, .int b] (fun v w9 => (v = some (.int a)) ∧ w9 = w) (fun _ _ => False) := by
  refine z_body hl (by decide) rfl (Nat.le_of_ble_eq_true rfl) ?_
  show z_J G l mJ15_checkIndex_7cf53 ((11, 0, 0, w, (fun v w9 => (v = some (.int a)) ∧ w9 = w), fun _ _ => False)) 0 [(0, _), (1, _)] [] _ 0 0
  refine j_iload_n dJ15_checkIndex_7cf53_0 rfl ?_
  refine j_iload_n dJ15_checkIndex_7cf53_1 rfl ?_
  refine j_null dJ15_checkIndex_7cf53_2 ?_
  refine j_callS dJ15_checkIndex_7cf53_3 kJ3_checkIndex_8e157 lJ15_105 stJ3_checkIndex_8e157 (c_J3_checkIndex_8e157 hl _ _ _ h1 h2) (Nat.le_of_ble_eq_true rfl) ⟨(Nat.le_of_ble_eq_true rfl), (Nat.le_of_ble_eq_true rfl)⟩ rfl (Nat.le_of_ble_eq_true rfl) rfl rfl (fun _ _ h => h.elim) ?_
  rintro _ _ ⟨rfl, rfl⟩
  refine j_iret dJ15_checkIndex_7cf53_6 rfl rfl ?_ (Nat.le_of_ble_eq_true rfl) (Nat.le_of_ble_eq_true rfl)
  exact ⟨rfl, rfl⟩
theorem cs_IO : Cond.castable "java/lang/Integer" "java/lang/Object" ∈ z_nst := (z_wn 1988 ((lwg_9 23).trans rfl) (by decide +kernel))
theorem ac_n : Cond.native arraycopyName ∈ z_tbl := (z_w 636 ((lwt_3_3 21).trans rfl) (by decide +kernel))
theorem ac_s : Cond.static arraycopyName ∈ z_tbl := (z_w 635 ((lwt_3_3 20).trans rfl) (by decide +kernel))
theorem ac_i : Cond.initialized "java/lang/System" ∈ z_tbl := (z_w 59 ((lwg_1 14).trans rfl) (by decide +kernel))
theorem cl_110 : Cond.classLink RJ7 110 "[Ljava/lang/Object;" ∈ z_tbl := (z_w 1448 ((lwt_6_6 23).trans rfl) (by decide +kernel))
theorem z_dirN {G : z_G} {l : Launch} {y : z_M} {rk mc ms nm : Nat} {L0 : List z_E} {av : List Value} {Q : Option Value → List z_E → Prop} (h : z_CN G l y rk mc ms nm L0 av Q) : z_Con G l y rk mc ms (L0, z_no) av (fun v w => ∃ L' : List z_E, Q v L' ∧ w = (L', z_no)) (fun _ _ => False) :=
  z_weak h (fun _ w h => ⟨w.1, h.2.2, by rw [← h.1]⟩) (fun _ _ h => h)
theorem gc_d : Cond.declares ⟨"java/lang/Object", "getClass", "()Ljava/lang/Class;"⟩ ∈ z_nst := (z_wn 1633 ((lwt_7_4 28).trans rfl) (by decide +kernel))
theorem gc_s : Cond.selects "[Ljava/lang/Object;" ⟨"java/lang/Object", "getClass", "()Ljava/lang/Class;"⟩ ⟨"java/lang/Object", "getClass", "()Ljava/lang/Class;"⟩ ∈ z_tbl := (z_w 2005 ((lwt_9_1 10).trans rfl) (by decide +kernel))
theorem gc_i : Cond.instanceMethod ⟨"java/lang/Object", "getClass", "()Ljava/lang/Class;"⟩ ∈ z_tbl := (z_w 1423 ((lwt_6_5 28).trans rfl) (by decide +kernel))
theorem gc_n : Cond.native ⟨"java/lang/Object", "getClass", "()Ljava/lang/Class;"⟩ ∈ z_tbl := (z_w 1444 ((lwt_6_6 19).trans rfl) (by decide +kernel))
end ZK1
end ZM2
section ZM3
section ZJ7
variable {G : z_G} {l : Launch} {y : z_M} {S : z_S} {pc : Nat} {lo : List (Nat × Value)} {st : List Value} {w w' : z_W} {kc ks : Nat}
theorem j_getSK {i idx k : Nat} {t : String × Nat × String} {v : Value} (hd : decode y.2.1 pc = .ok (.getfield idx, 3)) (hF : z_F y.1.cls idx 0 k) (hi : z_strs[i]? = some t) (ht : t.1 = "LoopdefaultsModel" ∨ t.1 = "LoopdefaultsModel$Hearer") (hk2 : k < 2) (hv : [Value.retAddr (50 + i), .int 0][k]? = some v) (h : z_J G l y S (pc + 3) lo (v :: st) w kc ks) : z_J G l y S pc lo (.retAddr (10 + i) :: st) w kc ks := by
  intro p e s m args below meth c R0 hok R H locs ls cst hat hlo hst
  obtain ⟨c1, cs1, rfl, ⟨q1, h1, hq1⟩, hst1⟩ := z_Lc hst
  subst h1
  obtain ⟨a, bq, ha, hbq, -, hO⟩ := (z_okc hok).2.2.2.2.2.2.2.2.1 i t hi ht
  have e9 := (z_okc hok).1 _ _ _ hq1 ha
  subst e9
  obtain ⟨cell, o1, o2, o3, o4⟩ := hO
  have o1' : H[q1]? = some cell := by rw [(z_fS hok hat).2.1 q1 (Array.getElem?_eq_some_iff.mp o1).1 ((z_okc hok).2.1 _ _ (Or.inr (by omega)) hq1)]; exact o1
  obtain ⟨g, hg, hgv⟩ : ∃ g, vp_V [.ref bq, .int 0] k = g ∧ z_V G R w v g := by
    match k, hk2, hv with
    | 0, _, hv => exact ⟨_, rfl, by rw [← Option.some.inj hv]; exact ⟨bq, rfl, hbq⟩⟩
    | 1, _, hv => exact ⟨_, rfl, by rw [← Option.some.inj hv]; rfl⟩
  obtain ⟨q', ref, f1, f2, f3, f4, f5⟩ := hF
  have kk := h p e s m args below meth c R0 hok R H locs ls (g :: cs1) hat hlo ⟨hgv, hst1⟩
  obtain ⟨hx, hb, -, -, -, hown, hts, henv, -⟩ := hok
  obtain ⟨hS, hfc, kC, hkC, hkind⟩ := henv.1 0 _ f1
  obtain ⟨cf, kf, fi, f, hi9, hsl⟩ := hS k f2
  have hsta := (u_facts hfc hkC (u_lays (ws := z_tbl) hts f3 f2) hi9).1
  have hi2 : s.fieldFound? ref (q'.2.1 k).2.1 (q'.2.1 k).2.2.1 = some (cf, kf, fi, f) := by
    rcases f5 with z | z
    · rw [← z]; exact hi9
    · exact u_same (hts _ z) _ hi9
  have hsv : cell.slots[f.slot]? = some g := by
    rw [hsl, ← hg]
    exact o4 k hk2
  rcases f4 with f4 | ⟨host, f4⟩
  · exact W.getf hx hb hown (hts _ f4) hi2 hsta o1' o3.2 hsv rfl rfl hd kk
  · exact va_Wgetf hx hb hown (va_Nw.use (w := Cond.fieldLinkNest y.1.cls idx ref (q'.2.1 k).2.1 (q'.2.1 k).2.2.1 host) rfl (henv.2.2.1 _ f4)) hi2 hsta o1' o3.2 hsv rfl rfl hd kk
end ZJ7
end ZM3
section ZM4
section ZW
def z_fn (w : z_W) : Prop := w.1.length ≤ 1000 ∧ ∃ T : Nat, ∀ n, T ≤ n → w.2 n = none
theorem z_fresh {w : z_W} (ρ : Nat) (hρ : ρ < 64) (h : z_fn w) : ∃ n, 1000 ≤ n ∧ n % 64 = ρ ∧ z_g w n = none := by
  obtain ⟨-, T, hT⟩ := h
  refine ⟨64 * (T + 16) + ρ, by omega, by omega, ?_⟩
  have hb : Nat.blt (64 * (T + 16) + ρ) 1000 = false := z_bltF (by omega)
  simp only [z_g, hb, cond]
  exact hT _ (by omega)
def z_up (w : z_W) (n : Nat) (e : z_E) (w' : z_W) : Prop := z_g w' n = some e ∧ (∀ m, m ≠ n → z_g w' m = z_g w m) ∧ w'.1 = w.1 ∧ (z_fn w → z_fn w')
theorem z_upS {w : z_W} {n : Nat} {e : z_E} (hn : 1000 ≤ n) : z_up w n e (z_s w n e) := by
  have hb : Nat.blt n 1000 = false := z_bltF hn
  refine ⟨?_, fun m hm => z_gs_ne hm, ?_, fun h => ?_⟩
  · simp only [z_g, z_s, hb, cond]; rw [Nat.beq_refl]
  · simp only [z_s, hb, cond]
  · obtain ⟨h1, T, hT⟩ := h
    simp only [z_s, hb, cond]
    refine ⟨h1, T + n + 1, fun m hm => ?_⟩
    show cond (Nat.beq m n) (some e) (w.2 m) = none
    rw [z_beq (by omega)]
    exact hT m (by omega)
theorem z_alW {w : z_W} {n : Nat} {e : z_E} (h : z_g w n = none) (hn : 1000 ≤ n) : z_g w n = none ∧ z_al w n e (z_s w n e) := ⟨h, (z_upS hn).1, (z_upS hn).2.1⟩
theorem j_seal {G : z_G} {l : Launch} {y : z_M} {S : z_S} {pc : Nat} {lo : List (Nat × Value)} {st : List Value} {w : z_W} {kc ks n : Nat} {e : z_E} (hn : 1000 ≤ n) (h : ∀ w', z_up w n e w' → z_J G l y S pc lo st w' kc ks) : z_J G l y S pc lo st (z_s w n e) kc ks := h _ (z_upS hn)
theorem z_neF {w : z_W} {n m : Nat} {e : z_E} (h : z_g w n = none) (h2 : z_g w m = some e) : m ≠ n := fun z => by rw [z, h] at h2; cases h2
def z_fw (ρ : Nat) (w w' : z_W) : Prop := w'.1 = w.1 ∧ (z_fn w → z_fn w') ∧ ∀ n, (n < 1000 ∨ n % 64 ≠ ρ) → z_g w' n = z_g w n
theorem z_fw.rf {ρ : Nat} {w : z_W} : z_fw ρ w w := ⟨rfl, id, fun _ _ => rfl⟩
theorem z_fw.tr {ρ : Nat} {a b c : z_W} (h : z_fw ρ a b) (h2 : z_fw ρ b c) : z_fw ρ a c := ⟨h2.1.trans h.1, fun z => h2.2.1 (h.2.1 z), fun n hn => (h2.2.2 n hn).trans (h.2.2 n hn)⟩
theorem z_up.fw {ρ n : Nat} {w w' : z_W} {e : z_E} (h : z_up w n e w') (h0 : 1000 ≤ n) (h1 : n % 64 = ρ) : z_fw ρ w w' := ⟨h.2.2.1, h.2.2.2, fun m hm => h.2.1 m (fun z => by subst z; omega)⟩
theorem z_fw.g {ρ n : Nat} {w w' : z_W} {e : z_E} (h : z_fw ρ w w') (hn : n < 1000 ∨ n % 64 ≠ ρ) (hg : z_g w n = some e) : z_g w' n = some e := (h.2.2 n hn).trans hg
def z_el (ρ : Nat) (w : z_W) (v : Value) : Prop := ((∃ b, v = .float b) ∨ ∃ r, v = .ref r ∧ (r < 1000 ∨ r % 64 ≠ ρ)) ∧ ∃ C, z_is w v C ∧ Cond.castable C "java/lang/Object" ∈ z_nst
theorem z_el.ir {ρ : Nat} {w : z_W} {v : Value} (h : z_el ρ w v) : z_ir v = true := by
  rcases h.1 with ⟨b, rfl⟩ | ⟨r, rfl, -⟩ <;> rfl
theorem z_isM {w w' : z_W} {n : Nat} {C : String} (h : z_g w' n = z_g w n) (hi : z_is w (.ref n) C) : z_is w' (.ref n) C := by
  rcases hi with ⟨o, q, h1, h2⟩ | ⟨x, ty, h1, h2⟩
  · exact Or.inl ⟨o, q, h.trans h1, h2⟩
  · exact Or.inr ⟨x, ty, h.trans h1, h2⟩
theorem z_el.m {ρ : Nat} {w w' : z_W} {v : Value} (hw : ∀ n, (n < 1000 ∨ n % 64 ≠ ρ) → z_g w' n = z_g w n) (h : z_el ρ w v) : z_el ρ w' v := by
  obtain ⟨h1, C, h2, h3⟩ := h
  refine ⟨h1, C, ?_, h3⟩
  rcases h1 with ⟨b, rfl⟩ | ⟨r, rfl, hr⟩
  · exact h2
  · exact z_isM (hw r hr) h2
def z_liA (w : z_W) (ρ a : Nat) (mo : Int32) (L : List Value) (m n : Nat) (f : Nat → Value) : Prop := 1000 ≤ m ∧ m % 64 = ρ ∧ m ≠ a ∧ z_g w a = some (.inr (4, [.int mo, .ref m, .int (nI L.length)])) ∧ z_g w m = some (.inl (3, n, f)) ∧ L.length ≤ n ∧ n ≤ 1600 ∧ ∀ (j : Nat) (v : Value), L[j]? = some v → f j = v
def z_liB (w : z_W) (a : Nat) (mo : Int32) (L : List Value) (k : Nat) : Prop := L = [] ∧ k < 2 ∧ z_g w a = some (.inr (4, [.int mo, .retAddr k, .int 0]))
def z_li (w : z_W) (ρ a : Nat) (mo : Int32) (L : List Value) : Prop := 1000 ≤ a ∧ a % 64 = ρ ∧ (∀ v ∈ L, z_ir v = true) ∧ ((∃ m n f, z_liA w ρ a mo L m n f) ∨ ∃ k, z_liB w a mo L k)
theorem z_li.cell {w : z_W} {ρ a : Nat} {mo : Int32} {L : List Value} (h : z_li w ρ a mo L) : ∃ v, z_ir v = true ∧ z_g w a = some (.inr (4, [.int mo, v, .int (nI L.length)])) := by
  obtain ⟨-, -, -, ⟨m, n, f, -, -, -, h, -⟩ | ⟨k, rfl, -, h⟩⟩ := h
  · exact ⟨_, rfl, h⟩
  · exact ⟨_, rfl, h⟩
theorem z_li.len {w : z_W} {ρ a : Nat} {mo : Int32} {L : List Value} (h : z_li w ρ a mo L) : L.length ≤ 1600 := by
  obtain ⟨-, -, -, ⟨m, n, f, -, -, -, -, -, h, h2, -⟩ | ⟨k, rfl, -⟩⟩ := h
  · omega
  · exact Nat.zero_le _
theorem z_li.one {w : z_W} {ρ a j : Nat} {mo : Int32} {L : List Value} {v : Value} (h : z_li w ρ a mo L) (hj : L[j]? = some v) : ∃ m n f, z_liA w ρ a mo L m n f := by
  obtain ⟨-, -, -, h | ⟨k, rfl, -⟩⟩ := h
  · exact h
  · simp at hj
theorem z_li.ir {w : z_W} {ρ a j : Nat} {mo : Int32} {L : List Value} {v : Value} (h : z_li w ρ a mo L) (hj : L[j]? = some v) : z_ir v = true := h.2.2.1 v (List.mem_of_getElem? hj)
theorem z_li.m {w w' : z_W} {ρ a : Nat} {mo : Int32} {L : List Value} (hw : ∀ n, 1000 ≤ n → n % 64 = ρ → z_g w' n = z_g w n) (h : z_li w ρ a mo L) : z_li w' ρ a mo L := by
  obtain ⟨h1, h2, h3, h4⟩ := h
  refine ⟨h1, h2, h3, ?_⟩
  rcases h4 with ⟨m, n, f, a1, a2, a3, a4, a5, a6⟩ | ⟨k, a1, a2, a3⟩
  · exact Or.inl ⟨m, n, f, a1, a2, a3, (hw a h1 h2).trans a4, (hw m a1 a2).trans a5, a6⟩
  · exact Or.inr ⟨k, a1, a2, (hw a h1 h2).trans a3⟩
theorem z_li.fw {w w' : z_W} {ρ σ a : Nat} {mo : Int32} {L : List Value} (h : z_li w ρ a mo L) (hw : z_fw σ w w') (hne : ρ ≠ σ) : z_li w' ρ a mo L := h.m (fun n _ h2 => hw.2.2 n (Or.inr (by omega)))
def z_it (w : z_W) (i a : Nat) (mo : Int32) (k : Nat) : Prop := ∃ la : Int32, z_g w i = some (.inr (3, [.int (nI k), .int la, .int mo, .ref a]))
theorem z_it.m {w w' : z_W} {i a k : Nat} {mo : Int32} (h : z_it w i a mo k) (hw : z_g w' i = z_g w i) : z_it w' i a mo k := by
  obtain ⟨la, h⟩ := h
  exact ⟨la, hw.trans h⟩
theorem z_cla {n : Nat} (hn : n < 2147483648) : (nI n).toNatClampNeg = n := nI_clamp hn
end ZW
end ZM4
section ZM5
section
variable {p : Program} {l : Launch} {e : Env} {R : Room} {s : State} {m : MethodId} {args : Array Value} {below : List Frame} {meth : Method} {c : Code} {H : Heap} {locs : List Loc} {cells slots : Nat}
theorem vx_callSU {T : State} {locs : List Loc} {cells slots : Nat} (X : Stand p l e R s m args below meth c T locs cells slots) (hexec : p.tables.exec = Jvm.exec) {own : String} {index : Nat} {y : MethodName} {bytes : ByteArray} {maxL : Nat} {ret : Option FieldType}
    (hown : s.vm.findClass own = some m.cls) (hlink : (Cond.methodLink own index y).before args s = true) (hsame : (Cond.sameMethod y.cls y.cls y.name y.desc).before args s = true) (hsup : (Cond.superclass own y.cls).before args s = true)
    (hinst : (Cond.instanceMethod y).before args s = true) (hcode : (Cond.code y bytes maxL ret).before args s = true) (hno : y.name ≠ "<init>")
    {W : Nat} {Pre : Pt → Array Value → Prop} {Post : Pt → Array Value → Option Value → Pt → Prop} {PostX : Pt → Array Value → Addr → Pt → Prop} (hK : vx_Back l R p e below s args y 3 W Pre Post PostX)
    {b : Addr} {cellB : Cell} {kB : Class} (hcell : T.heap[b]? = some cellB) (hobj : cellB.vm.isStatics = false) (hkB : s.vm.classes[cellB.cls]? = some kB)
    {g : JFrame} (hg : g.method = m) (hsize : g.locals.size = c.maxLocals) {argsL rest : List Value} (hlen : ∀ sig, parseMethodDescriptor y.desc = some sig → argsL.length = sig.parameters.length)
    (hstack : g.stack = argsL.reverse ++ .ref b :: rest) (hW : 2 * g.monitorRoom + (rest.map fun v => v.category).sum ≤ W) (hdg : decode c.code g.pc = .ok (.invokespecial index, 3))
    (hpre : ∀ vm₁, s.WarmedH vm₁ → Pre ⟨T.setVm vm₁, locs, cells, slots⟩ (Value.ref b :: argsL).toArray) :
    (∃ (v : Option Value) (vm₁ : Vm) (B : Pt), s.WarmedH vm₁ ∧ Stand p l e R s m args below meth c B.U B.locs B.cells B.slots ∧ Post ⟨T.setVm vm₁, locs, cells, slots⟩ (Value.ref b :: argsL).toArray v B ∧
      ∀ target, Steps p.tables e below (B.U.setTop { g with pc := g.pc + 3, stack := v.toList ++ rest }) target → Steps p.tables e below (T.setTop g) target) ∨
    (∃ (q : Addr) (vm₁ : Vm) (B : Pt), s.WarmedH vm₁ ∧ Stand p l e R s m args below meth c B.U B.locs B.cells B.slots ∧ PostX ⟨T.setVm vm₁, locs, cells, slots⟩ (Value.ref b :: argsL).toArray q B ∧
      Steps p.tables e below (T.setTop g) ((B.U.setTop { g with stack := rest }).pushFrame (.throwing q))) := by
  obtain ⟨mk, methM, hnamed, hmethM, hstM, habM⟩ := Cond.instanceMethod_spec hinst
  obtain ⟨methM', cM, hmethM', -, -, -, -, -, -, hsigM⟩ := Cond.code_spec hnamed hcode
  cases hmethM.symm.trans hmethM'
  obtain ⟨ps, dk, kp, hps, hdk, hkp, hsuper, -, -, hnid⟩ := Cond.superclass_spec hown hsup
  have hn : s.methodNamed? ⟨y.cls, y.name, y.desc⟩ = some mk := hnamed
  have hpm : ps = mk.cls := Option.some.inj (hps.symm.trans (findClass_of_methodNamed hnamed))
  have hsub : s.vm.isSubclass ps mk.cls = true := by rw [hpm]; simp [Vm.isSubclass, Vm.isSubclassAux]
  obtain ⟨vm₁, X₁, hstep₁⟩ := X.invokespecialUp hexec hown hlink hsame hn hmethM hstM habM hno hdk hnid hps hsuper hsub (a := b) (cell := cellB) hcell
    (fun z h => by rw [h] at hobj; cases hobj) hkB (g := g) hg (argsL := argsL) (rest := rest) (hlen _ hsigM) hstack hdg
  rcases hK m meth c ⟨T.setVm vm₁, locs, cells, slots⟩ { g with stack := rest } (.invokespecial index) mk (Value.ref b :: argsL).toArray X₁ hg hsize hdg hW (X₁.named hnamed) (hpre vm₁ X₁.warmed) with ⟨v, B, X', hpost, hsteps⟩ | ⟨q, B, X', hpost, hsteps⟩
  · exact Or.inl ⟨v, vm₁, B, X₁.warmed, X', hpost, fun target h => hstep₁ _ (by rw [doInvoke_state]; exact hsteps.trans h)⟩
  · exact Or.inr ⟨q, vm₁, B, X₁.warmed, X', hpost, hstep₁ _ (by rw [doInvoke_state]; exact hsteps)⟩
theorem vx_runSU {y : MethodName} {bytes cc : ByteArray} {maxL nL mc ms n index : Nat} {ret : Option FieldType} {ws : List Cond} {rm : Room} {Pc : Array Value → State → Prop} {Qc : Array Value → State → Outcome → State → Prop} {XC : String → State → State → Prop} {free : Addr → Prop} {Ts : List Cond} {own C : String} {cC : ClassId} {b : Addr} {As rest : List Value} {g : JFrame}
    (hat : ClassAt s C cC) (S : CallFix p m c cc nL s args Ts own) (hM : vx_Met l y ws rm Pc Qc XC mc ms free) (cw : va_CS R s args own index y bytes maxL ret ws rm mc ms n) (hp : PreV s H C b Pc As)
    (hg : g.method = m) (hn : As.length = n) (hsize : g.locals.size = nL) (hstack : g.stack = As.reverse ++ .ref b :: rest) (hW : 2 * g.monitorRoom + (rest.map fun v => v.category).sum ≤ 8) (hdg : decode cc g.pc = .ok (.invokespecial index, 3)) (hf : cells + mc ≤ R.cells ∧ slots + ms ≤ R.slots) :
    vx_Run p l e R s m args below meth c H locs cells slots mc ms g rest (Qc (Value.ref b :: As).toArray) XC free := by
  obtain ⟨⟨hrc, hrs, hfr, hlo, hws, hcw⟩, hl1, hl2, hl3, hl4, hini, hcode, hno, hlen⟩ := cw
  have hK : vx_Back l R p e below s args y 3 8 (PreOf R mc ms Pc) (PostOf Qc mc ms free) (vx_Post XC mc ms free) := vx_back (bytes := bytes) (maxL := maxL) (ret := ret) hM hp.1 hrc hrs hfr hlo hws hcw (fun a' U hW => word_at hW (Or.inl (by first | rfl | simp [Cond.onTables, Cond.keeps, Cond.steady])) hini)
  obtain ⟨hx, hb, hml, ho, -⟩ := S
  obtain ⟨-, ⟨cellB, hcB, hoB, hclB⟩, hPc⟩ := hp
  obtain ⟨hfc, kB, hkB, -⟩ := hat
  cases hfc.symm.trans hclB
  intro T hT X
  rcases vx_callSU X hx (bytes := bytes) (maxL := maxL) (ret := ret) ho hl1 hl2 hl3 hl4 hcode hno hK (by rw [hT]; exact hcB) hoB hkB hg (hsize.trans hml.symm) (argsL := As) (rest := rest) (fun sig h => hn.trans (hlen sig h)) hstack hW (by rw [hb]; exact hdg)
    (fun vm₁ hW₁ => ⟨hf.1, hf.2, hPc (T.setVm vm₁) hT hW₁⟩) with ⟨v, vm₁, ⟨U', l2, c2, s2⟩, hW₁, X', ⟨g', mk, t, L, e1, e2, hq, h1, hL, h2, h3⟩, st⟩ | ⟨q, vm₁, ⟨U', l2, c2, s2⟩, hW₁, X', ⟨g', mk, t, L, E, ce, e1, e2, hq, hce, hcv, hcl, h1, hL, h2, h3⟩, st⟩
  · dsimp only [Pt.U, Pt.locs, Pt.cells, Pt.slots] at X' e1 e2 h1 h2 h3 st
    subst h1; subst h2; subst h3
    exact Or.inl ⟨v, (T.setVm vm₁).calling g' mk (Value.ref b :: As).toArray, t, U', L, hT, X', hL, e1, e2, hq, st⟩
  · dsimp only [Pt.U, Pt.locs, Pt.cells, Pt.slots] at X' e1 e2 h1 h2 h3 st hcl
    subst h1; subst h2; subst h3
    exact Or.inr ⟨q, (T.setVm vm₁).calling g' mk (Value.ref b :: As).toArray, t, U', L, E, ce, hT, X', hL, e1, e2, hq, hce, hcv, vx_cls hW₁ hcl, st⟩
end
end ZM5
section ZM6
section ZLo
variable {G : z_G} {l : Launch} {y : z_M} {S : z_S} {pc : Nat} {lo : List (Nat × Value)} {st : List Value} {w w' : z_W} {kc ks : Nat}
theorem z_run5 {S : z_S} {p : Program} {e : Env} {s : State} {m : MethodId} {args : Array Value} {below : List Frame} {meth : Method} {c : Code} {R0 R : z_R} {H : Heap} {locs : List Loc} {ls : Array Slot} {cst crest rest : List Value} {a9 : Array Value} {mc' ms' : Nat} {Q' : Option Value → z_W → Prop} (hok : z_ok G l y S p s m args meth c R0) (hat : z_at G S R0 s R w H locs) (hlo : z_lo G R w lo ls c.maxLocals) (hrest : z_L (z_V G R w) rest crest)
    (hr : vx_Run5 p l e (z_rm S.1 S.2.1 S.2.2.1) s m args below meth c H locs kc ks mc' ms' (F0 m pc ls cst) crest (z_Qc G R w Q' a9) (z_Xc G R w (fun _ _ => False)) (fun q => z_b G ≤ q))
    (kk : ∀ v w', Q' v w' → z_J G l y S (pc + 5) lo (v.toList ++ rest) w' (kc + mc') (ks + ms')) : W p l e (z_rm S.1 S.2.1 S.2.2.1) s m args below meth c H locs kc ks (vx_MQ below (z_Qc G R0 S.2.2.2.1 S.2.2.2.2.1) (z_Xc G R0 S.2.2.2.1 S.2.2.2.2.2) args s S.2.1 S.2.2.1 (fun q => z_b G ≤ q)) (F0 m pc ls cst) := by
  intro T hT X
  rcases hr T hT X with ⟨v, st₀, t, T', L, h0, X', hL, e1, e2, ⟨v', cv, R', w', ho, hO, hQ, hP, hTT, hF⟩, go⟩ | ⟨q, st₀, t, T', L, E, ce, h0, X', hL, e1, e2, ⟨R', w', hX, hP, hTT, hF⟩, hce, hcv, hcl, go⟩
  · cases ho
    have hat' := z_after hat h0 e1 hL hP hTT hF
    obtain ⟨t2, a1, b1⟩ := kk v' w' hQ p e s m args below meth c R0 hok R' T'.heap (locs ++ L) ls (v.toList ++ crest) hat' (z_lom hTT.V hlo) (z_Oc hO (z_Lm hTT.V hrest)) T' rfl X'
    exact ⟨t2, go t2 a1, b1⟩
  · exact hX.elim
def z_CI (own C : String) (idx : Nat) (x : MethodName) (y' : z_M) : Prop := Cond.methodLink own idx x ∈ z_tbl ∧ Cond.selects C x y'.1 ∈ z_tbl ∧ Cond.instanceMethod y'.1 ∈ z_tbl ∧ (x.cls ≠ "java/lang/invoke/MethodHandle" ∧ x.cls ≠ "java/lang/invoke/VarHandle") ∧ x.desc = y'.1.desc ∧ ∀ U : State, z_Fi U → va_Fw C x y'.1 U
theorem z_cAt {s : State} {ci : Nat} {q : vw_C} (henv : z_env G s) (hq : z_cls[ci]? = some q) : ClassAt s q.1 (z_dC G ci) := by
  obtain ⟨hS, hfc, kC, hkC, hkind⟩ := henv.1 ci _ hq
  exact ⟨hfc, kC, hkC, hkind⟩
theorem z_Fio {R0 : z_R} {s : State} {p : Program} {m : MethodId} {args : Array Value} {meth : Method} {c : Code} (hok : z_ok G l y S p s m args meth c R0) : z_Fi s := (z_okc hok).2.2.2.2.2.2.2.2.2.2.2.2
theorem j_callF {idx cnt np rk' mc' ms' : Nat} {y' : z_M} {as rest : List Value} {Q' : Option Value → z_W → Prop} {x : MethodName} {a ci : Nat} {fs : List Value} {q : vw_C} (hd : decode y.2.1 pc = .ok (.invokeinterface idx cnt, 5)) (hm : z_okm y' np) (hl : z_CI y.1.cls q.1 idx x y') (hg : z_g w a = some (.inr (ci, fs))) (hq : z_cls[ci]? = some q) (hc : z_Con G l y' rk' mc' ms' w (.ref a :: as) Q' (fun _ _ => False)) (hrk : rk' + 1 ≤ S.1) (hcs : kc + mc' ≤ S.2.1 ∧ ks + ms' ≤ S.2.2.1) (hstk : st = as.reverse ++ .ref a :: rest) (hW : z_cat rest ≤ 8) (hn : as.length = np) (kk : ∀ v w', Q' v w' → z_J G l y S (pc + 5) lo (v.toList ++ rest) w' (kc + mc') (ks + ms')) : z_J G l y S pc lo st w kc ks := by
  intro p e s m args below meth c R0 hok R H locs ls cst hat hlo hst
  subst hstk
  obtain ⟨b1, c2, rfl, hb1, hst⟩ := z_Lapp hst
  obtain ⟨c1, crest, rfl, h1, hrest⟩ := z_Lc hst
  have h1' := h1.2
  subst h1'
  have hAs := z_Lrev hb1
  rw [List.reverse_reverse] at hAs
  obtain ⟨u1, u2, u3, u4, u5, u6⟩ := hl
  have hts := hok.2.2.2.2.2.2.1
  have henv := hok.2.2.2.2.2.2.2.1
  obtain ⟨m1, m2, m3, m4, m5, m6⟩ := hm
  have ecd := z_cd m1
  have hF := u6 _ (z_Fio hok)
  have cw : va_CI (z_rm S.1 S.2.1 S.2.2.1) s args y.1.cls q.1 idx x y'.1 y'.2.1 y'.2.2.1 y'.2.2.2.1 (z_ws y') (z_rm rk' mc' ms') mc' ms' np := by
    refine ⟨⟨rfl, rfl, (z_rmle hrk m6).1, (z_rmle hrk m6).2, z_pay hts m2, by rw [← ecd]; exact List.mem_cons_self⟩, hts _ u1, va_any rfl hF.1, va_any rfl hF.2.1, hts _ u2, hts _ u3, va_any rfl hF.2.2.1, va_any rfl hF.2.2.2.1, va_any rfl hF.2.2.2.2, hts _ m3, by rw [← ecd]; exact hts _ m2, u4, ?_⟩
    rw [u5]; exact z_np m5
  exact z_run5 hok hat hlo hrest (vx_runF (C := q.1) (As := b1.reverse) (z_cAt henv hq) ⟨hok.1, hok.2.1, rfl, hok.2.2.2.2.2.1, hok.2.2.2.2.2.2.1⟩ (hc R) cw ⟨z_Pc_blind, z_recv hok hat hg hq, fun U hU hW9 => z_pre hok hat (av := .ref a :: as) (cav := .ref (R.1 a) :: b1.reverse) ⟨h1, hAs⟩ U hU hW9⟩ rfl (by rw [z_Ll hAs]; exact hn) hlo.choose_spec.1.1 (by rw [List.reverse_reverse]) (lv_room (by rw [z_Lcs hrest]; exact hW)) hd hcs) kk
def z_CSu (own : String) (idx : Nat) (y' : z_M) : Prop := Cond.methodLink own idx y'.1 ∈ z_tbl ∧ Cond.sameMethod y'.1.cls y'.1.cls y'.1.name y'.1.desc ∈ z_tbl ∧ Cond.superclass own y'.1.cls ∈ z_tbl ∧ Cond.instanceMethod y'.1 ∈ z_tbl ∧ y'.1.name ≠ "<init>"
theorem j_callSu {idx np rk' mc' ms' : Nat} {y' : z_M} {as rest : List Value} {Q' : Option Value → z_W → Prop} {X' : String → z_W → Prop} {a ci : Nat} {fs : List Value} {q : vw_C} (hd : decode y.2.1 pc = .ok (.invokespecial idx, 3)) (hm : z_okm y' np) (hl : z_CSu y.1.cls idx y') (hg : z_g w a = some (.inr (ci, fs))) (hq : z_cls[ci]? = some q) (hc : z_Con G l y' rk' mc' ms' w (.ref a :: as) Q' X') (hrk : rk' + 1 ≤ S.1) (hcs : kc + mc' ≤ S.2.1 ∧ ks + ms' ≤ S.2.2.1) (hstk : st = as.reverse ++ .ref a :: rest) (hW : z_cat rest ≤ 8) (hn : as.length = np) (ht : y.2.2.2.2 = []) (hx : ∀ E w', X' E w' → S.2.2.2.2.2 E w') (kk : ∀ v w', Q' v w' → z_J G l y S (pc + 3) lo (v.toList ++ rest) w' (kc + mc') (ks + ms')) : z_J G l y S pc lo st w kc ks := by
  intro p e s m args below meth c R0 hok R H locs ls cst hat hlo hst
  subst hstk
  obtain ⟨b1, c2, rfl, hb1, hst⟩ := z_Lapp hst
  obtain ⟨c1, crest, rfl, h1, hrest⟩ := z_Lc hst
  have h1' := h1.2
  subst h1'
  have hAs := z_Lrev hb1
  rw [List.reverse_reverse] at hAs
  obtain ⟨u1, u2, u3, u4, u5⟩ := hl
  have hts := hok.2.2.2.2.2.2.1
  have henv := hok.2.2.2.2.2.2.2.1
  obtain ⟨m1, m2, m3, m4, m5, m6⟩ := hm
  have ecd := z_cd m1
  have cw : va_CS (z_rm S.1 S.2.1 S.2.2.1) s args y.1.cls idx y'.1 y'.2.1 y'.2.2.1 y'.2.2.2.1 (z_ws y') (z_rm rk' mc' ms') mc' ms' np := by
    refine ⟨⟨rfl, rfl, (z_rmle hrk m6).1, (z_rmle hrk m6).2, z_pay hts m2, by rw [← ecd]; exact List.mem_cons_self⟩, hts _ u1, hts _ u2, hts _ u3, hts _ u4, hts _ m3, by rw [← ecd]; exact hts _ m2, u5, z_np m5⟩
  exact z_run hok hat hlo hrest ht (vx_runSU (C := q.1) (As := b1.reverse) (z_cAt henv hq) ⟨hok.1, hok.2.1, rfl, hok.2.2.2.2.2.1, hok.2.2.2.2.2.2.1⟩ (hc R) cw ⟨z_Pc_blind, z_recv hok hat hg hq, fun U hU hW9 => z_pre hok hat (av := .ref a :: as) (cav := .ref (R.1 a) :: b1.reverse) ⟨h1, hAs⟩ U hU hW9⟩ rfl (by rw [z_Ll hAs]; exact hn) hlo.choose_spec.1.1 (by rw [List.reverse_reverse]) (lv_room (by rw [z_Lcs hrest]; exact hW)) hd hcs) hcs hx kk
theorem j_ifnn {off : Int} {tgt : Nat} {v : Value} (hd : decode y.2.1 pc = .ok (.ifnonnull off, 3)) (ht : (pc : Int) + off = (tgt : Int)) (hv : z_ir v = true) (hn : v ≠ .null) (h : z_J G l y S tgt lo st w kc ks) : z_J G l y S pc lo (v :: st) w kc ks := by
  intro p e s m args below meth c R0 hok R H locs ls cst hat hlo hst
  obtain ⟨c1, cs1, rfl, h1, hst1⟩ := z_Lc hst
  have : ∃ q, c1 = .ref q := by
    cases v with
    | int x => cases hv
    | long x => cases hv
    | null => exact absurd rfl hn
    | ref n => exact ⟨_, h1.2⟩
    | float b => obtain ⟨q, h1, -⟩ := h1; exact ⟨q, h1⟩
    | retAddr k => obtain ⟨q, h1, -⟩ := h1; exact ⟨q, h1⟩
    | double b => exact h1.elim
  obtain ⟨q, rfl⟩ := this
  exact lv_ifnonnull hok.1 hok.2.1 hd ht (h p e s m args below meth c R0 hok R H locs ls _ hat hlo hst1)
theorem j_acmp_eqKK {k k' : Nat} {off : Int} {tgt : Nat} (hd : decode y.2.1 pc = .ok (.if_acmp .eq off, 3)) (ht : (pc : Int) + off = (tgt : Int)) (h : z_J G l y S tgt lo st w kc ks) (h2 : z_J G l y S (pc + 3) lo st w kc ks) : z_J G l y S pc lo (.retAddr k :: .retAddr k' :: st) w kc ks := by
  intro p e s m args below meth c R0 hok R H locs ls cst hat hlo hst
  obtain ⟨c1, cs1, rfl, ⟨q1, h1, k1⟩, hst1⟩ := z_Lc hst
  obtain ⟨c2, cs2, rfl, ⟨q2, e2, k2⟩, hst2⟩ := z_Lc hst1
  subst h1 e2
  exact lv_acmp_eq (rx := some q2) (ry := some q1) hok.1 hok.2.1 hd ht (fun _ => h p e s m args below meth c R0 hok R H locs ls _ hat hlo hst2) (fun _ => h2 p e s m args below meth c R0 hok R H locs ls _ hat hlo hst2)
theorem j_getCK {idx k : Nat} (hd : decode y.2.1 pc = .ok (.invokevirtual idx, 3)) (hl : Cond.methodLink y.1.cls idx ⟨"java/lang/Object", "getClass", "()Ljava/lang/Class;"⟩ ∈ z_tbl) (hdc : Cond.declares ⟨"java/lang/Object", "getClass", "()Ljava/lang/Class;"⟩ ∈ z_nst)
    (hs : Cond.selects "[Ljava/lang/Object;" ⟨"java/lang/Object", "getClass", "()Ljava/lang/Class;"⟩ ⟨"java/lang/Object", "getClass", "()Ljava/lang/Class;"⟩ ∈ z_tbl) (hi : Cond.instanceMethod ⟨"java/lang/Object", "getClass", "()Ljava/lang/Class;"⟩ ∈ z_tbl) (hnat : Cond.native ⟨"java/lang/Object", "getClass", "()Ljava/lang/Class;"⟩ ∈ z_tbl)
    (hk2 : k < 2) (hrk : 1 ≤ S.1) (hW : z_cat st ≤ 8) (h : z_J G l y S (pc + 3) lo (.retAddr 6 :: st) w kc ks) : z_J G l y S pc lo (.retAddr k :: st) w kc ks := by
  intro p e s m args below meth c R0 hok R H locs ls cst hat hlo hst
  obtain ⟨c1, cs1, rfl, ⟨qk, h1, hk⟩, hst1⟩ := z_Lc hst
  subst h1
  obtain ⟨q, hq, hm⟩ := (z_okc hok).2.2.2.2.2.2.2.1
  have hts := hok.2.2.2.2.2.2.1
  have hsz := hlo.choose_spec.1.1
  have h8 : (cs1.map fun v => v.category).sum ≤ 8 := by rw [z_Lcs hst1]; exact hW
  have h40 : 40 ≤ (z_rm S.1 S.2.1 S.2.2.1).locals := by show 40 ≤ 40 * S.1; omega
  obtain ⟨cell, o1, o2, o3, -⟩ := ((z_okc hok).2.2.2.2.2.2.2.2.2.2.1 k qk hk2 hk).kept (z_fS hok hat).2.1
  exact va_getC hok.1 hok.2.1 hsz.symm hok.2.2.2.2.2.1 (hts _ hl) (va_Nw.use (w := Cond.declares ⟨"java/lang/Object", "getClass", "()Ljava/lang/Class;"⟩) rfl (hok.2.2.2.2.2.2.2.1.2.2.1 _ hdc)) (hts _ hs) (hts _ hi) (hts _ hnat) hm ⟨cell, o1, o2, o3⟩ hrk (by omega) hd (h p e s m args below meth c R0 hok R H locs ls (.ref q :: cs1) hat hlo ⟨⟨q, rfl, hq⟩, hst1⟩)
theorem j_acopyK {idx b k kd n0 n1 : Nat} {g : Nat → Value} {sp dp n : Int32} {ty : FieldType} (hd : decode y.2.1 pc = .ok (.invokestatic idx, 3)) (hl : Cond.methodLink y.1.cls idx arraycopyName ∈ z_tbl) (hnat : Cond.native arraycopyName ∈ z_tbl) (hstat : Cond.static arraycopyName ∈ z_tbl) (hini : Cond.initialized "java/lang/System" ∈ z_tbl)
    (hT9 : ∀ (U : State) (q : Nat), z_cst G U → z_k G k q → ∃ f, z_vT G ty q n0 f U ∧ ∀ j, j < n0 → ∃ x, f j = .int x ∧ fits ty (.int x) = true) (hgb : z_g w b = some (.inl (kd, n1, g))) (hk : z_tyl[kd]? = some ty) (h1 : ¬ sp < 0) (h2 : ¬ dp < 0) (h3 : ¬ n < 0) (h4 : sp.toNatClampNeg + n.toNatClampNeg ≤ n0) (h5 : dp.toNatClampNeg + n.toNatClampNeg ≤ n1)
    (hrk : 1 ≤ S.1) (hW : z_cat st ≤ 8) (h : ∀ f : Nat → Value, (∀ j, j < n0 → ∃ x, f j = .int x ∧ fits ty (.int x) = true) → z_J G l y S (pc + 3) lo st (z_s w b (.inl (kd, n1, va_cpy f g sp.toNatClampNeg dp.toNatClampNeg n.toNatClampNeg))) kc ks) : z_J G l y S pc lo (.int n :: .int dp :: .ref b :: .int sp :: .retAddr k :: st) w kc ks := by
  intro p e s m args below meth c R0 hok R H locs ls cst hat hlo hst
  obtain ⟨c9, cs9, rfl, e9, hst1⟩ := z_Lc hst
  obtain ⟨c8, cs8, rfl, e8, hst2⟩ := z_Lc hst1
  obtain ⟨c7, cs7, rfl, ⟨-, e7⟩, hst3⟩ := z_Lc hst2
  obtain ⟨c6, cs6, rfl, e6, hst4⟩ := z_Lc hst3
  obtain ⟨c5, cs5, rfl, ⟨qa, e5, hqa⟩, hst5⟩ := z_Lc hst4
  have e9 : c9 = .int n := e9
  have e8 : c8 = .int dp := e8
  have e6 : c6 = .int sp := e6
  subst e9 e8 e7 e6 e5
  obtain ⟨f, hf, hfx⟩ := hT9 s qa (z_okc hok) hqa
  obtain ⟨scr, t1, ⟨hs6, k0, hk0, cm0, hkk0⟩, t3, t4, t5, t6, -⟩ := hf.kept (z_fS hok hat).2.1
  obtain ⟨zb, b1, b2⟩ := (hat.1.1 b _ hgb).1
  have hok2 := hok
  obtain ⟨hx, hb, -, -, -, hown, hts, henv, -⟩ := hok2
  obtain ⟨-, k1, hk1, cm1, hkk1⟩ := (henv.2.1 kd _ hk).1 n1 zb
  have hsz := hlo.choose_spec.1.1
  have kk := fun (H' : Heap) (L : List Loc) q1 q2 q3 q4 => h f hfx p e s m args below meth c R0 hok R H' (locs ++ L) ls cs5 (z_writeM (H' := H') (L := L) hat hgb q1 q2 q3 q4) (z_lom (z_Vs hgb) hlo) (z_Lm (z_Vs hgb) hst5)
  have h8 : 2 * (F0 m pc ls (.int n :: .int dp :: .ref (R.1 b) :: .int sp :: .ref qa :: cs5)).monitorRoom + (cs5.map fun v => v.category).sum ≤ 8 := lv_room (by rw [z_Lcs hst5]; exact hW)
  have h40 : 40 ≤ (z_rm S.1 S.2.1 S.2.2.1).locals := by show 40 ≤ 40 * S.1; omega
  have hnw : nativeFrameWords "java/lang/System" "arraycopy" 5 + 11 ≤ 32 := by decide
  intro T hT X
  have e0 : ∀ i, i < n.toNatClampNeg → scr.slots.getD (sp.toNatClampNeg + i) .null = f (sp.toNatClampNeg + i) := fun i hi => by
    rw [Array.getD_eq_getD_getElem?, t6 _ (by omega)]
    rfl
  obtain ⟨vm', X', step⟩ := X.arraycopy hx hown (hts _ hl) (hts _ hnat) (hts _ hstat) (hts _ hini) (src := qa) (dst := R.1 b) (cs := scr) (cd := arrV (z_dA G kd) n1 zb) (srcPos := sp) (destPos := dp) (n := n) (by rw [hT]; exact t1) (by rw [hT]; exact b1)
    hs6 (fun _ h => by cases h) t3 (fun h => by cases h) hk0 hk1 hkk0 hkk1 (by simp) h1 h2 h3
    (by rw [z_nn h1, z_nn h3]; omega)
    (by rw [z_nn h2, z_nn h3, arrV_size]; omega)
    (fun vm₁ hal i hi => by
      rw [e0 i hi]
      obtain ⟨x, ex, hfit⟩ := hfx (sp.toNatClampNeg + i) (by omega)
      rw [ex]
      exact ⟨hfit, trivial⟩)
    (g := F0 m pc ls (.int n :: .int dp :: .ref (R.1 b) :: .int sp :: .ref qa :: cs5)) rfl (by rw [← hsz]) (rest := cs5) rfl (by rw [hb]; exact hd) hrk (by omega)
  have e1 : copied scr (arrV (z_dA G kd) n1 zb) sp dp n = arrV (z_dA G kd) n1 (va_cpy f zb sp.toNatClampNeg dp.toNatClampNeg n.toNatClampNeg) := va_copiedX (fun z => z) scr (z_dA G kd) f zb t6 h4
  rw [e1] at X' step
  have hl9 : R.1 b < H.size := (Array.getElem?_eq_some_iff.mp b1).1
  have hheap : ((T.setVm vm').setCell (R.1 b) (arrV (z_dA G kd) n1 (va_cpy f zb sp.toNatClampNeg dp.toNatClampNeg n.toNatClampNeg))).heap = H.setIfInBounds (R.1 b) (arrV (z_dA G kd) n1 (va_cpy f zb sp.toNatClampNeg dp.toNatClampNeg n.toNatClampNeg)) := by rw [← hT]; rfl
  obtain ⟨t, t1, t2⟩ := kk _ _ (by simp) (fun q hq => by simp [Array.getElem?_setIfInBounds, Ne.symm hq]) (z_Xc9 (f9 := f) (z_Vs hgb) (fun j hj => by obtain ⟨x, ex, -⟩ := hfx j hj; rw [ex]; exact rfl) b2 h4 (by simp [Array.getElem?_setIfInBounds, hl9])) (fun x hx => by
    obtain ⟨z, -, hz⟩ := List.mem_map.mp hx
    rw [← hz]) _ hheap X'
  exact ⟨t, step t t1, t2⟩
end ZLo
end ZM6
section ZM7
section ZGi
variable {G : z_G} {l : Launch} {y : z_M} {S : z_S} {pc : Nat} {lo : List (Nat × Value)} {st : List Value} {w w' : z_W} {kc ks : Nat}
abbrev z_gcN : MethodName := ⟨"java/lang/Object", "getClass", "()Ljava/lang/Class;"⟩
abbrev z_gcC : MethodName := ⟨"java/util/Collection", "getClass", "()Ljava/lang/Class;"⟩
theorem z_gcI {p : Program} {e : Env} {R : Room} {s : State} {m : MethodId} {args : Array Value} {below : List Frame} {meth : Method} {c : Code} {T : State} {locs : List Loc} {cells slots : Nat} (X : Stand p l e R s m args below meth c T locs cells slots) (hexec : p.tables.exec = Jvm.exec) {own : String} {index count : Nat}
    (hown : s.vm.findClass own = some m.cls) (hlink : (Cond.methodLink own index z_gcC).before args s = true) (hdecl : (Cond.declares z_gcN).before args s = true)
    (hface : (Cond.interfaceMethod "java/util/Collection" "java/lang/Object" "getClass" "()Ljava/lang/Class;").before args s = true) (hsame : (Cond.sameMethod "java/lang/Object" "java/lang/Object" "getClass" "()Ljava/lang/Class;").before args s = true) (hsel : (Cond.selects "java/util/ArrayList" z_gcN z_gcN).before args s = true) (hinst : (Cond.instanceMethod z_gcN).before args s = true)
    (hpub : (Cond.publicMethod z_gcN).before args s = true) (hunh : (Cond.unhidden "java/util/ArrayList" "getClass" "()Ljava/lang/Class;").before args s = true) (hcast : (Cond.castable "java/util/ArrayList" "java/util/Collection").before args s = true)
    (hnat : (Cond.native z_gcN).before args s = true)
    {b : Addr} {cB : ClassId} {kB : Class} (hcB : s.vm.findClass "java/util/ArrayList" = some cB) (hkB : s.vm.classes[cB]? = some kB) (hrecv : ∃ cell : Cell, T.heap[b]? = some cell ∧ cell.cls = cB ∧ cell.vm.isStatics = false) {mir : Addr} (hmir : kB.mirror = some mir)
    {g : JFrame} (hg : g.method = m) (hsize : g.locals.size = c.maxLocals) {rest : List Value} (hstack : g.stack = .ref b :: rest) (hdg : decode c.code g.pc = .ok (.invokeinterface index count, 5))
    (hframes : 1 ≤ R.frames) (hlocals : 2 * g.monitorRoom + (rest.map fun v => v.category).sum + (nativeFrameWords "java/lang/Object" "getClass" 1 + 11) ≤ R.locals) :
    ∃ vm₁, Stand p l e R s m args below meth c (T.setVm vm₁) locs cells slots ∧
      ∀ target, Steps p.tables e below ((T.setVm vm₁).setTop { g with pc := g.pc + 5, stack := .ref mir :: rest }) target → Steps p.tables e below (T.setTop g) target := by
  obtain ⟨cellB, hcellT, hclsB, hstatB⟩ := hrecv
  obtain ⟨mk, methM, hnamed, hmethM, -, habM⟩ := Cond.instanceMethod_spec hinst
  obtain ⟨hnameM, hdescM⟩ := name_of_methodNamed hnamed hmethM
  obtain ⟨c2, r2, m2, q1, q2, q3, q4, -⟩ := Cond.selects_spec hsel
  cases hcB.symm.trans q1
  cases hnamed.symm.trans q3
  obtain ⟨cL, kL, r1, hcL, hkL, hiL, hfoundL, hn1⟩ := Cond.interfaceMethod_spec hface
  cases hnamed.symm.trans hn1
  obtain ⟨cn5, ck5, r5, -, -, -, hf5, hn5⟩ := Cond.sameMethod_found hsame
  cases hnamed.symm.trans hn5
  cases hf5.symm.trans q2
  have hselP : selectMethod e.platform s.vm cellB.cls mk = .method mk := by rw [Launch.admits_selectMethod X.admits, hclsB]; exact q4
  have hpubM : hasFlag methM.accessFlags Acc.public_ = true := Cond.publicMethod_spec hnamed hmethM hpub
  have hway : ((cellB.cls :: s.vm.superclasses cellB.cls).any fun k => (declaredIn s.vm methM.name methM.desc k).any fun (_, z) => z.isPrivate || z.isStatic) = false := by
    rw [hnameM, hdescM, hclsB]; exact Cond.unhidden_spec hcB hunh
  obtain ⟨c3, t3, w1, w2, w3⟩ := Cond.castable_spec hcast
  cases hcB.symm.trans w1
  cases hcL.symm.trans w2
  obtain ⟨mN, kN, methN, hnamedN, hmethN, hkN, N⟩ := NativeOf.of_instance hnat hinst (by decide +kernel : parseMethodDescriptor z_gcN.desc = some { parameters := [], returnType := some (.object "java/lang/Class") })
  cases hnamed.symm.trans hnamedN
  cases hmethM.symm.trans hmethN
  have hlen0 : ([] : List Value).length = methM.sig.parameters.length := by
    obtain ⟨mk', meth', hn', hm', -, hsig'⟩ := Cond.declares_spec hdecl
    cases hnamed.symm.trans hn'
    cases hmethM.symm.trans hm'
    have := Option.some.inj ((by decide +kernel : parseMethodDescriptor z_gcN.desc = some { parameters := [], returnType := some (.object "java/lang/Class") }).symm.trans hsig')
    rw [← this]; rfl
  obtain ⟨vm₁, X₁, hstep₁⟩ := X.invokeinterfaceObject hexec hown hlink hface hdecl hpub (by decide) (by decide) hcL hcellT
    (fun z h => by rw [h] at hstatB; cases hstatB) (by rw [hclsB]; exact hkB) (by rw [hclsB]; exact w3) hnamed hmethM hselP hmethM hway hpubM habM (g := g) hg (argsL := []) (rest := rest) hlen0 hstack hdg
  have hal : s.vm.Alike vm₁ := X₁.warmed.alike
  obtain ⟨kN₁, N₁⟩ := N.alike hal
  obtain ⟨kB₁, hkB₁, ekB⟩ := hal.2.2 _ _ hkB
  have hAt : At (T.setVm vm₁) ({ g with stack := rest } : JFrame).method c below := by rw [show ({ g with stack := rest } : JFrame).method = m from hg]; exact X₁.here
  have hroom := X₁.notFull (g := { g with stack := rest }) hsize (vars := nativeFrameWords "java/lang/Object" "getClass" 1) hframes hlocals
  refine ⟨vm₁, X₁, fun target hrest => hstep₁ target fun acts => ?_⟩
  exact Steps.getClassOf p hAt acts N₁ hroom (show (T.setVm vm₁).heap[b]? = some cellB from hcellT) (fun z h => by rw [h] at hstatB; cases hstatB)
    (show (T.setVm vm₁).vm.classes[cellB.cls]? = some kB₁ by rw [hclsB]; exact hkB₁) (by rw [ekB]; exact hmir) hdg hrest
theorem j_gcI {idx cnt a : Nat} {fs : List Value} (hd : decode y.2.1 pc = .ok (.invokeinterface idx cnt, 5)) (hl : Cond.methodLink y.1.cls idx z_gcC ∈ z_tbl) (hsm : Cond.sameMethod "java/lang/Object" "java/lang/Object" "getClass" "()Ljava/lang/Class;" ∈ z_tbl) (hs : Cond.selects "java/util/ArrayList" z_gcN z_gcN ∈ z_tbl) (hi : Cond.instanceMethod z_gcN ∈ z_tbl) (hnat : Cond.native z_gcN ∈ z_tbl)
    (hg : z_g w a = some (.inr (4, fs))) (hrk : 1 ≤ S.1) (hW : z_cat st ≤ 8) (h : z_J G l y S (pc + 5) lo (.retAddr 7 :: st) w kc ks) : z_J G l y S pc lo (.ref a :: st) w kc ks := by
  intro p e s m args below meth c R0 hok R H locs ls cst hat hlo hst
  obtain ⟨c1, cs1, rfl, hv, hst1⟩ := z_Lc hst
  obtain ⟨-, h1⟩ := hv
  subst h1
  obtain ⟨q, hq, hm⟩ := (z_okc hok).2.2.2.2.2.2.2.2.2.2.2.1
  obtain ⟨g1, g2, g3, g4, g5⟩ := (z_Fio hok).2.2.2
  have hts := hok.2.2.2.2.2.2.1
  have hsz := hlo.choose_spec.1.1
  have h8 : (cs1.map fun v => v.category).sum ≤ 8 := by rw [z_Lcs hst1]; exact hW
  have h40 : 40 ≤ (z_rm S.1 S.2.1 S.2.2.1).locals := by show 40 ≤ 40 * S.1; omega
  obtain ⟨q9, gs, x1, x2, ⟨cell, o1, o2, o3, -⟩, -⟩ := (hat.1.1 a _ hg).1
  obtain ⟨c0, k0, e1, e2, e3⟩ := hm
  have hC := (hok.2.2.2.2.2.2.2.1.1 4 _ rfl).2.1
  intro T hT X
  have ec : cell.cls = c0 := by
    have e9 := o2
    rw [o2]
    exact Option.some.inj (hC.symm.trans e1)
  obtain ⟨vm', X', step⟩ := z_gcI X hok.1 hok.2.2.2.2.2.1 (hts _ hl) (va_Nw.use rfl g2) (va_Nw.use rfl g1) (hts _ hsm) (hts _ hs) (hts _ hi) (va_Nw.use rfl g3) (va_Nw.use rfl g4) (va_Nw.use rfl g5) (hts _ hnat) e1 e2 ⟨cell, by rw [hT]; exact o1, ec, by rw [o3]; rfl⟩ e3 (g := F0 m pc ls (.ref (R.1 a) :: cs1)) rfl (by rw [← hsz]) rfl (by rw [hok.2.1]; exact hd) hrk (by show 2 * 0 + _ + _ ≤ _; have hw : nativeFrameWords "java/lang/Object" "getClass" 1 = 3 := (by decide); omega)
  obtain ⟨t, a1, b1⟩ := h p e s m args below meth c R0 hok R H locs ls (.ref q :: cs1) hat hlo ⟨⟨q, rfl, hq⟩, hst1⟩ (T.setVm vm') hT X'
  exact ⟨t, step t a1, b1⟩
theorem j_ldcC {idx : Nat} (hd : decode y.2.1 pc = .ok (.ldc idx, 2)) (hl : Cond.classLink y.1.cls idx "java/util/ArrayList" ∈ z_tbl) (h : z_J G l y S (pc + 2) lo (.retAddr 7 :: st) w kc ks) : z_J G l y S pc lo st w kc ks := by
  intro p e s m args below meth c R0 hok R H locs ls cst hat hlo hst
  obtain ⟨q, hq, hm⟩ := (z_okc hok).2.2.2.2.2.2.2.2.2.2.2.1
  exact va_ldcM hok.1 hok.2.1 hok.2.2.2.2.2.1 (hok.2.2.2.2.2.2.1 _ hl) hm hd (h p e s m args below meth c R0 hok R H locs ls (.ref q :: cst) hat hlo ⟨⟨q, rfl, hq⟩, hst⟩)
end ZGi
end ZM7
section ZM8
section ZTx
variable {G : z_G} {l : Launch} {y : z_M} {S : z_S} {pc : Nat} {lo : List (Nat × Value)} {st : List Value} {w w' : z_W} {kc ks : Nat}
theorem z_cst6 {U : State} {k q : Nat} (h : z_cst G U) (hk : k = 3 ∨ k = 4) (hq : z_k G k q) : ∃ f, z_vT G .byte q 100 f U ∧ ∀ j, j < 100 → ∃ x, f j = .int x := by
  obtain ⟨f, h1, h2⟩ := h.2.2.2.2.2.1 k q hk hq
  exact ⟨f, h1, fun j hj => ⟨_, h2 j hj⟩⟩
theorem j_baldE {k N : Nat} {i : Int32} {F : Nat → Int32} (hd : decode y.2.1 pc = .ok (.baload, 1)) (hT : ∀ (U : State) (q : Nat), z_cst G U → z_k G k q → ∃ f, z_vT G .byte q N f U ∧ ∀ j, j < N → f j = .int (F j)) (hin : vp_in i N) (h : z_J G l y S (pc + 1) lo (.int (F i.toNatClampNeg) :: st) w kc ks) : z_J G l y S pc lo (.int i :: .retAddr k :: st) w kc ks := by
  intro p e9 s m args below meth c R0 hok R H locs ls cst hat hlo hst
  obtain ⟨c0, cs0, rfl, h0, hst0⟩ := z_Lc hst
  have h0 : c0 = .int i := h0
  subst h0
  obtain ⟨c1, cs1, rfl, ⟨q, h1, hk⟩, hst1⟩ := z_Lc hst0
  subst h1
  obtain ⟨f, hf, hx⟩ := hT s q (z_okc hok) hk
  obtain ⟨cell, a1, a2, a3, a4, a5, a6, -⟩ := hf.kept (z_fS hok hat).2.1
  have hlt : i.toNatClampNeg < N := Nat.not_le.mp (fun z => hin (Or.inr z))
  exact W.bald hok.1 hok.2.1 a1 a2 a3 (z_clt hin a4) (by rw [a6 _ hlt, hx _ hlt]) rfl rfl hd (h p e9 s m args below meth c R0 hok R H locs ls _ hat hlo ⟨rfl, hst1⟩)
theorem j_acopyE {idx b k kd n0 n1 : Nat} {g : Nat → Value} {sp dp n : Int32} {ty : FieldType} {Pf : (Nat → Value) → Prop} (hd : decode y.2.1 pc = .ok (.invokestatic idx, 3)) (hl : Cond.methodLink y.1.cls idx arraycopyName ∈ z_tbl) (hnat : Cond.native arraycopyName ∈ z_tbl) (hstat : Cond.static arraycopyName ∈ z_tbl) (hini : Cond.initialized "java/lang/System" ∈ z_tbl)
    (hT9 : ∀ (U : State) (q : Nat), z_cst G U → z_k G k q → ∃ f, z_vT G ty q n0 f U ∧ (∀ j, j < n0 → ∃ x, f j = .int x ∧ fits ty (.int x) = true) ∧ Pf f) (hgb : z_g w b = some (.inl (kd, n1, g))) (hk : z_tyl[kd]? = some ty) (h1 : ¬ sp < 0) (h2 : ¬ dp < 0) (h3 : ¬ n < 0) (h4 : sp.toNatClampNeg + n.toNatClampNeg ≤ n0) (h5 : dp.toNatClampNeg + n.toNatClampNeg ≤ n1)
    (hrk : 1 ≤ S.1) (hW : z_cat st ≤ 8) (h : ∀ f : Nat → Value, Pf f → z_J G l y S (pc + 3) lo st (z_s w b (.inl (kd, n1, va_cpy f g sp.toNatClampNeg dp.toNatClampNeg n.toNatClampNeg))) kc ks) : z_J G l y S pc lo (.int n :: .int dp :: .ref b :: .int sp :: .retAddr k :: st) w kc ks := by
  intro p e s m args below meth c R0 hok R H locs ls cst hat hlo hst
  obtain ⟨c9, cs9, rfl, e9, hst1⟩ := z_Lc hst
  obtain ⟨c8, cs8, rfl, e8, hst2⟩ := z_Lc hst1
  obtain ⟨c7, cs7, rfl, ⟨-, e7⟩, hst3⟩ := z_Lc hst2
  obtain ⟨c6, cs6, rfl, e6, hst4⟩ := z_Lc hst3
  obtain ⟨c5, cs5, rfl, ⟨qa, e5, hqa⟩, hst5⟩ := z_Lc hst4
  have e9 : c9 = .int n := e9
  have e8 : c8 = .int dp := e8
  have e6 : c6 = .int sp := e6
  subst e9 e8 e7 e6 e5
  obtain ⟨f, hf, hfx, hpf⟩ := hT9 s qa (z_okc hok) hqa
  obtain ⟨scr, t1, ⟨hs6, k0, hk0, cm0, hkk0⟩, t3, t4, t5, t6, -⟩ := hf.kept (z_fS hok hat).2.1
  obtain ⟨zb, b1, b2⟩ := (hat.1.1 b _ hgb).1
  have hok2 := hok
  obtain ⟨hx, hb, -, -, -, hown, hts, henv, -⟩ := hok2
  obtain ⟨-, k1, hk1, cm1, hkk1⟩ := (henv.2.1 kd _ hk).1 n1 zb
  have hsz := hlo.choose_spec.1.1
  have kk := fun (H' : Heap) (L : List Loc) q1 q2 q3 q4 => h f hpf p e s m args below meth c R0 hok R H' (locs ++ L) ls cs5 (z_writeM (H' := H') (L := L) hat hgb q1 q2 q3 q4) (z_lom (z_Vs hgb) hlo) (z_Lm (z_Vs hgb) hst5)
  have h8 : 2 * (F0 m pc ls (.int n :: .int dp :: .ref (R.1 b) :: .int sp :: .ref qa :: cs5)).monitorRoom + (cs5.map fun v => v.category).sum ≤ 8 := lv_room (by rw [z_Lcs hst5]; exact hW)
  have h40 : 40 ≤ (z_rm S.1 S.2.1 S.2.2.1).locals := by show 40 ≤ 40 * S.1; omega
  have hnw : nativeFrameWords "java/lang/System" "arraycopy" 5 + 11 ≤ 32 := by decide
  intro T hT X
  have e0 : ∀ i, i < n.toNatClampNeg → scr.slots.getD (sp.toNatClampNeg + i) .null = f (sp.toNatClampNeg + i) := fun i hi => by
    rw [Array.getD_eq_getD_getElem?, t6 _ (by omega)]
    rfl
  obtain ⟨vm', X', step⟩ := X.arraycopy hx hown (hts _ hl) (hts _ hnat) (hts _ hstat) (hts _ hini) (src := qa) (dst := R.1 b) (cs := scr) (cd := arrV (z_dA G kd) n1 zb) (srcPos := sp) (destPos := dp) (n := n) (by rw [hT]; exact t1) (by rw [hT]; exact b1)
    hs6 (fun _ h => by cases h) t3 (fun h => by cases h) hk0 hk1 hkk0 hkk1 (by simp) h1 h2 h3
    (by rw [z_nn h1, z_nn h3]; omega)
    (by rw [z_nn h2, z_nn h3, arrV_size]; omega)
    (fun vm₁ hal i hi => by
      rw [e0 i hi]
      obtain ⟨x, ex, hfit⟩ := hfx (sp.toNatClampNeg + i) (by omega)
      rw [ex]
      exact ⟨hfit, trivial⟩)
    (g := F0 m pc ls (.int n :: .int dp :: .ref (R.1 b) :: .int sp :: .ref qa :: cs5)) rfl (by rw [← hsz]) (rest := cs5) rfl (by rw [hb]; exact hd) hrk (by omega)
  have e1 : copied scr (arrV (z_dA G kd) n1 zb) sp dp n = arrV (z_dA G kd) n1 (va_cpy f zb sp.toNatClampNeg dp.toNatClampNeg n.toNatClampNeg) := va_copiedX (fun z => z) scr (z_dA G kd) f zb t6 h4
  rw [e1] at X' step
  have hl9 : R.1 b < H.size := (Array.getElem?_eq_some_iff.mp b1).1
  have hheap : ((T.setVm vm').setCell (R.1 b) (arrV (z_dA G kd) n1 (va_cpy f zb sp.toNatClampNeg dp.toNatClampNeg n.toNatClampNeg))).heap = H.setIfInBounds (R.1 b) (arrV (z_dA G kd) n1 (va_cpy f zb sp.toNatClampNeg dp.toNatClampNeg n.toNatClampNeg)) := by rw [← hT]; rfl
  obtain ⟨t, t1, t2⟩ := kk _ _ (by simp) (fun q hq => by simp [Array.getElem?_setIfInBounds, Ne.symm hq]) (z_Xc9 (f9 := f) (z_Vs hgb) (fun j hj => by obtain ⟨x, ex, -⟩ := hfx j hj; rw [ex]; exact rfl) b2 h4 (by simp [Array.getElem?_setIfInBounds, hl9])) (fun x hx => by
    obtain ⟨z, -, hz⟩ := List.mem_map.mp hx
    rw [← hz]) _ hheap X'
  exact ⟨t, step t t1, t2⟩
end ZTx
end ZM8
section ZM9
section ZLi
set_option maxRecDepth 100000 in
theorem nI_shr0 : ∀ n, n < 1601 → (nI n) >>> ((Int32.ofInt 1) &&& 31) = nI (n / 2) := by decide +kernel
theorem nI_shr {n : Nat} (h : n ≤ 1600) : (nI n) >>> ((Int32.ofInt 1) &&& 31) = nI (n / 2) := nI_shr0 n (by omega)
theorem nI_mx1 {k : Nat} (h : k < 2147483648) : (if (Int32.ofInt 1) < nI k then nI k else Int32.ofInt 1) = nI (max 1 k) := by
  have e1 : Int32.ofInt 1 = nI 1 := by decide
  rw [e1]
  by_cases hk : 1 < k
  · rw [if_pos ((nI_ltI (by omega) (by omega)).mpr hk), Nat.max_eq_right (by omega)]
  · rw [if_neg (fun z => hk ((nI_ltI (by omega) (by omega)).mp z)), Nat.max_eq_left (by omega)]
theorem nI_mn {a b : Nat} (ha : a < 2147483648) (hb : b < 2147483648) : (if nI b < nI a then nI b else nI a) = nI (min a b) := by
  by_cases hk : b < a
  · rw [if_pos ((nI_ltI (by omega) (by omega)).mpr hk), Nat.min_eq_right (by omega)]
  · rw [if_neg (fun z => hk ((nI_ltI (by omega) (by omega)).mp z)), Nat.min_eq_left (by omega)]
def z_nl (n : Nat) : Nat := n + max 1 (n / 2)
theorem z_nlI (n : Nat) : nI n + nI (max 1 (n / 2)) = nI (z_nl n) := nI_add _ _
theorem z_nl_lt (n : Nat) : n < z_nl n := by unfold z_nl; omega
theorem z_nl_le {n M : Nat} (h : n ≤ M) : z_nl n ≤ 2 * M + 10 := by unfold z_nl; omega
theorem z_nl_le2 {n : Nat} (h : n ≤ 1000) : z_nl n ≤ 1600 := by unfold z_nl; omega
theorem z_li.of {w : z_W} {ρ a : Nat} {mo : Int32} {L : List Value} {m n : Nat} {f : Nat → Value} (h1 : 1000 ≤ a) (h2 : a % 64 = ρ) (h3 : ∀ v ∈ L, z_ir v = true) (h : z_liA w ρ a mo L m n f) : z_li w ρ a mo L := ⟨h1, h2, h3, Or.inl ⟨m, n, f, h⟩⟩
theorem z_irS {L : List Value} {j : Nat} {x : Value} (h : ∀ v ∈ L, z_ir v = true) (hx : z_ir x = true) : ∀ v ∈ L.set j x, z_ir v = true := fun v hv => by
  rcases List.mem_or_eq_of_mem_set hv with h1 | h1
  · exact h v h1
  · rw [h1]; exact hx
theorem z_irA {L : List Value} {x : Value} (h : ∀ v ∈ L, z_ir v = true) (hx : z_ir x = true) : ∀ v ∈ L ++ [x], z_ir v = true := fun v hv => by
  rcases List.mem_append.mp hv with h1 | h1
  · exact h v h1
  · rw [List.mem_singleton.mp h1]; exact hx
theorem z_conS {L : List Value} {j n : Nat} {f : Nat → Value} {x : Value} (hn : n ≤ 1600) (hj : j < L.length) (hl : L.length ≤ n) (h : ∀ (q : Nat) (v : Value), L[q]? = some v → f q = v) : ∀ (q : Nat) (v : Value), (L.set j x)[q]? = some v → z_u f (nI j).toNatClampNeg x q = v := fun q v hq => by
  rw [z_cla (by omega)]
  by_cases hqj : q = j
  · subst hqj
    rw [List.getElem?_set_self hj] at hq
    rw [z_u_self]
    exact Option.some.inj hq
  · rw [List.getElem?_set_ne (Ne.symm hqj)] at hq
    rw [z_u_ne hqj]
    exact h q v hq
theorem z_conA {L : List Value} {n : Nat} {f : Nat → Value} {x : Value} (hn : n ≤ 1600) (hl : L.length < n) (h : ∀ (q : Nat) (v : Value), L[q]? = some v → f q = v) : ∀ (q : Nat) (v : Value), (L ++ [x])[q]? = some v → z_u f (nI L.length).toNatClampNeg x q = v := fun q v hq => by
  rw [z_cla (by omega)]
  by_cases hqj : q = L.length
  · subst hqj
    rw [List.getElem?_append_right (Nat.le_refl _), Nat.sub_self] at hq
    rw [z_u_self]
    exact Option.some.inj hq
  · have hq2 : q < L.length := by
      have := (List.getElem?_eq_some_iff.mp hq).1
      rw [List.length_append] at this
      have : q < L.length + 1 := this
      omega
    rw [List.getElem?_append_left hq2] at hq
    rw [z_u_ne hqj]
    exact h q v hq
theorem z_lenS {L : List Value} {j : Nat} {x : Value} : (L.set j x).length = L.length := List.length_set
theorem z_lenA {L : List Value} {x : Value} : (L ++ [x]).length = L.length + 1 := List.length_append
theorem z_conI {L : List Value} {j n : Nat} {f : Nat → Value} {x : Value} (hn : n ≤ 1600) (hj : j ≤ L.length) (hl : L.length < n) (h : ∀ (q : Nat) (v : Value), L[q]? = some v → f q = v) : ∀ (q : Nat) (v : Value), (L.take j ++ x :: L.drop j)[q]? = some v → z_u (va_cpy f f (nI j).toNatClampNeg (nI (j + 1)).toNatClampNeg (nI (L.length - j)).toNatClampNeg) (nI j).toNatClampNeg x q = v := fun q v hq => by
  rw [z_cla (n := j) (by omega), z_cla (n := j + 1) (by omega), z_cla (by omega)]
  have hlt : (L.take j).length = j := by rw [List.length_take]; omega
  by_cases hqj : q = j
  · subst hqj
    rw [List.getElem?_append_right (by omega), hlt, Nat.sub_self] at hq
    rw [z_u_self]
    exact Option.some.inj hq
  · rw [z_u_ne hqj]
    unfold va_cpy
    by_cases hq1 : q < j
    · rw [List.getElem?_append_left (by omega), List.getElem?_take_of_lt hq1] at hq
      rw [if_neg (by omega)]
      exact h q v hq
    · have hq2 : j < q := by omega
      rw [List.getElem?_append_right (by omega), hlt] at hq
      obtain ⟨k, rfl⟩ : ∃ k, q = j + 1 + k := ⟨q - j - 1, by omega⟩
      have e1 : j + 1 + k - j = k + 1 := by omega
      rw [e1, List.getElem?_cons_succ, List.getElem?_drop] at hq
      have hlen := (List.getElem?_eq_some_iff.mp hq).1
      rw [if_pos (by omega)]
      have e2 : j + (j + 1 + k - (j + 1)) = j + k := by omega
      rw [e2]
      exact h _ v hq
theorem z_lenI {L : List Value} {j : Nat} {x : Value} (hj : j ≤ L.length) : (L.take j ++ x :: L.drop j).length = L.length + 1 := by
  rw [List.length_append, List.length_cons, List.length_take, List.length_drop]
  omega
theorem z_irI {L : List Value} {j : Nat} {x : Value} (h : ∀ v ∈ L, z_ir v = true) (hx : z_ir x = true) : ∀ v ∈ L.take j ++ x :: L.drop j, z_ir v = true := fun v hv => by
  rcases List.mem_append.mp hv with h1 | h1
  · exact h v (List.mem_of_mem_take h1)
  · rcases List.mem_cons.mp h1 with h2 | h2
    · rw [h2]; exact hx
    · exact h v (List.mem_of_mem_drop h2)
theorem z_conR {L : List Value} {j n : Nat} {f : Nat → Value} (hn : n ≤ 1600) (hj : j + 1 < L.length) (hl : L.length ≤ n) (h : ∀ (q : Nat) (v : Value), L[q]? = some v → f q = v) : ∀ (q : Nat) (v : Value), (L.eraseIdx j)[q]? = some v → z_u (va_cpy f f (nI (j + 1)).toNatClampNeg (nI j).toNatClampNeg (nI (L.length - 1 - j)).toNatClampNeg) (nI (L.length - 1)).toNatClampNeg .null q = v := fun q v hq => by
  rw [z_cla (n := j) (by omega), z_cla (n := j + 1) (by omega), z_cla (n := L.length - 1 - j) (by omega), z_cla (by omega)]
  have hlen := (List.getElem?_eq_some_iff.mp hq).1
  rw [List.length_eraseIdx_of_lt (by omega)] at hlen
  rw [z_u_ne (by omega)]
  unfold va_cpy
  rw [List.getElem?_eraseIdx] at hq
  by_cases hq1 : q < j
  · rw [if_pos hq1] at hq
    rw [if_neg (by omega)]
    exact h q v hq
  · rw [if_neg hq1] at hq
    rw [if_pos (by omega)]
    have e2 : j + 1 + (q - j) = q + 1 := by omega
    rw [e2]
    exact h _ v hq
theorem z_conR2 {L : List Value} {j n : Nat} {f : Nat → Value} (hn : n ≤ 1600) (hj : j + 1 = L.length) (hl : L.length ≤ n) (h : ∀ (q : Nat) (v : Value), L[q]? = some v → f q = v) : ∀ (q : Nat) (v : Value), (L.eraseIdx j)[q]? = some v → z_u f (nI (L.length - 1)).toNatClampNeg .null q = v := fun q v hq => by
  rw [z_cla (by omega)]
  have hlen := (List.getElem?_eq_some_iff.mp hq).1
  rw [List.length_eraseIdx_of_lt (by omega)] at hlen
  rw [z_u_ne (by omega)]
  rw [List.getElem?_eraseIdx, if_pos (by omega)] at hq
  exact h q v hq
theorem z_lenR {L : List Value} {j : Nat} (hj : j < L.length) : (L.eraseIdx j).length = L.length - 1 := List.length_eraseIdx_of_lt hj
theorem z_irR {L : List Value} {j : Nat} (h : ∀ v ∈ L, z_ir v = true) : ∀ v ∈ L.eraseIdx j, z_ir v = true := fun v hv => h v (List.mem_of_mem_eraseIdx hv)
theorem z_elF {ρ : Nat} {w : z_W} {b : UInt32} : z_el ρ w (.float b) := ⟨Or.inl ⟨b, rfl⟩, "java/lang/Integer", rfl, cs_IO⟩
end ZLi
section ZLi2
theorem nI_o0 : Int32.ofInt 0 = nI 0 := by decide
theorem nI_o1 : Int32.ofInt 1 = nI 1 := by decide
theorem nI_inj {a b : Nat} (h : nI a = nI b) (ha : a < 2147483648) (hb : b < 2147483648) : a = b := by
  have e := congrArg Int32.toNatClampNeg h
  rw [z_cla ha, z_cla hb] at e
  exact e
theorem nI_sub1 (k : Nat) : nI (k + 1) - nI k = Int32.ofInt 1 := by
  rw [nI_o1, pk_sub (by omega)]
  congr 1
  omega
theorem z_isK {w w' : z_W} (hw : ∀ (k : Nat) (e : z_E), z_g w k = some e → z_g w' k = some e) {v : Value} {C : String} (h : z_is w v C) : z_is w' v C := by
  cases v with
  | ref n =>
    rcases h with ⟨o, q, h1, h2⟩ | ⟨x, ty, h1, h2⟩
    · exact Or.inl ⟨o, q, hw _ _ h1, h2⟩
    · exact Or.inr ⟨x, ty, hw _ _ h1, h2⟩
  | int x => exact h
  | long x => exact h
  | null => exact h
  | retAddr k => exact h
  | double b => exact h
  | float b => exact h
theorem z_inj3 {n : Nat} {a b c a' b' c' : Value} (e : some (Sum.inr (n, [a, b, c]) : z_E) = some (Sum.inr (n, [a', b', c']))) : a = a' ∧ b = b' ∧ c = c' := by cases e; exact ⟨rfl, rfl, rfl⟩
theorem z_cpy0 {n k j : Nat} {f g : Nat → Value} (hj : j < n) (hk : j < k) (h9 : n < 2147483648 ∨ k < 2147483648) : va_cpy f g (Int32.ofInt 0).toNatClampNeg (Int32.ofInt 0).toNatClampNeg (nI (min n k)).toNatClampNeg j = f j := by
  have e0 : (Int32.ofInt 0).toNatClampNeg = 0 := by decide
  unfold va_cpy
  rw [e0, z_cla (by omega), if_pos (by omega), Nat.zero_add, Nat.sub_zero]
theorem z_li.md {w w' : z_W} {ρ a : Nat} {mo mo' : Int32} {L : List Value} {v0 : Value} (h : z_li w ρ a mo L) (hg : z_g w a = some (.inr (4, [.int mo, v0, .int (nI L.length)]))) (u : z_up w a (.inr (4, [.int mo', v0, .int (nI L.length)])) w') : z_li w' ρ a mo' L := by
  obtain ⟨h1, h2, h3, h4⟩ := h
  refine ⟨h1, h2, h3, ?_⟩
  rcases h4 with ⟨m, n, f, a1, a2, a3, a4, a5, a6⟩ | ⟨k, a1, a2, a3⟩
  · have e := (z_inj3 (hg.symm.trans a4)).2.1
    subst e
    exact Or.inl ⟨m, n, f, a1, a2, a3, u.1, (u.2.1 m a3).trans a5, a6⟩
  · subst a1
    have e := (z_inj3 (hg.symm.trans a3)).2.1
    subst e
    exact Or.inr ⟨k, rfl, a2, u.1⟩
theorem z_elK {ρ : Nat} {w : z_W} {L : List Value} {m n a : Nat} {mo : Int32} {f : Nat → Value} (hel : ∀ v ∈ L, z_el ρ w v) (h : z_liA w ρ a mo L m n f) {j : Nat} (hj : j < L.length) : f j = .null ∨ ∃ C, z_is w (f j) C ∧ Cond.castable C "java/lang/Object" ∈ z_nst := by
  obtain ⟨-, -, -, -, -, -, -, h8⟩ := h
  have e := h8 j _ (List.getElem?_eq_getElem hj)
  rw [e]
  exact Or.inr (hel _ (List.getElem_mem hj)).2
theorem z_elM {ρ : Nat} {w w' : z_W} {L : List Value} (hel : ∀ v ∈ L, z_el ρ w v) (hw : z_fw ρ w w') : ∀ v ∈ L, z_el ρ w' v := fun v hv => (hel v hv).m hw.2.2
theorem z_lgx {x : Value} (h : z_ir x = true) {as bs : List Value} : (lg_sl (as ++ x :: bs)).length = (lg_sl as).length + (1 + (lg_sl bs).length) := by
  have e : lg_sl (as ++ x :: bs) = lg_sl as ++ (lg_sl [x] ++ lg_sl bs) := by
    unfold lg_sl
    rw [List.flatMap_append, List.flatMap_cons, List.flatMap_cons, List.flatMap_nil, List.append_nil]
  have e2 : (lg_sl [x]).length = 1 := by
    cases x <;> first | rfl | cases h
  rw [e, List.length_append, List.length_append, e2]
end ZLi2
end ZM9
section ZM10
section ZLs
variable {G : z_G} {l : Launch}
set_option maxRecDepth 100000 in
set_option maxHeartbeats 8000000 in
theorem cl_size (hl : l.stackTraces = false) (w : z_W) (ρ a : Nat) (mo : Int32) (L : List Value) (h : z_li w ρ a mo L) : z_Con G l mJx4a65c_size_8abf5 10 0 0 w [.ref a] (fun v w9 => v = some (.int (nI L.length)) ∧ w9 = w) (fun _ _ => False) := by
  obtain ⟨v0, hv0, ga⟩ := h.cell
  refine z_body hl (by decide) rfl (Nat.le_of_ble_eq_true rfl) ?_
  show z_J G l mJx4a65c_size_8abf5 _ 0 [(0, _)] [] _ 0 0
  refine j_aload_n dJx4a65c_size_8abf5_0 rfl rfl ?_
  refine j_getf dJx4a65c_size_8abf5_1 fJx4a65c_48 ga rfl ?_
  refine j_iret dJx4a65c_size_8abf5_4 rfl rfl ?_ (Nat.le_of_ble_eq_true rfl) (Nat.le_of_ble_eq_true rfl)
  exact ⟨rfl, rfl⟩
set_option maxRecDepth 100000 in
set_option maxHeartbeats 8000000 in
theorem cl_elD (hl : l.stackTraces = false) (w : z_W) (ρ a : Nat) (mo : Int32) (L : List Value) (j : Nat) (v0 : Value) (h : z_li w ρ a mo L) (hj : L[j]? = some v0) : z_Con G l mJx4a65c_elementData_915e3 10 0 0 w [.ref a, .int (nI j)] (fun v w9 => v = some v0 ∧ w9 = w) (fun _ _ => False) := by
  obtain ⟨m, n, f, a1, a2, a3, ga, gm, a6, a7, a8⟩ := h.one hj
  have hjl : j < L.length := (List.getElem?_eq_some_iff.mp hj).1
  refine z_body hl (by decide) rfl (Nat.le_of_ble_eq_true rfl) ?_
  show z_J G l mJx4a65c_elementData_915e3 _ 0 [(0, _), (1, _)] [] _ 0 0
  refine j_aload_n dJx4a65c_elementData_915e3_0 rfl rfl ?_
  refine j_getf dJx4a65c_elementData_915e3_1 fJx4a65c_9 ga rfl ?_
  refine j_iload_n dJx4a65c_elementData_915e3_4 rfl ?_
  refine j_aald dJx4a65c_elementData_915e3_5 gm rfl rfl (vp_in_nI (by omega) (by omega)) (show f (nI j).toNatClampNeg = v0 by rw [z_cla (by omega)]; exact a8 j v0 hj) ?_
  refine j_aret dJx4a65c_elementData_915e3_6 rfl (Or.inl ⟨_, rfl⟩) (h.ir hj) ?_ (Nat.le_of_ble_eq_true rfl) (Nat.le_of_ble_eq_true rfl)
  exact ⟨rfl, rfl⟩
set_option maxRecDepth 100000 in
set_option maxHeartbeats 8000000 in
theorem cl_get (hl : l.stackTraces = false) (w : z_W) (ρ a : Nat) (mo : Int32) (L : List Value) (j : Nat) (v0 : Value) (h : z_li w ρ a mo L) (hj : L[j]? = some v0) : z_Con G l mJx4a65c_get_915e3 13 0 0 w [.ref a, .int (nI j)] (fun v w9 => v = some v0 ∧ w9 = w) (fun _ _ => False) := by
  obtain ⟨m, n, f, a1, a2, a3, ga, gm, a6, a7, a8⟩ := h.one hj
  have hjl : j < L.length := (List.getElem?_eq_some_iff.mp hj).1
  refine z_body hl (by decide) rfl (Nat.le_of_ble_eq_true rfl) ?_
  show z_J G l mJx4a65c_get_915e3 _ 0 [(0, _), (1, _)] [] _ 0 0
  refine j_iload_n dJx4a65c_get_915e3_0 rfl ?_
  refine j_aload_n dJx4a65c_get_915e3_1 rfl rfl ?_
  refine j_getf dJx4a65c_get_915e3_2 fJx4a65c_48 ga rfl ?_
  refine j_callS dJx4a65c_get_915e3_5 kJ15_checkIndex_7cf53 lJx4a65c_118 stJ15_checkIndex_7cf53 (c_J15_checkIndex_7cf53 hl _ _ _ (nI_pos (by omega)) (nI_lt hjl (by omega))) (Nat.le_of_ble_eq_true rfl) ⟨(Nat.le_of_ble_eq_true rfl), (Nat.le_of_ble_eq_true rfl)⟩ rfl (Nat.le_of_ble_eq_true rfl) rfl rfl (fun _ _ h => h.elim) ?_
  rintro _ _ ⟨rfl, hw1⟩
  refine j_w w hw1 ?_
  refine j_pop dJx4a65c_get_915e3_8 rfl ?_
  refine j_aload_n dJx4a65c_get_915e3_9 rfl rfl ?_
  refine j_iload_n dJx4a65c_get_915e3_10 rfl ?_
  refine j_callV (q := (RJx4a65c, TJx4a65c, 3)) dJx4a65c_get_915e3_11 kJx4a65c_elementData_915e3 lJx4a65c_123 inJx4a65c_elementData_915e3 seJx4a65c_elementData_915e3 ga rfl (cl_elD hl w _ _ _ _ _ _ h hj) (Nat.le_of_ble_eq_true rfl) ⟨(Nat.le_of_ble_eq_true rfl), (Nat.le_of_ble_eq_true rfl)⟩ rfl (Nat.le_of_ble_eq_true rfl) rfl rfl (fun _ _ h => h.elim) ?_
  rintro _ _ ⟨rfl, hw2⟩
  refine j_w w hw2 ?_
  refine j_aret dJx4a65c_get_915e3_14 rfl (Or.inl ⟨_, rfl⟩) (h.ir hj) ?_ (Nat.le_of_ble_eq_true rfl) (Nat.le_of_ble_eq_true rfl)
  exact ⟨rfl, rfl⟩
set_option maxRecDepth 100000 in
set_option maxHeartbeats 8000000 in
theorem cl_set (hl : l.stackTraces = false) (w : z_W) (ρ a : Nat) (mo : Int32) (L : List Value) (j : Nat) (v0 x : Value) (h : z_li w ρ a mo L) (hj : L[j]? = some v0) (hx : z_el ρ w x) : z_Con G l mJx4a65c_set_bcc79 13 0 0 w [.ref a, .int (nI j), x] (fun v w9 => v = some v0 ∧ z_fw ρ w w9 ∧ z_li w9 ρ a mo (L.set j x)) (fun _ _ => False) := by
  obtain ⟨m, n, f, a1, a2, a3, ga, gm, a6, a7, a8⟩ := h.one hj
  have hjl : j < L.length := (List.getElem?_eq_some_iff.mp hj).1
  obtain ⟨C, hC1, hC2⟩ := hx.2
  rcases hx.1 with ⟨bx, rfl⟩ | ⟨rx, rfl, hrx⟩
  · have hj0 := hj
    refine z_body hl (by decide) rfl (Nat.le_of_ble_eq_true rfl) ?_
    show z_J G l mJx4a65c_set_bcc79 _ 0 [(0, _), (1, _), (2, _)] [] _ 0 0
    refine j_iload_n dJx4a65c_set_bcc79_0 rfl ?_
    refine j_aload_n dJx4a65c_set_bcc79_1 rfl rfl ?_
    refine j_getf dJx4a65c_set_bcc79_2 fJx4a65c_48 ga rfl ?_
    refine j_callS dJx4a65c_set_bcc79_5 kJ15_checkIndex_7cf53 lJx4a65c_118 stJ15_checkIndex_7cf53 (c_J15_checkIndex_7cf53 hl _ _ _ (nI_pos (by omega)) (nI_lt hjl (by omega))) (Nat.le_of_ble_eq_true rfl) ⟨(Nat.le_of_ble_eq_true rfl), (Nat.le_of_ble_eq_true rfl)⟩ rfl (Nat.le_of_ble_eq_true rfl) rfl rfl (fun _ _ h => h.elim) ?_
    rintro _ _ ⟨rfl, hw3⟩
    refine j_w w hw3 ?_
    refine j_pop dJx4a65c_set_bcc79_8 rfl ?_
    refine j_aload_n dJx4a65c_set_bcc79_9 rfl rfl ?_
    refine j_iload_n dJx4a65c_set_bcc79_10 rfl ?_
    refine j_callV (q := (RJx4a65c, TJx4a65c, 3)) dJx4a65c_set_bcc79_11 kJx4a65c_elementData_915e3 lJx4a65c_123 inJx4a65c_elementData_915e3 seJx4a65c_elementData_915e3 ga rfl (cl_elD hl w _ _ _ _ _ _ h hj) (Nat.le_of_ble_eq_true rfl) ⟨(Nat.le_of_ble_eq_true rfl), (Nat.le_of_ble_eq_true rfl)⟩ rfl (Nat.le_of_ble_eq_true rfl) rfl rfl (fun _ _ h => h.elim) ?_
    rintro _ _ ⟨rfl, hw4⟩
    refine j_w w hw4 ?_
    refine j_astore_n (lo' := [(3, _), (0, _), (1, _), (2, _)]) dJx4a65c_set_bcc79_14 (h.ir hj) (by decide) rfl ?_
    refine j_aload_n dJx4a65c_set_bcc79_15 rfl rfl ?_
    refine j_getf dJx4a65c_set_bcc79_16 fJx4a65c_9 ga rfl ?_
    refine j_iload_n dJx4a65c_set_bcc79_19 rfl ?_
    refine j_aload_n dJx4a65c_set_bcc79_20 rfl hx.ir ?_
    refine j_aastO (w' := _) dJx4a65c_set_bcc79_21 gm rfl hC1 hC2 (vp_in_nI (by omega) (by omega)) rfl ?_
    refine j_seal a1 ?_
    intro w1 u1
    have g1_a := (u1.2.1 _ (Ne.symm a3)).trans ga
    have g1_m := u1.1
    refine j_aload_n dJx4a65c_set_bcc79_22 rfl (h.ir hj) ?_
    refine j_aret dJx4a65c_set_bcc79_23 rfl (Or.inl ⟨_, rfl⟩) (h.ir hj) ?_ (Nat.le_of_ble_eq_true rfl) (Nat.le_of_ble_eq_true rfl)
    exact ⟨rfl, (u1.fw a1 a2), z_li.of h.1 h.2.1 (z_irS h.2.2.1 hx.ir) ⟨a1, a2, a3, by rw [z_lenS]; exact g1_a, g1_m, by rw [z_lenS]; exact a6, a7, z_conS a7 hjl a6 a8⟩⟩
  · have hj0 := hj
    refine z_body hl (by decide) rfl (Nat.le_of_ble_eq_true rfl) ?_
    show z_J G l mJx4a65c_set_bcc79 _ 0 [(0, _), (1, _), (2, _)] [] _ 0 0
    refine j_iload_n dJx4a65c_set_bcc79_0 rfl ?_
    refine j_aload_n dJx4a65c_set_bcc79_1 rfl rfl ?_
    refine j_getf dJx4a65c_set_bcc79_2 fJx4a65c_48 ga rfl ?_
    refine j_callS dJx4a65c_set_bcc79_5 kJ15_checkIndex_7cf53 lJx4a65c_118 stJ15_checkIndex_7cf53 (c_J15_checkIndex_7cf53 hl _ _ _ (nI_pos (by omega)) (nI_lt hjl (by omega))) (Nat.le_of_ble_eq_true rfl) ⟨(Nat.le_of_ble_eq_true rfl), (Nat.le_of_ble_eq_true rfl)⟩ rfl (Nat.le_of_ble_eq_true rfl) rfl rfl (fun _ _ h => h.elim) ?_
    rintro _ _ ⟨rfl, hw5⟩
    refine j_w w hw5 ?_
    refine j_pop dJx4a65c_set_bcc79_8 rfl ?_
    refine j_aload_n dJx4a65c_set_bcc79_9 rfl rfl ?_
    refine j_iload_n dJx4a65c_set_bcc79_10 rfl ?_
    refine j_callV (q := (RJx4a65c, TJx4a65c, 3)) dJx4a65c_set_bcc79_11 kJx4a65c_elementData_915e3 lJx4a65c_123 inJx4a65c_elementData_915e3 seJx4a65c_elementData_915e3 ga rfl (cl_elD hl w _ _ _ _ _ _ h hj) (Nat.le_of_ble_eq_true rfl) ⟨(Nat.le_of_ble_eq_true rfl), (Nat.le_of_ble_eq_true rfl)⟩ rfl (Nat.le_of_ble_eq_true rfl) rfl rfl (fun _ _ h => h.elim) ?_
    rintro _ _ ⟨rfl, hw6⟩
    refine j_w w hw6 ?_
    refine j_astore_n (lo' := [(3, _), (0, _), (1, _), (2, _)]) dJx4a65c_set_bcc79_14 (h.ir hj) (by decide) rfl ?_
    refine j_aload_n dJx4a65c_set_bcc79_15 rfl rfl ?_
    refine j_getf dJx4a65c_set_bcc79_16 fJx4a65c_9 ga rfl ?_
    refine j_iload_n dJx4a65c_set_bcc79_19 rfl ?_
    refine j_aload_n dJx4a65c_set_bcc79_20 rfl hx.ir ?_
    refine j_aastO (w' := _) dJx4a65c_set_bcc79_21 gm rfl hC1 hC2 (vp_in_nI (by omega) (by omega)) rfl ?_
    refine j_seal a1 ?_
    intro w1 u1
    have g1_a := (u1.2.1 _ (Ne.symm a3)).trans ga
    have g1_m := u1.1
    refine j_aload_n dJx4a65c_set_bcc79_22 rfl (h.ir hj) ?_
    refine j_aret dJx4a65c_set_bcc79_23 rfl (Or.inl ⟨_, rfl⟩) (h.ir hj) ?_ (Nat.le_of_ble_eq_true rfl) (Nat.le_of_ble_eq_true rfl)
    exact ⟨rfl, (u1.fw a1 a2), z_li.of h.1 h.2.1 (z_irS h.2.2.1 hx.ir) ⟨a1, a2, a3, by rw [z_lenS]; exact g1_a, g1_m, by rw [z_lenS]; exact a6, a7, z_conS a7 hjl a6 a8⟩⟩
set_option maxRecDepth 100000 in
set_option maxHeartbeats 8000000 in
theorem cl_newL (hl : l.stackTraces = false) (w : z_W) (n : Nat) (hn : n ≤ 1000) : z_Con G l mJ8_newLength_cabcc 11 0 0 w [.int (nI n), .int (Int32.ofInt 1), .int (nI (n / 2))] (fun v w9 => v = some (.int (nI (z_nl n))) ∧ w9 = w) (fun _ _ => False) := by
  have hb := z_nl_le2 hn
  have hp := z_nl_lt n
  refine z_body hl (by decide) rfl (Nat.le_of_ble_eq_true rfl) ?_
  show z_J G l mJ8_newLength_cabcc _ 0 [(0, _), (1, _), (2, _)] [] _ 0 0
  refine j_iload_n dJ8_newLength_cabcc_0 rfl ?_
  refine j_iload_n dJ8_newLength_cabcc_1 rfl ?_
  refine j_iload_n dJ8_newLength_cabcc_2 rfl ?_
  refine j_mmax dJ8_newLength_cabcc_3 lJ8_194 (Nat.le_of_ble_eq_true rfl) (Nat.le_of_ble_eq_true rfl) (Nat.le_of_ble_eq_true rfl) (Nat.le_of_ble_eq_true rfl) ?_
  refine j_top (congrArg Value.int (nI_mx1 (k := n / 2) (by omega))) ?_
  refine j_iadd dJ8_newLength_cabcc_6 ?_
  refine j_top (congrArg Value.int (z_nlI n)) ?_
  refine j_istore_n (lo' := [(3, _), (0, _), (1, _), (2, _)]) dJ8_newLength_cabcc_7 (by decide) rfl ?_
  refine j_iconst (v := 0) dJ8_newLength_cabcc_8 (by decide) ?_
  refine j_iload_n dJ8_newLength_cabcc_9 rfl ?_
  refine j_icmp_ge (tgt := 21) dJ8_newLength_cabcc_10 (by decide) (fun c_10_12 => ?_) (fun c_10_12 => ?_)
  · exact absurd ((nI_leI (a := z_nl n) (b := 0) (by omega) (by omega)).mp (nI_o0 ▸ c_10_12)) (by omega)
  · refine j_iload_n dJ8_newLength_cabcc_13 rfl ?_
    refine j_ldc dJ8_newLength_cabcc_14 kcJ8_200 ?_
    refine j_icmp_gt (tgt := 21) dJ8_newLength_cabcc_16 (by decide) (fun c_16_16 => ?_) (fun c_16_16 => ?_)
    · exact absurd c_16_16 (Int32.not_lt.mpr (Int32.le_trans ((nI_leI (a := z_nl n) (b := 1600) (by omega) (by omega)).mpr hb) (by decide)))
    · refine j_iload_n dJ8_newLength_cabcc_19 rfl ?_
      refine j_iret dJ8_newLength_cabcc_20 rfl rfl ?_ (Nat.le_of_ble_eq_true rfl) (Nat.le_of_ble_eq_true rfl)
      exact ⟨rfl, rfl⟩
set_option maxRecDepth 100000 in
set_option maxHeartbeats 8000000 in
theorem cl_cpA (hl : l.stackTraces = false) (w : z_W) (ρ m n q : Nat) (f : Nat → Value) (hρ : ρ < 64) (hf : z_fn w) (gm : z_g w m = some (.inl (3, n, f))) (hn : n ≤ 1600) (hq : q ≤ 1600) (hel : ∀ j, j < n → j < q → f j = .null ∨ ∃ C, z_is w (f j) C ∧ Cond.castable C "java/lang/Object" ∈ z_nst) : z_Con G l mJ7_copyOf_6403c 12 1 q w [.ref m, .int (nI q), .retAddr 6] (fun v w9 => ∃ (m9 : Nat) (g : Nat → Value), v = some (.ref m9) ∧ z_fw ρ w w9 ∧ 1000 ≤ m9 ∧ m9 % 64 = ρ ∧ (∀ k e, z_g w k = some e → k ≠ m9) ∧ z_g w9 m9 = some (.inl (3, q, g)) ∧ (∀ k e, z_g w k = some e → z_g w9 k = some e) ∧ ∀ j, j < n → j < q → g j = f j) (fun _ _ => False) := by
  refine z_body hl (by decide) rfl (Nat.le_of_ble_eq_true rfl) ?_
  show z_J G l mJ7_copyOf_6403c _ 0 [(0, _), (1, _), (2, _)] [] _ 0 0
  refine j_aload_n dJ7_copyOf_6403c_0 rfl rfl ?_
  refine j_ldcM dJ7_copyOf_6403c_1 cl_110 ?_
  refine j_acmp_neK (tgt := 13) dJ7_copyOf_6403c_3 (by decide) ?_
  refine j_iload_n dJ7_copyOf_6403c_6 rfl ?_
  obtain ⟨x1, hx1a, hx1b, hx1c⟩ := z_fresh ρ hρ hf
  have n_m_x1 := z_neF hx1c gm
  refine j_anew (kd := 3) (N := q) (w' := _) (n := x1) dJ7_copyOf_6403c_7 rfl aJ7_2 ao_Object (nI_pos (by omega)) (z_cla (by omega)) (by omega) (z_alW hx1c hx1a) (Nat.le_of_ble_eq_true rfl) (by show _ ≤ q; omega) ?_
  refine j_seal hx1a ?_
  intro w1 u1
  have g1_m := (u1.2.1 _ n_m_x1).trans gm
  have g1_x1 := u1.1
  have hf1 := u1.2.2.2 hf
  refine j_goto (tgt := 24) dJ7_copyOf_6403c_10 (by decide) ?_
  refine j_astore_n (lo' := [(3, _), (0, _), (1, _), (2, _)]) dJ7_copyOf_6403c_24 rfl (by decide) rfl ?_
  refine j_aload_n dJ7_copyOf_6403c_25 rfl rfl ?_
  refine j_iconst (v := 0) dJ7_copyOf_6403c_26 (by decide) ?_
  refine j_aload_n dJ7_copyOf_6403c_27 rfl rfl ?_
  refine j_iconst (v := 0) dJ7_copyOf_6403c_28 (by decide) ?_
  refine j_aload_n dJ7_copyOf_6403c_29 rfl rfl ?_
  refine j_alen dJ7_copyOf_6403c_30 g1_m rfl rfl ?_
  refine j_iload_n dJ7_copyOf_6403c_31 rfl ?_
  refine j_mmin dJ7_copyOf_6403c_32 lJ7_304 (Nat.le_of_ble_eq_true rfl) (Nat.le_of_ble_eq_true rfl) (Nat.le_of_ble_eq_true rfl) (by show _ ≤ q; omega) ?_
  refine j_top (congrArg Value.int (nI_mn (a := n) (b := q) (by omega) (by omega))) ?_
  refine j_acopy (w' := _) dJ7_copyOf_6403c_35 lJ7_150 ac_n ac_s ac_i g1_m g1_x1 rfl (by decide) (by decide) (nI_pos (by omega)) (by rw [z_cla (by omega)]; show 0 + _ ≤ n; omega) (by rw [z_cla (by omega)]; show 0 + _ ≤ q; omega) (fun i hi => by rw [z_cla (by omega)] at hi; show _ ∨ (f (0 + i) = .null ∧ _) ∨ ∃ C E, _ ∧ z_is _ (f (0 + i)) C ∧ _; rw [Nat.zero_add]; rcases hel i (by omega) (by omega) with h1 | ⟨C, h1, h2⟩; exact Or.inr (Or.inl ⟨h1, rfl⟩); exact Or.inr (Or.inr ⟨C, "java/lang/Object", rfl, z_isK (fun k e hk => (u1.2.1 k (z_neF hx1c hk)).trans hk) h1, h2⟩)) (Nat.le_of_ble_eq_true rfl) (Nat.le_of_ble_eq_true rfl) rfl ?_
  refine j_seal hx1a ?_
  intro w2 u2
  have g2_m := (u2.2.1 _ n_m_x1).trans g1_m
  have g2_x1 := u2.1
  have hf2 := u2.2.2.2 hf1
  refine j_aload_n dJ7_copyOf_6403c_38 rfl rfl ?_
  refine j_aret dJ7_copyOf_6403c_39 rfl (Or.inr ⟨_, rfl⟩) rfl ?_ (Nat.le_of_ble_eq_true rfl) (by show _ ≤ q; omega)
  exact ⟨x1, _, rfl, ((u1.fw hx1a hx1b).tr (u2.fw hx1a hx1b)), hx1a, hx1b, fun k e hk => z_neF hx1c hk, g2_x1, fun k e hk => (u2.2.1 k (z_neF hx1c hk)).trans ((u1.2.1 k (z_neF hx1c hk)).trans hk), fun j h1 h2 => z_cpy0 h1 h2 (Or.inl (by omega))⟩
set_option maxRecDepth 100000 in
set_option maxHeartbeats 8000000 in
theorem cl_cpAK (hl : l.stackTraces = false) (w : z_W) (ρ k q : Nat) (hρ : ρ < 64) (hf : z_fn w) (hk : k < 2) (hq : q ≤ 1600) : z_Con G l mJ7_copyOf_6403c 12 1 q w [.retAddr k, .int (nI q), .retAddr 6] (fun v w9 => ∃ (m9 : Nat) (g : Nat → Value), v = some (.ref m9) ∧ z_fw ρ w w9 ∧ 1000 ≤ m9 ∧ m9 % 64 = ρ ∧ (∀ k e, z_g w k = some e → k ≠ m9) ∧ z_g w9 m9 = some (.inl (3, q, g)) ∧ (∀ k e, z_g w k = some e → z_g w9 k = some e)) (fun _ _ => False) := by
  refine z_body hl (by decide) rfl (Nat.le_of_ble_eq_true rfl) ?_
  show z_J G l mJ7_copyOf_6403c _ 0 [(0, _), (1, _), (2, _)] [] _ 0 0
  refine j_aload_n dJ7_copyOf_6403c_0 rfl rfl ?_
  refine j_ldcM dJ7_copyOf_6403c_1 cl_110 ?_
  refine j_acmp_neK (tgt := 13) dJ7_copyOf_6403c_3 (by decide) ?_
  refine j_iload_n dJ7_copyOf_6403c_6 rfl ?_
  obtain ⟨x1, hx1a, hx1b, hx1c⟩ := z_fresh ρ hρ hf
  refine j_anew (kd := 3) (N := q) (w' := _) (n := x1) dJ7_copyOf_6403c_7 rfl aJ7_2 ao_Object (nI_pos (by omega)) (z_cla (by omega)) (by omega) (z_alW hx1c hx1a) (Nat.le_of_ble_eq_true rfl) (by show _ ≤ q; omega) ?_
  refine j_seal hx1a ?_
  intro w1 u1
  have g1_x1 := u1.1
  have hf1 := u1.2.2.2 hf
  refine j_goto (tgt := 24) dJ7_copyOf_6403c_10 (by decide) ?_
  refine j_astore_n (lo' := [(3, _), (0, _), (1, _), (2, _)]) dJ7_copyOf_6403c_24 rfl (by decide) rfl ?_
  refine j_aload_n dJ7_copyOf_6403c_25 rfl rfl ?_
  refine j_iconst (v := 0) dJ7_copyOf_6403c_26 (by decide) ?_
  refine j_aload_n dJ7_copyOf_6403c_27 rfl rfl ?_
  refine j_iconst (v := 0) dJ7_copyOf_6403c_28 (by decide) ?_
  refine j_aload_n dJ7_copyOf_6403c_29 rfl rfl ?_
  refine j_alenK (k := k) (N := 0) dJ7_copyOf_6403c_30 (fun U q h hkq => h.2.2.2.1 k q hk hkq) ?_
  refine j_iload_n dJ7_copyOf_6403c_31 rfl ?_
  refine j_mmin dJ7_copyOf_6403c_32 lJ7_304 (Nat.le_of_ble_eq_true rfl) (Nat.le_of_ble_eq_true rfl) (Nat.le_of_ble_eq_true rfl) (by show _ ≤ q; omega) ?_
  refine j_top (congrArg Value.int (nI_mn (a := 0) (b := q) (by omega) (by omega))) ?_
  refine j_acopyK (k := k) (n0 := 0) (kd := 3) (ty := .object "java/lang/Object") dJ7_copyOf_6403c_35 lJ7_150 ac_n ac_s ac_i (fun U q9 h hkq => by obtain ⟨f9, hf9⟩ := h.2.2.2.1 k q9 hk hkq; exact ⟨f9, hf9, fun j hj => absurd hj (Nat.not_lt_zero _)⟩) g1_x1 rfl (by decide) (by decide) (nI_pos (by omega)) (by rw [z_cla (by omega)]; show 0 + _ ≤ 0; omega) (by rw [z_cla (by omega)]; show 0 + _ ≤ q; omega) (Nat.le_of_ble_eq_true rfl) (Nat.le_of_ble_eq_true rfl) ?_
  intro f9 _
  refine j_seal hx1a ?_
  intro w2 u2
  have g2_x1 := u2.1
  have hf2 := u2.2.2.2 hf1
  refine j_aload_n dJ7_copyOf_6403c_38 rfl rfl ?_
  refine j_aret dJ7_copyOf_6403c_39 rfl (Or.inr ⟨_, rfl⟩) rfl ?_ (Nat.le_of_ble_eq_true rfl) (by show _ ≤ q; omega)
  exact ⟨x1, _, rfl, ((u1.fw hx1a hx1b).tr (u2.fw hx1a hx1b)), hx1a, hx1b, fun k e hk => z_neF hx1c hk, g2_x1, fun k e hk => (u2.2.1 k (z_neF hx1c hk)).trans ((u1.2.1 k (z_neF hx1c hk)).trans hk)⟩
set_option maxRecDepth 100000 in
set_option maxHeartbeats 8000000 in
theorem cl_cpB (hl : l.stackTraces = false) (w : z_W) (ρ m n q : Nat) (f : Nat → Value) (hρ : ρ < 64) (hf : z_fn w) (gm : z_g w m = some (.inl (3, n, f))) (hn : n ≤ 1600) (hq : q ≤ 1600) (hel : ∀ j, j < n → j < q → f j = .null ∨ ∃ C, z_is w (f j) C ∧ Cond.castable C "java/lang/Object" ∈ z_nst) : z_Con G l mJ7_copyOf_1904c 13 1 q w [.ref m, .int (nI q)] (fun v w9 => ∃ (m9 : Nat) (g : Nat → Value), v = some (.ref m9) ∧ z_fw ρ w w9 ∧ 1000 ≤ m9 ∧ m9 % 64 = ρ ∧ (∀ k e, z_g w k = some e → k ≠ m9) ∧ z_g w9 m9 = some (.inl (3, q, g)) ∧ (∀ k e, z_g w k = some e → z_g w9 k = some e) ∧ ∀ j, j < n → j < q → g j = f j) (fun _ _ => False) := by
  refine z_body hl (by decide) rfl (Nat.le_of_ble_eq_true rfl) ?_
  show z_J G l mJ7_copyOf_1904c _ 0 [(0, _), (1, _)] [] _ 0 0
  refine j_aload_n dJ7_copyOf_1904c_0 rfl rfl ?_
  refine j_iload_n dJ7_copyOf_1904c_1 rfl ?_
  refine j_aload_n dJ7_copyOf_1904c_2 rfl rfl ?_
  refine j_getC dJ7_copyOf_1904c_3 lJ7_86 gc_d gc_s gc_i gc_n gm (Nat.le_of_ble_eq_true rfl) (Nat.le_of_ble_eq_true rfl) ?_
  refine j_callS dJ7_copyOf_1904c_6 kJ7_copyOf_6403c lJ7_300 stJ7_copyOf_6403c (cl_cpA hl w ρ m n q f hρ hf gm hn hq hel) (Nat.le_of_ble_eq_true rfl) ⟨(Nat.le_of_ble_eq_true rfl), (by show _ ≤ q; omega)⟩ rfl (Nat.le_of_ble_eq_true rfl) rfl rfl (fun _ _ h => h.elim) ?_
  rintro _ w1 ⟨m9, g9, rfl, fw1, c1, c2, c3, c4, c5, c6⟩
  have hf1 := fw1.2.1 hf
  refine j_aret dJ7_copyOf_1904c_9 rfl (Or.inr ⟨_, rfl⟩) rfl ?_ (Nat.le_of_ble_eq_true rfl) (by show _ ≤ q; omega)
  exact ⟨m9, g9, rfl, fw1, c1, c2, c3, c4, c5, c6⟩
set_option maxRecDepth 100000 in
set_option maxHeartbeats 8000000 in
theorem cl_cpBK (hl : l.stackTraces = false) (w : z_W) (ρ k q : Nat) (hρ : ρ < 64) (hf : z_fn w) (hk : k < 2) (hq : q ≤ 1600) : z_Con G l mJ7_copyOf_1904c 13 1 q w [.retAddr k, .int (nI q)] (fun v w9 => ∃ (m9 : Nat) (g : Nat → Value), v = some (.ref m9) ∧ z_fw ρ w w9 ∧ 1000 ≤ m9 ∧ m9 % 64 = ρ ∧ (∀ k e, z_g w k = some e → k ≠ m9) ∧ z_g w9 m9 = some (.inl (3, q, g)) ∧ (∀ k e, z_g w k = some e → z_g w9 k = some e)) (fun _ _ => False) := by
  refine z_body hl (by decide) rfl (Nat.le_of_ble_eq_true rfl) ?_
  show z_J G l mJ7_copyOf_1904c _ 0 [(0, _), (1, _)] [] _ 0 0
  refine j_aload_n dJ7_copyOf_1904c_0 rfl rfl ?_
  refine j_iload_n dJ7_copyOf_1904c_1 rfl ?_
  refine j_aload_n dJ7_copyOf_1904c_2 rfl rfl ?_
  refine j_getCK dJ7_copyOf_1904c_3 lJ7_86 gc_d gc_s gc_i gc_n hk (Nat.le_of_ble_eq_true rfl) (Nat.le_of_ble_eq_true rfl) ?_
  refine j_callS dJ7_copyOf_1904c_6 kJ7_copyOf_6403c lJ7_300 stJ7_copyOf_6403c (cl_cpAK hl w ρ k q hρ hf hk hq) (Nat.le_of_ble_eq_true rfl) ⟨(Nat.le_of_ble_eq_true rfl), (by show _ ≤ q; omega)⟩ rfl (Nat.le_of_ble_eq_true rfl) rfl rfl (fun _ _ h => h.elim) ?_
  rintro _ w1 ⟨m9, g9, rfl, fw1, c1, c2, c3, c4, c5⟩
  have hf1 := fw1.2.1 hf
  refine j_aret dJ7_copyOf_1904c_9 rfl (Or.inr ⟨_, rfl⟩) rfl ?_ (Nat.le_of_ble_eq_true rfl) (by show _ ≤ q; omega)
  exact ⟨m9, g9, rfl, fw1, c1, c2, c3, c4, c5⟩
set_option maxRecDepth 100000 in
set_option maxHeartbeats 8000000 in
theorem cl_growI (hl : l.stackTraces = false) (w : z_W) (ρ a : Nat) (mo : Int32) (L : List Value) (M : Nat) (h : z_li w ρ a mo L) (hρ : ρ < 64) (hf : z_fn w) (hM : L.length ≤ M) (hM2 : M ≤ 1000) (hel : ∀ v ∈ L, z_el ρ w v) (hfull : ∀ m n f, z_liA w ρ a mo L m n f → n = L.length) : z_Con G l mJx4a65c_grow_92f84 14 1 (2 * M + 10) w [.ref a, .int (nI (L.length + 1))] (fun v w9 => ∃ (m9 n9 : Nat) (g : Nat → Value), v = some (.ref m9) ∧ z_fw ρ w w9 ∧ z_liA w9 ρ a mo L m9 n9 g ∧ L.length < n9) (fun _ _ => False) := by
  rcases h.2.2.2 with ⟨m, n, f, hA⟩ | ⟨k, hL, hk, ga⟩
  · obtain ⟨a1, a2, a3, ga, gm, a6, a7, a8⟩ := id hA
    have hn : n = L.length := hfull m n f hA
    have hnl := z_nl_le (n := n) (M := M) (by omega)
    refine z_body hl (by decide) rfl (Nat.le_of_ble_eq_true rfl) ?_
    show z_J G l mJx4a65c_grow_92f84 _ 0 [(0, _), (1, _)] [] _ 0 0
    refine j_aload_n dJx4a65c_grow_92f84_0 rfl rfl ?_
    refine j_getf dJx4a65c_grow_92f84_1 fJx4a65c_9 ga rfl ?_
    refine j_alen dJx4a65c_grow_92f84_4 gm rfl rfl ?_
    refine j_istore_n (lo' := [(2, _), (0, _), (1, _)]) dJx4a65c_grow_92f84_5 (by decide) rfl ?_
    refine j_iload_n dJx4a65c_grow_92f84_6 rfl ?_
    refine j_if_gt (tgt := 20) dJx4a65c_grow_92f84_7 (by decide) (fun c_7_7 => ?_) (fun c_7_7 => ?_)
    · refine j_iload_n dJx4a65c_grow_92f84_20 rfl ?_
      refine j_iload_n dJx4a65c_grow_92f84_21 rfl ?_
      refine j_iload_n dJx4a65c_grow_92f84_22 rfl ?_
      refine j_isub dJx4a65c_grow_92f84_23 ?_
      refine j_top (congrArg Value.int (show nI (L.length + 1) - nI n = Int32.ofInt 1 by rw [hn]; exact nI_sub1 _)) ?_
      refine j_iload_n dJx4a65c_grow_92f84_24 rfl ?_
      refine j_iconst (v := 1) dJx4a65c_grow_92f84_25 (by decide) ?_
      refine j_ishr dJx4a65c_grow_92f84_26 ?_
      refine j_top (congrArg Value.int (nI_shr (n := n) (by omega))) ?_
      refine j_callS dJx4a65c_grow_92f84_27 kJ8_newLength_cabcc lJx4a65c_73 stJ8_newLength_cabcc (cl_newL hl w n (by omega)) (Nat.le_of_ble_eq_true rfl) ⟨(Nat.le_of_ble_eq_true rfl), (Nat.le_of_ble_eq_true rfl)⟩ rfl (Nat.le_of_ble_eq_true rfl) rfl rfl (fun _ _ h => h.elim) ?_
      rintro _ _ ⟨rfl, hw7⟩
      refine j_w w hw7 ?_
      refine j_istore_n (lo' := [(3, _), (2, _), (0, _), (1, _)]) dJx4a65c_grow_92f84_30 (by decide) rfl ?_
      refine j_aload_n dJx4a65c_grow_92f84_31 rfl rfl ?_
      refine j_aload_n dJx4a65c_grow_92f84_32 rfl rfl ?_
      refine j_getf dJx4a65c_grow_92f84_33 fJx4a65c_9 ga rfl ?_
      refine j_iload_n dJx4a65c_grow_92f84_36 rfl ?_
      refine j_callS dJx4a65c_grow_92f84_37 kJ7_copyOf_1904c lJx4a65c_66 stJ7_copyOf_1904c (cl_cpB hl w ρ m n (z_nl n) f hρ hf gm (by omega) (z_nl_le2 (by omega)) (fun j hj _ => z_elK hel hA (by omega))) (Nat.le_of_ble_eq_true rfl) ⟨(Nat.le_of_ble_eq_true rfl), (by show _ ≤ 2 * M + 10; omega)⟩ rfl (Nat.le_of_ble_eq_true rfl) rfl rfl (fun _ _ h => h.elim) ?_
      rintro _ w1 ⟨m9, g9, rfl, fw1, c1, c2, c3, c4, c5, c6⟩
      have hf1 := fw1.2.1 hf
      have g1_a := c5 a _ ga
      refine j_dup_x1 dJx4a65c_grow_92f84_40 rfl rfl ?_
      refine j_put (w' := _) dJx4a65c_grow_92f84_41 fJx4a65c_9 tJx4a65c_1 g1_a (Or.inr ⟨_, rfl⟩) rfl ?_
      refine j_seal h.1 ?_
      intro w2 u2
      have g2_m2 := (u2.2.1 _ (Ne.symm (c3 a _ ga))).trans c4
      have g2_a := u2.1
      have hf2 := u2.2.2.2 hf1
      refine j_aret dJx4a65c_grow_92f84_44 rfl (Or.inr ⟨_, rfl⟩) rfl ?_ (Nat.le_of_ble_eq_true rfl) (by show _ ≤ 2 * M + 10; omega)
      exact ⟨m9, _, g9, rfl, (fw1.tr (u2.fw h.1 h.2.1)), ⟨c1, c2, Ne.symm (c3 a _ ga), g2_a, g2_m2, Nat.le_of_lt (Nat.lt_of_le_of_lt a6 (z_nl_lt n)), z_nl_le2 (by omega), fun q v hq => by have hq2 := (List.getElem?_eq_some_iff.mp hq).1; rw [c6 q (by omega) (by have := z_nl_lt n; omega)]; exact a8 q v hq⟩, Nat.lt_of_le_of_lt a6 (z_nl_lt n)⟩
    · refine j_aload_n dJx4a65c_grow_92f84_10 rfl rfl ?_
      refine j_getf dJx4a65c_grow_92f84_11 fJx4a65c_9 ga rfl ?_
      refine j_gets dJx4a65c_grow_92f84_14 (List.mem_of_getElem? (i := 2) rfl) rfl (z_w 1353 ((lwt_6_3 18).trans rfl) (by decide +kernel)) ?_
      refine j_acmp_eqR (tgt := 45) dJx4a65c_grow_92f84_17 (by decide) ?_
      refine j_iload_n dJx4a65c_grow_92f84_20 rfl ?_
      refine j_iload_n dJx4a65c_grow_92f84_21 rfl ?_
      refine j_iload_n dJx4a65c_grow_92f84_22 rfl ?_
      refine j_isub dJx4a65c_grow_92f84_23 ?_
      refine j_top (congrArg Value.int (show nI (L.length + 1) - nI n = Int32.ofInt 1 by rw [hn]; exact nI_sub1 _)) ?_
      refine j_iload_n dJx4a65c_grow_92f84_24 rfl ?_
      refine j_iconst (v := 1) dJx4a65c_grow_92f84_25 (by decide) ?_
      refine j_ishr dJx4a65c_grow_92f84_26 ?_
      refine j_top (congrArg Value.int (nI_shr (n := n) (by omega))) ?_
      refine j_callS dJx4a65c_grow_92f84_27 kJ8_newLength_cabcc lJx4a65c_73 stJ8_newLength_cabcc (cl_newL hl w n (by omega)) (Nat.le_of_ble_eq_true rfl) ⟨(Nat.le_of_ble_eq_true rfl), (Nat.le_of_ble_eq_true rfl)⟩ rfl (Nat.le_of_ble_eq_true rfl) rfl rfl (fun _ _ h => h.elim) ?_
      rintro _ _ ⟨rfl, hw8⟩
      refine j_w w hw8 ?_
      refine j_istore_n (lo' := [(3, _), (2, _), (0, _), (1, _)]) dJx4a65c_grow_92f84_30 (by decide) rfl ?_
      refine j_aload_n dJx4a65c_grow_92f84_31 rfl rfl ?_
      refine j_aload_n dJx4a65c_grow_92f84_32 rfl rfl ?_
      refine j_getf dJx4a65c_grow_92f84_33 fJx4a65c_9 ga rfl ?_
      refine j_iload_n dJx4a65c_grow_92f84_36 rfl ?_
      refine j_callS dJx4a65c_grow_92f84_37 kJ7_copyOf_1904c lJx4a65c_66 stJ7_copyOf_1904c (cl_cpB hl w ρ m n (z_nl n) f hρ hf gm (by omega) (z_nl_le2 (by omega)) (fun j hj _ => z_elK hel hA (by omega))) (Nat.le_of_ble_eq_true rfl) ⟨(Nat.le_of_ble_eq_true rfl), (by show _ ≤ 2 * M + 10; omega)⟩ rfl (Nat.le_of_ble_eq_true rfl) rfl rfl (fun _ _ h => h.elim) ?_
      rintro _ w3 ⟨m9, g9, rfl, fw3, c1, c2, c3, c4, c5, c6⟩
      have hf3 := fw3.2.1 hf
      have g3_a := c5 a _ ga
      refine j_dup_x1 dJx4a65c_grow_92f84_40 rfl rfl ?_
      refine j_put (w' := _) dJx4a65c_grow_92f84_41 fJx4a65c_9 tJx4a65c_1 g3_a (Or.inr ⟨_, rfl⟩) rfl ?_
      refine j_seal h.1 ?_
      intro w4 u4
      have g4_m2 := (u4.2.1 _ (Ne.symm (c3 a _ ga))).trans c4
      have g4_a := u4.1
      have hf4 := u4.2.2.2 hf3
      refine j_aret dJx4a65c_grow_92f84_44 rfl (Or.inr ⟨_, rfl⟩) rfl ?_ (Nat.le_of_ble_eq_true rfl) (by show _ ≤ 2 * M + 10; omega)
      exact ⟨m9, _, g9, rfl, (fw3.tr (u4.fw h.1 h.2.1)), ⟨c1, c2, Ne.symm (c3 a _ ga), g4_a, g4_m2, Nat.le_of_lt (Nat.lt_of_le_of_lt a6 (z_nl_lt n)), z_nl_le2 (by omega), fun q v hq => by have hq2 := (List.getElem?_eq_some_iff.mp hq).1; rw [c6 q (by omega) (by have := z_nl_lt n; omega)]; exact a8 q v hq⟩, Nat.lt_of_le_of_lt a6 (z_nl_lt n)⟩
  · subst hL
    have hnl : z_nl 0 ≤ 2 * M + 10 := z_nl_le (Nat.zero_le _)
    refine z_body hl (by decide) rfl (Nat.le_of_ble_eq_true rfl) ?_
    show z_J G l mJx4a65c_grow_92f84 _ 0 [(0, _), (1, _)] [] _ 0 0
    refine j_aload_n dJx4a65c_grow_92f84_0 rfl rfl ?_
    refine j_getf dJx4a65c_grow_92f84_1 fJx4a65c_9 ga rfl ?_
    refine j_alenK (k := k) (N := 0) dJx4a65c_grow_92f84_4 (fun U q h hkq => h.2.2.2.1 k q hk hkq) ?_
    refine j_istore_n (lo' := [(2, _), (0, _), (1, _)]) dJx4a65c_grow_92f84_5 (by decide) rfl ?_
    refine j_iload_n dJx4a65c_grow_92f84_6 rfl ?_
    refine j_if_gt (tgt := 20) dJx4a65c_grow_92f84_7 (by decide) (fun c_7_7 => ?_) (fun c_7_7 => ?_)
    · exact absurd c_7_7 (by decide)
    · refine j_aload_n dJx4a65c_grow_92f84_10 rfl rfl ?_
      refine j_getf dJx4a65c_grow_92f84_11 fJx4a65c_9 ga rfl ?_
      refine j_gets dJx4a65c_grow_92f84_14 (List.mem_of_getElem? (i := 2) rfl) rfl (z_w 1353 ((lwt_6_3 18).trans rfl) (by decide +kernel)) ?_
      refine j_acmp_eqKK (tgt := 45) dJx4a65c_grow_92f84_17 (by decide) ?_ ?_
      · refine j_aload_n dJx4a65c_grow_92f84_45 rfl rfl ?_
        refine j_bipush (v := 10) dJx4a65c_grow_92f84_46 (by decide) ?_
        refine j_iload_n dJx4a65c_grow_92f84_48 rfl ?_
        refine j_mmax dJx4a65c_grow_92f84_49 lJx4a65c_79 (Nat.le_of_ble_eq_true rfl) (Nat.le_of_ble_eq_true rfl) (Nat.le_of_ble_eq_true rfl) (by show _ ≤ 2 * M + 10; omega) ?_
        refine j_top (congrArg Value.int (show _ = nI 10 by decide)) ?_
        obtain ⟨x1, hx1a, hx1b, hx1c⟩ := z_fresh ρ hρ hf
        have n_a_x1 := z_neF hx1c ga
        refine j_anew (kd := 3) (N := 10) (w' := _) (n := x1) dJx4a65c_grow_92f84_52 rfl aJx4a65c_7 ao_Object (nI_pos (by omega)) (z_cla (by omega)) (by omega) (z_alW hx1c hx1a) (Nat.le_of_ble_eq_true rfl) (by show _ ≤ 2 * M + 10; omega) ?_
        refine j_seal hx1a ?_
        intro w1 u1
        have g1_a := (u1.2.1 _ n_a_x1).trans ga
        have g1_x1 := u1.1
        have hf1 := u1.2.2.2 hf
        refine j_dup_x1 dJx4a65c_grow_92f84_55 rfl rfl ?_
        refine j_put (w' := _) dJx4a65c_grow_92f84_56 fJx4a65c_9 tJx4a65c_1 g1_a (Or.inr ⟨_, rfl⟩) rfl ?_
        refine j_seal h.1 ?_
        intro w2 u2
        have g2_x1 := (u2.2.1 _ (Ne.symm n_a_x1)).trans g1_x1
        have g2_a := u2.1
        have hf2 := u2.2.2.2 hf1
        refine j_aret dJx4a65c_grow_92f84_59 rfl (Or.inr ⟨_, rfl⟩) rfl ?_ (Nat.le_of_ble_eq_true rfl) (by show _ ≤ 2 * M + 10; omega)
        exact ⟨x1, 10, _, rfl, ((u1.fw hx1a hx1b).tr (u2.fw h.1 h.2.1)), ⟨hx1a, hx1b, Ne.symm n_a_x1, g2_a, g2_x1, Nat.zero_le _, by omega, fun q v hq => by simp at hq⟩, by decide⟩
      · refine j_iload_n dJx4a65c_grow_92f84_20 rfl ?_
        refine j_iload_n dJx4a65c_grow_92f84_21 rfl ?_
        refine j_iload_n dJx4a65c_grow_92f84_22 rfl ?_
        refine j_isub dJx4a65c_grow_92f84_23 ?_
        refine j_top (congrArg Value.int (show nI (0 + 1) - nI 0 = Int32.ofInt 1 by exact nI_sub1 0)) ?_
        refine j_iload_n dJx4a65c_grow_92f84_24 rfl ?_
        refine j_iconst (v := 1) dJx4a65c_grow_92f84_25 (by decide) ?_
        refine j_ishr dJx4a65c_grow_92f84_26 ?_
        refine j_top (congrArg Value.int (nI_shr (n := 0) (by omega))) ?_
        refine j_callS dJx4a65c_grow_92f84_27 kJ8_newLength_cabcc lJx4a65c_73 stJ8_newLength_cabcc (cl_newL hl w 0 (by omega)) (Nat.le_of_ble_eq_true rfl) ⟨(Nat.le_of_ble_eq_true rfl), (Nat.le_of_ble_eq_true rfl)⟩ rfl (Nat.le_of_ble_eq_true rfl) rfl rfl (fun _ _ h => h.elim) ?_
        rintro _ _ ⟨rfl, hw9⟩
        refine j_w w hw9 ?_
        refine j_istore_n (lo' := [(3, _), (2, _), (0, _), (1, _)]) dJx4a65c_grow_92f84_30 (by decide) rfl ?_
        refine j_aload_n dJx4a65c_grow_92f84_31 rfl rfl ?_
        refine j_aload_n dJx4a65c_grow_92f84_32 rfl rfl ?_
        refine j_getf dJx4a65c_grow_92f84_33 fJx4a65c_9 ga rfl ?_
        refine j_iload_n dJx4a65c_grow_92f84_36 rfl ?_
        refine j_callS dJx4a65c_grow_92f84_37 kJ7_copyOf_1904c lJx4a65c_66 stJ7_copyOf_1904c (cl_cpBK hl w ρ k (z_nl 0) hρ hf hk (by decide)) (Nat.le_of_ble_eq_true rfl) ⟨(Nat.le_of_ble_eq_true rfl), (by show _ ≤ 2 * M + 10; omega)⟩ rfl (Nat.le_of_ble_eq_true rfl) rfl rfl (fun _ _ h => h.elim) ?_
        rintro _ w3 ⟨m9, g9, rfl, fw3, c1, c2, c3, c4, c5⟩
        have hf3 := fw3.2.1 hf
        have g3_a := c5 a _ ga
        refine j_dup_x1 dJx4a65c_grow_92f84_40 rfl rfl ?_
        refine j_put (w' := _) dJx4a65c_grow_92f84_41 fJx4a65c_9 tJx4a65c_1 g3_a (Or.inr ⟨_, rfl⟩) rfl ?_
        refine j_seal h.1 ?_
        intro w4 u4
        have g4_m2 := (u4.2.1 _ (Ne.symm (c3 a _ ga))).trans c4
        have g4_a := u4.1
        have hf4 := u4.2.2.2 hf3
        refine j_aret dJx4a65c_grow_92f84_44 rfl (Or.inr ⟨_, rfl⟩) rfl ?_ (Nat.le_of_ble_eq_true rfl) (by show _ ≤ 2 * M + 10; omega)
        exact ⟨m9, _, g9, rfl, (fw3.tr (u4.fw h.1 h.2.1)), ⟨c1, c2, Ne.symm (c3 a _ ga), g4_a, g4_m2, Nat.zero_le _, z_nl_le2 (by omega), fun q v hq => by simp at hq⟩, Nat.lt_of_le_of_lt (Nat.zero_le _) (z_nl_lt 0)⟩
set_option maxRecDepth 100000 in
set_option maxHeartbeats 8000000 in
theorem cl_grow (hl : l.stackTraces = false) (w : z_W) (ρ a : Nat) (mo : Int32) (L : List Value) (M : Nat) (h : z_li w ρ a mo L) (hρ : ρ < 64) (hf : z_fn w) (hM : L.length ≤ M) (hM2 : M ≤ 1000) (hel : ∀ v ∈ L, z_el ρ w v) (hfull : ∀ m n f, z_liA w ρ a mo L m n f → n = L.length) : z_Con G l mJx4a65c_grow_d5877 15 1 (2 * M + 10) w [.ref a] (fun v w9 => ∃ (m9 n9 : Nat) (g : Nat → Value), v = some (.ref m9) ∧ z_fw ρ w w9 ∧ z_liA w9 ρ a mo L m9 n9 g ∧ L.length < n9) (fun _ _ => False) := by
  obtain ⟨v0, hv0, ga⟩ := h.cell
  refine z_body hl (by decide) rfl (Nat.le_of_ble_eq_true rfl) ?_
  show z_J G l mJx4a65c_grow_d5877 _ 0 [(0, _)] [] _ 0 0
  refine j_aload_n dJx4a65c_grow_d5877_0 rfl rfl ?_
  refine j_aload_n dJx4a65c_grow_d5877_1 rfl rfl ?_
  refine j_getf dJx4a65c_grow_d5877_2 fJx4a65c_48 ga rfl ?_
  refine j_iconst (v := 1) dJx4a65c_grow_d5877_5 (by decide) ?_
  refine j_iadd dJx4a65c_grow_d5877_6 ?_
  refine j_top (congrArg Value.int (nI_1 L.length)) ?_
  refine j_callV (q := (RJx4a65c, TJx4a65c, 3)) dJx4a65c_grow_d5877_7 kJx4a65c_grow_92f84 lJx4a65c_69 inJx4a65c_grow_92f84 seJx4a65c_grow_92f84 ga rfl (cl_growI hl w ρ a mo L M h hρ hf hM hM2 hel hfull) (Nat.le_of_ble_eq_true rfl) ⟨(Nat.le_of_ble_eq_true rfl), (by show _ ≤ 2 * M + 10; omega)⟩ rfl (Nat.le_of_ble_eq_true rfl) rfl rfl (fun _ _ h => h.elim) ?_
  rintro _ w1 ⟨m9, n9, g9, rfl, fw1, hA9, hl9⟩
  refine j_aret dJx4a65c_grow_d5877_10 rfl (Or.inr ⟨_, rfl⟩) rfl ?_ (Nat.le_of_ble_eq_true rfl) (by show _ ≤ 2 * M + 10; omega)
  exact ⟨m9, n9, g9, rfl, fw1, hA9, hl9⟩
set_option maxRecDepth 100000 in
set_option maxHeartbeats 8000000 in
theorem cl_addA (hl : l.stackTraces = false) (w : z_W) (ρ a : Nat) (mo : Int32) (L : List Value) (M : Nat) (x v0 : Value) (h : z_li w ρ a mo L) (hρ : ρ < 64) (hf : z_fn w) (hM : L.length ≤ M) (hM2 : M ≤ 1000) (hel : ∀ v ∈ L, z_el ρ w v) (hx : z_el ρ w x) (hg : z_g w a = some (.inr (4, [.int mo, v0, .int (nI L.length)]))) (hv0 : z_ir v0 = true) : z_Con G l mJx4a65c_add_72be8 16 1 (2 * M + 10) w [.ref a, x, v0, .int (nI L.length)] (fun v w9 => v = none ∧ z_fw ρ w w9 ∧ z_li w9 ρ a mo (L ++ [x])) (fun _ _ => False) := by
  obtain ⟨C, hC1, hC2⟩ := hx.2
  rcases hx.1 with ⟨bx, rfl⟩ | ⟨rx, rfl, hrx⟩ <;> rcases h.2.2.2 with ⟨m, n, f, hA⟩ | ⟨k, hL, hk, ga⟩
  · obtain ⟨a1, a2, a3, ga, gm, a6, a7, a8⟩ := id hA
    have e9 := (z_inj3 (hg.symm.trans ga)).2.1
    subst e9
    refine z_body hl (by decide) rfl (Nat.le_of_ble_eq_true rfl) ?_
    show z_J G l mJx4a65c_add_72be8 _ 0 [(0, _), (1, _), (2, _), (3, _)] [] _ 0 0
    refine j_iload_n dJx4a65c_add_72be8_0 rfl ?_
    refine j_aload_n dJx4a65c_add_72be8_1 rfl rfl ?_
    refine j_alen dJx4a65c_add_72be8_2 gm rfl rfl ?_
    refine j_icmp_ne (tgt := 11) dJx4a65c_add_72be8_3 (by decide) (fun c_3_5 => ?_) (fun c_3_5 => ?_)
    · have hlt : L.length < n := by rcases Nat.lt_or_eq_of_le a6 with h1 | h1; exact h1; exact absurd (congrArg nI h1) c_3_5
      refine j_aload_n dJx4a65c_add_72be8_11 rfl rfl ?_
      refine j_iload_n dJx4a65c_add_72be8_12 rfl ?_
      refine j_aload_n dJx4a65c_add_72be8_13 rfl hx.ir ?_
      refine j_aastO (w' := _) dJx4a65c_add_72be8_14 gm rfl hC1 hC2 (vp_in_nI (by omega) (by omega)) rfl ?_
      refine j_seal a1 ?_
      intro w1 u1
      have g1_a := (u1.2.1 _ (Ne.symm a3)).trans ga
      have g1_m := u1.1
      have hf1 := u1.2.2.2 hf
      refine j_aload_n dJx4a65c_add_72be8_15 rfl rfl ?_
      refine j_iload_n dJx4a65c_add_72be8_16 rfl ?_
      refine j_iconst (v := 1) dJx4a65c_add_72be8_17 (by decide) ?_
      refine j_iadd dJx4a65c_add_72be8_18 ?_
      refine j_top (congrArg Value.int (nI_1 L.length)) ?_
      refine j_put (w' := _) dJx4a65c_add_72be8_19 fJx4a65c_48 tJx4a65c_2 g1_a ⟨rfl, rfl⟩ rfl ?_
      refine j_seal h.1 ?_
      intro w2 u2
      have g2_m := (u2.2.1 _ a3).trans g1_m
      have g2_a := u2.1
      have hf2 := u2.2.2.2 hf1
      refine j_vret dJx4a65c_add_72be8_22 rfl ?_ (Nat.le_of_ble_eq_true rfl) (by show _ ≤ 2 * M + 10; omega)
      exact ⟨rfl, ((u1.fw a1 a2).tr (u2.fw h.1 h.2.1)), z_li.of h.1 h.2.1 (z_irA h.2.2.1 hx.ir) ⟨a1, a2, a3, by rw [z_lenA]; exact g2_a, g2_m, by rw [z_lenA]; omega, a7, z_conA a7 (by omega) a8⟩⟩
    · have hfl : L.length = n := nI_inj c_3_5 (by omega) (by omega)
      refine j_aload_n dJx4a65c_add_72be8_6 rfl rfl ?_
      refine j_callV (q := (RJx4a65c, TJx4a65c, 3)) dJx4a65c_add_72be8_7 kJx4a65c_grow_d5877 lJx4a65c_129 inJx4a65c_grow_d5877 seJx4a65c_grow_d5877 ga rfl (cl_grow hl w ρ a mo _ M h hρ hf hM hM2 hel (fun m2 n2 f2 h2 => by obtain ⟨-, -, -, h4, h5, -⟩ := h2; have e := (z_inj3 (h4.symm.trans ga)).2.1; cases e; have e5 := h5.symm.trans gm; cases e5; omega)) (Nat.le_of_ble_eq_true rfl) ⟨(Nat.le_of_ble_eq_true rfl), (by show _ ≤ 2 * M + 10; omega)⟩ rfl (Nat.le_of_ble_eq_true rfl) rfl rfl (fun _ _ h => h.elim) ?_
      rintro _ w3 ⟨m9, n9, g9, rfl, fw3, hA9, hl9⟩
      have hf3 := fw3.2.1 hf
      obtain ⟨b1, b2, b3, gb_a, gb_m, b6, b7, b8⟩ := id hA9
      obtain ⟨C9, hD1, hD2⟩ := (hx.m fw3.2.2).2
      refine j_astore_n (lo' := [(2, _), (0, _), (1, _), (3, _)]) dJx4a65c_add_72be8_10 rfl (by decide) rfl ?_
      refine j_aload_n dJx4a65c_add_72be8_11 rfl rfl ?_
      refine j_iload_n dJx4a65c_add_72be8_12 rfl ?_
      refine j_aload_n dJx4a65c_add_72be8_13 rfl hx.ir ?_
      refine j_aastO (w' := _) dJx4a65c_add_72be8_14 gb_m rfl hD1 hD2 (vp_in_nI (by omega) (by omega)) rfl ?_
      refine j_seal b1 ?_
      intro w4 u4
      have g4_a := (u4.2.1 _ (Ne.symm b3)).trans gb_a
      have g4_m2 := u4.1
      have hf4 := u4.2.2.2 hf3
      refine j_aload_n dJx4a65c_add_72be8_15 rfl rfl ?_
      refine j_iload_n dJx4a65c_add_72be8_16 rfl ?_
      refine j_iconst (v := 1) dJx4a65c_add_72be8_17 (by decide) ?_
      refine j_iadd dJx4a65c_add_72be8_18 ?_
      refine j_top (congrArg Value.int (nI_1 L.length)) ?_
      refine j_put (w' := _) dJx4a65c_add_72be8_19 fJx4a65c_48 tJx4a65c_2 g4_a ⟨rfl, rfl⟩ rfl ?_
      refine j_seal h.1 ?_
      intro w5 u5
      have g5_m2 := (u5.2.1 _ b3).trans g4_m2
      have g5_a := u5.1
      have hf5 := u5.2.2.2 hf4
      refine j_vret dJx4a65c_add_72be8_22 rfl ?_ (Nat.le_of_ble_eq_true rfl) (by show _ ≤ 2 * M + 10; omega)
      exact ⟨rfl, ((fw3.tr (u4.fw b1 b2)).tr (u5.fw h.1 h.2.1)), z_li.of h.1 h.2.1 (z_irA h.2.2.1 hx.ir) ⟨b1, b2, b3, by rw [z_lenA]; exact g5_a, g5_m2, by rw [z_lenA]; omega, b7, z_conA b7 hl9 b8⟩⟩
  · subst hL
    have e9 := (z_inj3 (hg.symm.trans ga)).2.1
    subst e9
    refine z_body hl (by decide) rfl (Nat.le_of_ble_eq_true rfl) ?_
    show z_J G l mJx4a65c_add_72be8 _ 0 [(0, _), (1, _), (2, _), (3, _)] [] _ 0 0
    refine j_iload_n dJx4a65c_add_72be8_0 rfl ?_
    refine j_aload_n dJx4a65c_add_72be8_1 rfl rfl ?_
    refine j_alenK (k := k) (N := 0) dJx4a65c_add_72be8_2 (fun U q h hkq => h.2.2.2.1 k q hk hkq) ?_
    refine j_icmp_ne (tgt := 11) dJx4a65c_add_72be8_3 (by decide) (fun c_3_5 => ?_) (fun c_3_5 => ?_)
    · exact absurd rfl c_3_5
    · refine j_aload_n dJx4a65c_add_72be8_6 rfl rfl ?_
      refine j_callV (q := (RJx4a65c, TJx4a65c, 3)) dJx4a65c_add_72be8_7 kJx4a65c_grow_d5877 lJx4a65c_129 inJx4a65c_grow_d5877 seJx4a65c_grow_d5877 ga rfl (cl_grow hl w ρ a mo _ M h hρ hf hM hM2 hel (fun m2 n2 f2 h2 => by obtain ⟨-, -, -, h4, -⟩ := h2; have e := (z_inj3 (h4.symm.trans ga)).2.1; cases e)) (Nat.le_of_ble_eq_true rfl) ⟨(Nat.le_of_ble_eq_true rfl), (by show _ ≤ 2 * M + 10; omega)⟩ rfl (Nat.le_of_ble_eq_true rfl) rfl rfl (fun _ _ h => h.elim) ?_
      rintro _ w1 ⟨m9, n9, g9, rfl, fw1, hA9, hl9⟩
      have hf1 := fw1.2.1 hf
      obtain ⟨b1, b2, b3, gb_a, gb_m, b6, b7, b8⟩ := id hA9
      obtain ⟨C9, hD1, hD2⟩ := (hx.m fw1.2.2).2
      refine j_astore_n (lo' := [(2, _), (0, _), (1, _), (3, _)]) dJx4a65c_add_72be8_10 rfl (by decide) rfl ?_
      refine j_aload_n dJx4a65c_add_72be8_11 rfl rfl ?_
      refine j_iload_n dJx4a65c_add_72be8_12 rfl ?_
      refine j_aload_n dJx4a65c_add_72be8_13 rfl hx.ir ?_
      refine j_aastO (w' := _) dJx4a65c_add_72be8_14 gb_m rfl hD1 hD2 (vp_in_nI (by omega) (by omega)) rfl ?_
      refine j_seal b1 ?_
      intro w2 u2
      have g2_a := (u2.2.1 _ (Ne.symm b3)).trans gb_a
      have g2_m2 := u2.1
      have hf2 := u2.2.2.2 hf1
      refine j_aload_n dJx4a65c_add_72be8_15 rfl rfl ?_
      refine j_iload_n dJx4a65c_add_72be8_16 rfl ?_
      refine j_iconst (v := 1) dJx4a65c_add_72be8_17 (by decide) ?_
      refine j_iadd dJx4a65c_add_72be8_18 ?_
      refine j_top (congrArg Value.int (nI_1 0)) ?_
      refine j_put (w' := _) dJx4a65c_add_72be8_19 fJx4a65c_48 tJx4a65c_2 g2_a ⟨rfl, rfl⟩ rfl ?_
      refine j_seal h.1 ?_
      intro w3 u3
      have g3_m2 := (u3.2.1 _ b3).trans g2_m2
      have g3_a := u3.1
      have hf3 := u3.2.2.2 hf2
      refine j_vret dJx4a65c_add_72be8_22 rfl ?_ (Nat.le_of_ble_eq_true rfl) (by show _ ≤ 2 * M + 10; omega)
      exact ⟨rfl, ((fw1.tr (u2.fw b1 b2)).tr (u3.fw h.1 h.2.1)), z_li.of h.1 h.2.1 (z_irA h.2.2.1 hx.ir) ⟨b1, b2, b3, by rw [z_lenA]; exact g3_a, g3_m2, by rw [z_lenA]; omega, b7, z_conA b7 hl9 b8⟩⟩
  · obtain ⟨a1, a2, a3, ga, gm, a6, a7, a8⟩ := id hA
    have e9 := (z_inj3 (hg.symm.trans ga)).2.1
    subst e9
    refine z_body hl (by decide) rfl (Nat.le_of_ble_eq_true rfl) ?_
    show z_J G l mJx4a65c_add_72be8 _ 0 [(0, _), (1, _), (2, _), (3, _)] [] _ 0 0
    refine j_iload_n dJx4a65c_add_72be8_0 rfl ?_
    refine j_aload_n dJx4a65c_add_72be8_1 rfl rfl ?_
    refine j_alen dJx4a65c_add_72be8_2 gm rfl rfl ?_
    refine j_icmp_ne (tgt := 11) dJx4a65c_add_72be8_3 (by decide) (fun c_3_5 => ?_) (fun c_3_5 => ?_)
    · have hlt : L.length < n := by rcases Nat.lt_or_eq_of_le a6 with h1 | h1; exact h1; exact absurd (congrArg nI h1) c_3_5
      refine j_aload_n dJx4a65c_add_72be8_11 rfl rfl ?_
      refine j_iload_n dJx4a65c_add_72be8_12 rfl ?_
      refine j_aload_n dJx4a65c_add_72be8_13 rfl hx.ir ?_
      refine j_aastO (w' := _) dJx4a65c_add_72be8_14 gm rfl hC1 hC2 (vp_in_nI (by omega) (by omega)) rfl ?_
      refine j_seal a1 ?_
      intro w1 u1
      have g1_a := (u1.2.1 _ (Ne.symm a3)).trans ga
      have g1_m := u1.1
      have hf1 := u1.2.2.2 hf
      refine j_aload_n dJx4a65c_add_72be8_15 rfl rfl ?_
      refine j_iload_n dJx4a65c_add_72be8_16 rfl ?_
      refine j_iconst (v := 1) dJx4a65c_add_72be8_17 (by decide) ?_
      refine j_iadd dJx4a65c_add_72be8_18 ?_
      refine j_top (congrArg Value.int (nI_1 L.length)) ?_
      refine j_put (w' := _) dJx4a65c_add_72be8_19 fJx4a65c_48 tJx4a65c_2 g1_a ⟨rfl, rfl⟩ rfl ?_
      refine j_seal h.1 ?_
      intro w2 u2
      have g2_m := (u2.2.1 _ a3).trans g1_m
      have g2_a := u2.1
      have hf2 := u2.2.2.2 hf1
      refine j_vret dJx4a65c_add_72be8_22 rfl ?_ (Nat.le_of_ble_eq_true rfl) (by show _ ≤ 2 * M + 10; omega)
      exact ⟨rfl, ((u1.fw a1 a2).tr (u2.fw h.1 h.2.1)), z_li.of h.1 h.2.1 (z_irA h.2.2.1 hx.ir) ⟨a1, a2, a3, by rw [z_lenA]; exact g2_a, g2_m, by rw [z_lenA]; omega, a7, z_conA a7 (by omega) a8⟩⟩
    · have hfl : L.length = n := nI_inj c_3_5 (by omega) (by omega)
      refine j_aload_n dJx4a65c_add_72be8_6 rfl rfl ?_
      refine j_callV (q := (RJx4a65c, TJx4a65c, 3)) dJx4a65c_add_72be8_7 kJx4a65c_grow_d5877 lJx4a65c_129 inJx4a65c_grow_d5877 seJx4a65c_grow_d5877 ga rfl (cl_grow hl w ρ a mo _ M h hρ hf hM hM2 hel (fun m2 n2 f2 h2 => by obtain ⟨-, -, -, h4, h5, -⟩ := h2; have e := (z_inj3 (h4.symm.trans ga)).2.1; cases e; have e5 := h5.symm.trans gm; cases e5; omega)) (Nat.le_of_ble_eq_true rfl) ⟨(Nat.le_of_ble_eq_true rfl), (by show _ ≤ 2 * M + 10; omega)⟩ rfl (Nat.le_of_ble_eq_true rfl) rfl rfl (fun _ _ h => h.elim) ?_
      rintro _ w3 ⟨m9, n9, g9, rfl, fw3, hA9, hl9⟩
      have hf3 := fw3.2.1 hf
      obtain ⟨b1, b2, b3, gb_a, gb_m, b6, b7, b8⟩ := id hA9
      obtain ⟨C9, hD1, hD2⟩ := (hx.m fw3.2.2).2
      refine j_astore_n (lo' := [(2, _), (0, _), (1, _), (3, _)]) dJx4a65c_add_72be8_10 rfl (by decide) rfl ?_
      refine j_aload_n dJx4a65c_add_72be8_11 rfl rfl ?_
      refine j_iload_n dJx4a65c_add_72be8_12 rfl ?_
      refine j_aload_n dJx4a65c_add_72be8_13 rfl hx.ir ?_
      refine j_aastO (w' := _) dJx4a65c_add_72be8_14 gb_m rfl hD1 hD2 (vp_in_nI (by omega) (by omega)) rfl ?_
      refine j_seal b1 ?_
      intro w4 u4
      have g4_a := (u4.2.1 _ (Ne.symm b3)).trans gb_a
      have g4_m2 := u4.1
      have hf4 := u4.2.2.2 hf3
      refine j_aload_n dJx4a65c_add_72be8_15 rfl rfl ?_
      refine j_iload_n dJx4a65c_add_72be8_16 rfl ?_
      refine j_iconst (v := 1) dJx4a65c_add_72be8_17 (by decide) ?_
      refine j_iadd dJx4a65c_add_72be8_18 ?_
      refine j_top (congrArg Value.int (nI_1 L.length)) ?_
      refine j_put (w' := _) dJx4a65c_add_72be8_19 fJx4a65c_48 tJx4a65c_2 g4_a ⟨rfl, rfl⟩ rfl ?_
      refine j_seal h.1 ?_
      intro w5 u5
      have g5_m2 := (u5.2.1 _ b3).trans g4_m2
      have g5_a := u5.1
      have hf5 := u5.2.2.2 hf4
      refine j_vret dJx4a65c_add_72be8_22 rfl ?_ (Nat.le_of_ble_eq_true rfl) (by show _ ≤ 2 * M + 10; omega)
      exact ⟨rfl, ((fw3.tr (u4.fw b1 b2)).tr (u5.fw h.1 h.2.1)), z_li.of h.1 h.2.1 (z_irA h.2.2.1 hx.ir) ⟨b1, b2, b3, by rw [z_lenA]; exact g5_a, g5_m2, by rw [z_lenA]; omega, b7, z_conA b7 hl9 b8⟩⟩
  · subst hL
    have e9 := (z_inj3 (hg.symm.trans ga)).2.1
    subst e9
    refine z_body hl (by decide) rfl (Nat.le_of_ble_eq_true rfl) ?_
    show z_J G l mJx4a65c_add_72be8 _ 0 [(0, _), (1, _), (2, _), (3, _)] [] _ 0 0
    refine j_iload_n dJx4a65c_add_72be8_0 rfl ?_
    refine j_aload_n dJx4a65c_add_72be8_1 rfl rfl ?_
    refine j_alenK (k := k) (N := 0) dJx4a65c_add_72be8_2 (fun U q h hkq => h.2.2.2.1 k q hk hkq) ?_
    refine j_icmp_ne (tgt := 11) dJx4a65c_add_72be8_3 (by decide) (fun c_3_5 => ?_) (fun c_3_5 => ?_)
    · exact absurd rfl c_3_5
    · refine j_aload_n dJx4a65c_add_72be8_6 rfl rfl ?_
      refine j_callV (q := (RJx4a65c, TJx4a65c, 3)) dJx4a65c_add_72be8_7 kJx4a65c_grow_d5877 lJx4a65c_129 inJx4a65c_grow_d5877 seJx4a65c_grow_d5877 ga rfl (cl_grow hl w ρ a mo _ M h hρ hf hM hM2 hel (fun m2 n2 f2 h2 => by obtain ⟨-, -, -, h4, -⟩ := h2; have e := (z_inj3 (h4.symm.trans ga)).2.1; cases e)) (Nat.le_of_ble_eq_true rfl) ⟨(Nat.le_of_ble_eq_true rfl), (by show _ ≤ 2 * M + 10; omega)⟩ rfl (Nat.le_of_ble_eq_true rfl) rfl rfl (fun _ _ h => h.elim) ?_
      rintro _ w1 ⟨m9, n9, g9, rfl, fw1, hA9, hl9⟩
      have hf1 := fw1.2.1 hf
      obtain ⟨b1, b2, b3, gb_a, gb_m, b6, b7, b8⟩ := id hA9
      obtain ⟨C9, hD1, hD2⟩ := (hx.m fw1.2.2).2
      refine j_astore_n (lo' := [(2, _), (0, _), (1, _), (3, _)]) dJx4a65c_add_72be8_10 rfl (by decide) rfl ?_
      refine j_aload_n dJx4a65c_add_72be8_11 rfl rfl ?_
      refine j_iload_n dJx4a65c_add_72be8_12 rfl ?_
      refine j_aload_n dJx4a65c_add_72be8_13 rfl hx.ir ?_
      refine j_aastO (w' := _) dJx4a65c_add_72be8_14 gb_m rfl hD1 hD2 (vp_in_nI (by omega) (by omega)) rfl ?_
      refine j_seal b1 ?_
      intro w2 u2
      have g2_a := (u2.2.1 _ (Ne.symm b3)).trans gb_a
      have g2_m2 := u2.1
      have hf2 := u2.2.2.2 hf1
      refine j_aload_n dJx4a65c_add_72be8_15 rfl rfl ?_
      refine j_iload_n dJx4a65c_add_72be8_16 rfl ?_
      refine j_iconst (v := 1) dJx4a65c_add_72be8_17 (by decide) ?_
      refine j_iadd dJx4a65c_add_72be8_18 ?_
      refine j_top (congrArg Value.int (nI_1 0)) ?_
      refine j_put (w' := _) dJx4a65c_add_72be8_19 fJx4a65c_48 tJx4a65c_2 g2_a ⟨rfl, rfl⟩ rfl ?_
      refine j_seal h.1 ?_
      intro w3 u3
      have g3_m2 := (u3.2.1 _ b3).trans g2_m2
      have g3_a := u3.1
      have hf3 := u3.2.2.2 hf2
      refine j_vret dJx4a65c_add_72be8_22 rfl ?_ (Nat.le_of_ble_eq_true rfl) (by show _ ≤ 2 * M + 10; omega)
      exact ⟨rfl, ((fw1.tr (u2.fw b1 b2)).tr (u3.fw h.1 h.2.1)), z_li.of h.1 h.2.1 (z_irA h.2.2.1 hx.ir) ⟨b1, b2, b3, by rw [z_lenA]; exact g3_a, g3_m2, by rw [z_lenA]; omega, b7, z_conA b7 hl9 b8⟩⟩
set_option maxRecDepth 100000 in
set_option maxHeartbeats 8000000 in
theorem cl_add (hl : l.stackTraces = false) (w : z_W) (ρ a : Nat) (mo : Int32) (L : List Value) (M : Nat) (x : Value) (h : z_li w ρ a mo L) (hρ : ρ < 64) (hf : z_fn w) (hM : L.length ≤ M) (hM2 : M ≤ 1000) (hel : ∀ v ∈ L, z_el ρ w v) (hx : z_el ρ w x) : z_Con G l mJx4a65c_add_9ea2d 17 1 (2 * M + 10) w [.ref a, x] (fun v w9 => v = some (.int (Int32.ofInt 1)) ∧ z_fw ρ w w9 ∧ ∃ mo9, z_li w9 ρ a mo9 (L ++ [x])) (fun _ _ => False) := by
  obtain ⟨v0, hv0, ga⟩ := h.cell
  refine z_body hl (by decide) rfl (by show (lg_sl ([.ref a] ++ x :: [])).length ≤ _; rw [z_lgx hx.ir]; exact Nat.le_of_ble_eq_true rfl) ?_
  show z_J G l mJx4a65c_add_9ea2d _ 0 [(0, _), (1, _)] [] _ 0 0
  refine j_aload_n dJx4a65c_add_9ea2d_0 rfl rfl ?_
  refine j_dup dJx4a65c_add_9ea2d_1 rfl ?_
  refine j_getf dJx4a65c_add_9ea2d_2 fJx4a65c_63 ga rfl ?_
  refine j_iconst (v := 1) dJx4a65c_add_9ea2d_5 (by decide) ?_
  refine j_iadd dJx4a65c_add_9ea2d_6 ?_
  refine j_put (w' := _) dJx4a65c_add_9ea2d_7 fJx4a65c_63 tJx4a65c_0 ga ⟨rfl, rfl⟩ rfl ?_
  refine j_seal h.1 ?_
  intro w1 u1
  have g1_a := u1.1
  have hf1 := u1.2.2.2 hf
  have hl1 := h.md ga u1
  refine j_aload_n dJx4a65c_add_9ea2d_10 rfl rfl ?_
  refine j_aload_n dJx4a65c_add_9ea2d_11 rfl hx.ir ?_
  refine j_aload_n dJx4a65c_add_9ea2d_12 rfl rfl ?_
  refine j_getf dJx4a65c_add_9ea2d_13 fJx4a65c_9 g1_a rfl ?_
  refine j_aload_n dJx4a65c_add_9ea2d_16 rfl rfl ?_
  refine j_getf dJx4a65c_add_9ea2d_17 fJx4a65c_48 g1_a rfl ?_
  refine j_callV (q := (RJx4a65c, TJx4a65c, 3)) dJx4a65c_add_9ea2d_20 kJx4a65c_add_72be8 lJx4a65c_131 inJx4a65c_add_72be8 seJx4a65c_add_72be8 g1_a rfl (cl_addA hl w1 ρ a _ L M x v0 hl1 hρ hf1 hM hM2 (z_elM hel (u1.fw h.1 h.2.1)) (hx.m (u1.fw h.1 h.2.1).2.2) g1_a hv0) (Nat.le_of_ble_eq_true rfl) ⟨(Nat.le_of_ble_eq_true rfl), (by show _ ≤ 2 * M + 10; omega)⟩ rfl (Nat.le_of_ble_eq_true rfl) rfl rfl (fun _ _ h => h.elim) ?_
  rintro _ w2 ⟨rfl, fw2, hr2⟩
  have hf2 := fw2.2.1 hf1
  refine j_iconst (v := 1) dJx4a65c_add_9ea2d_23 (by decide) ?_
  refine j_iret dJx4a65c_add_9ea2d_24 rfl rfl ?_ (Nat.le_of_ble_eq_true rfl) (by show _ ≤ 2 * M + 10; omega)
  exact ⟨rfl, ((u1.fw h.1 h.2.1).tr fw2), _, hr2⟩
set_option maxRecDepth 100000 in
set_option maxHeartbeats 8000000 in
theorem cl_fRem (hl : l.stackTraces = false) (w : z_W) (ρ a : Nat) (mo : Int32) (L : List Value) (m n j : Nat) (f : Nat → Value) (h : z_li w ρ a mo L) (hA : z_liA w ρ a mo L m n f) (hjl : j < L.length) (hf : z_fn w) (hel : ∀ v ∈ L, z_el ρ w v) : z_Con G l mJx4a65c_fastRemove_b59b0 12 0 0 w [.ref a, .ref m, .int (nI j)] (fun v w9 => v = none ∧ z_fw ρ w w9 ∧ ∃ mo9, z_li w9 ρ a mo9 (L.eraseIdx j)) (fun _ _ => False) := by
  obtain ⟨a1, a2, a3, ga, gm, a6, a7, a8⟩ := id hA
  have hL1 : nI L.length - Int32.ofInt 1 = nI (L.length - 1) := by rw [nI_o1]; exact pk_sub (by omega)
  refine z_body hl (by decide) rfl (Nat.le_of_ble_eq_true rfl) ?_
  show z_J G l mJx4a65c_fastRemove_b59b0 _ 0 [(0, _), (1, _), (2, _)] [] _ 0 0
  refine j_aload_n dJx4a65c_fastRemove_b59b0_0 rfl rfl ?_
  refine j_dup dJx4a65c_fastRemove_b59b0_1 rfl ?_
  refine j_getf dJx4a65c_fastRemove_b59b0_2 fJx4a65c_63 ga rfl ?_
  refine j_iconst (v := 1) dJx4a65c_fastRemove_b59b0_5 (by decide) ?_
  refine j_iadd dJx4a65c_fastRemove_b59b0_6 ?_
  refine j_put (w' := _) dJx4a65c_fastRemove_b59b0_7 fJx4a65c_63 tJx4a65c_0 ga ⟨rfl, rfl⟩ rfl ?_
  refine j_seal h.1 ?_
  intro w1 u1
  have g1_m := (u1.2.1 _ a3).trans gm
  have g1_a := u1.1
  have hf1 := u1.2.2.2 hf
  refine j_aload_n dJx4a65c_fastRemove_b59b0_10 rfl rfl ?_
  refine j_getf dJx4a65c_fastRemove_b59b0_11 fJx4a65c_48 g1_a rfl ?_
  refine j_iconst (v := 1) dJx4a65c_fastRemove_b59b0_14 (by decide) ?_
  refine j_isub dJx4a65c_fastRemove_b59b0_15 ?_
  refine j_top (congrArg Value.int hL1) ?_
  refine j_dup dJx4a65c_fastRemove_b59b0_16 rfl ?_
  refine j_istore_n (lo' := [(3, _), (0, _), (1, _), (2, _)]) dJx4a65c_fastRemove_b59b0_17 (by decide) rfl ?_
  refine j_iload_n dJx4a65c_fastRemove_b59b0_18 rfl ?_
  refine j_icmp_le (tgt := 34) dJx4a65c_fastRemove_b59b0_19 (by decide) (fun c_19_21 => ?_) (fun c_19_21 => ?_)
  · have hjk : j + 1 = L.length := by have := (nI_leI (a := L.length - 1) (b := j) (by omega) (by omega)).mp c_19_21; omega
    refine j_aload_n dJx4a65c_fastRemove_b59b0_34 rfl rfl ?_
    refine j_aload_n dJx4a65c_fastRemove_b59b0_35 rfl rfl ?_
    refine j_iload_n dJx4a65c_fastRemove_b59b0_36 rfl ?_
    refine j_dup_x1 dJx4a65c_fastRemove_b59b0_37 rfl rfl ?_
    refine j_put (w' := _) dJx4a65c_fastRemove_b59b0_38 fJx4a65c_48 tJx4a65c_2 g1_a ⟨rfl, rfl⟩ rfl ?_
    refine j_seal h.1 ?_
    intro w2 u2
    have g2_m := (u2.2.1 _ a3).trans g1_m
    have g2_a := u2.1
    have hf2 := u2.2.2.2 hf1
    refine j_null dJx4a65c_fastRemove_b59b0_41 ?_
    refine j_aastN (w' := _) dJx4a65c_fastRemove_b59b0_42 g2_m rfl (vp_in_nI (by omega) (by omega)) rfl ?_
    refine j_seal a1 ?_
    intro w3 u3
    have g3_a := (u3.2.1 _ (Ne.symm a3)).trans g2_a
    have g3_m := u3.1
    have hf3 := u3.2.2.2 hf2
    refine j_vret dJx4a65c_fastRemove_b59b0_43 rfl ?_ (Nat.le_of_ble_eq_true rfl) (Nat.le_of_ble_eq_true rfl)
    exact ⟨rfl, (((u1.fw h.1 h.2.1).tr (u2.fw h.1 h.2.1)).tr (u3.fw a1 a2)), _, z_li.of h.1 h.2.1 (z_irR h.2.2.1) ⟨a1, a2, a3, by rw [z_lenR hjl]; exact g3_a, g3_m, by rw [z_lenR hjl]; omega, a7, z_conR2 a7 (by omega) a6 a8⟩⟩
  · refine j_aload_n dJx4a65c_fastRemove_b59b0_22 rfl rfl ?_
    refine j_iload_n dJx4a65c_fastRemove_b59b0_23 rfl ?_
    refine j_iconst (v := 1) dJx4a65c_fastRemove_b59b0_24 (by decide) ?_
    refine j_iadd dJx4a65c_fastRemove_b59b0_25 ?_
    refine j_top (congrArg Value.int (nI_1 j)) ?_
    refine j_aload_n dJx4a65c_fastRemove_b59b0_26 rfl rfl ?_
    refine j_iload_n dJx4a65c_fastRemove_b59b0_27 rfl ?_
    refine j_iload_n dJx4a65c_fastRemove_b59b0_28 rfl ?_
    refine j_iload_n dJx4a65c_fastRemove_b59b0_29 rfl ?_
    refine j_isub dJx4a65c_fastRemove_b59b0_30 ?_
    refine j_top (congrArg Value.int (pk_sub (a := L.length - 1) (b := j) (by omega))) ?_
    have hjk : j + 1 < L.length := by have h9 : ¬ (L.length - 1 ≤ j) := fun z => c_19_21 ((nI_leI (a := L.length - 1) (b := j) (by omega) (by omega)).mpr z); omega
    have hcp : ∀ i, i < (nI (L.length - 1 - j)).toNatClampNeg → (∃ x, f ((nI (j + 1)).toNatClampNeg + i) = .int x ∧ fits (.object "java/lang/Object") (.int x) = true) ∨ (f ((nI (j + 1)).toNatClampNeg + i) = .null ∧ (FieldType.object "java/lang/Object").isReference = true) ∨ ∃ C E, FieldType.object "java/lang/Object" = .object E ∧ z_is w1 (f ((nI (j + 1)).toNatClampNeg + i)) C ∧ Cond.castable C E ∈ z_nst := fun i hi => by
      rw [z_cla (n := L.length - 1 - j) (by omega)] at hi
      rw [z_cla (n := j + 1) (by omega)]
      rcases z_elK (z_elM hel (u1.fw h.1 h.2.1)) (⟨a1, a2, a3, g1_a, g1_m, a6, a7, a8⟩ : z_liA w1 ρ a _ L m n f) (j := j + 1 + i) (by omega) with h1 | ⟨C, h1, h2⟩
      · exact Or.inr (Or.inl ⟨h1, rfl⟩)
      · exact Or.inr (Or.inr ⟨C, "java/lang/Object", rfl, h1, h2⟩)
    refine j_acopy (w' := _) dJx4a65c_fastRemove_b59b0_31 lJx4a65c_112 ac_n ac_s ac_i g1_m g1_m rfl (nI_pos (by omega)) (nI_pos (by omega)) (nI_pos (by omega)) (by rw [z_cla (n := (j + 1)) (by omega), z_cla (n := (L.length - 1 - j)) (by omega)]; omega) (by rw [z_cla (n := j) (by omega), z_cla (n := (L.length - 1 - j)) (by omega)]; omega) hcp (Nat.le_of_ble_eq_true rfl) (Nat.le_of_ble_eq_true rfl) rfl ?_
    refine j_seal a1 ?_
    intro w4 u4
    have g4_a := (u4.2.1 _ (Ne.symm a3)).trans g1_a
    have g4_m := u4.1
    have hf4 := u4.2.2.2 hf1
    refine j_aload_n dJx4a65c_fastRemove_b59b0_34 rfl rfl ?_
    refine j_aload_n dJx4a65c_fastRemove_b59b0_35 rfl rfl ?_
    refine j_iload_n dJx4a65c_fastRemove_b59b0_36 rfl ?_
    refine j_dup_x1 dJx4a65c_fastRemove_b59b0_37 rfl rfl ?_
    refine j_put (w' := _) dJx4a65c_fastRemove_b59b0_38 fJx4a65c_48 tJx4a65c_2 g4_a ⟨rfl, rfl⟩ rfl ?_
    refine j_seal h.1 ?_
    intro w5 u5
    have g5_m := (u5.2.1 _ a3).trans g4_m
    have g5_a := u5.1
    have hf5 := u5.2.2.2 hf4
    refine j_null dJx4a65c_fastRemove_b59b0_41 ?_
    refine j_aastN (w' := _) dJx4a65c_fastRemove_b59b0_42 g5_m rfl (vp_in_nI (by omega) (by omega)) rfl ?_
    refine j_seal a1 ?_
    intro w6 u6
    have g6_a := (u6.2.1 _ (Ne.symm a3)).trans g5_a
    have g6_m := u6.1
    have hf6 := u6.2.2.2 hf5
    refine j_vret dJx4a65c_fastRemove_b59b0_43 rfl ?_ (Nat.le_of_ble_eq_true rfl) (Nat.le_of_ble_eq_true rfl)
    exact ⟨rfl, ((((u1.fw h.1 h.2.1).tr (u4.fw a1 a2)).tr (u5.fw h.1 h.2.1)).tr (u6.fw a1 a2)), _, z_li.of h.1 h.2.1 (z_irR h.2.2.1) ⟨a1, a2, a3, by rw [z_lenR hjl]; exact g6_a, g6_m, by rw [z_lenR hjl]; omega, a7, z_conR a7 (by omega) a6 a8⟩⟩
set_option maxRecDepth 100000 in
set_option maxHeartbeats 8000000 in
theorem cl_rem (hl : l.stackTraces = false) (w : z_W) (ρ a : Nat) (mo : Int32) (L : List Value) (j : Nat) (v0 : Value) (h : z_li w ρ a mo L) (hj : L[j]? = some v0) (hf : z_fn w) (hel : ∀ v ∈ L, z_el ρ w v) : z_Con G l mJx4a65c_remove_915e3 14 0 0 w [.ref a, .int (nI j)] (fun v w9 => v = some v0 ∧ z_fw ρ w w9 ∧ ∃ mo9, z_li w9 ρ a mo9 (L.eraseIdx j)) (fun _ _ => False) := by
  obtain ⟨m, n, f, hA⟩ := h.one hj
  obtain ⟨a1, a2, a3, ga, gm, a6, a7, a8⟩ := id hA
  have hjl : j < L.length := (List.getElem?_eq_some_iff.mp hj).1
  refine z_body hl (by decide) rfl (Nat.le_of_ble_eq_true rfl) ?_
  show z_J G l mJx4a65c_remove_915e3 _ 0 [(0, _), (1, _)] [] _ 0 0
  refine j_iload_n dJx4a65c_remove_915e3_0 rfl ?_
  refine j_aload_n dJx4a65c_remove_915e3_1 rfl rfl ?_
  refine j_getf dJx4a65c_remove_915e3_2 fJx4a65c_48 ga rfl ?_
  refine j_callS dJx4a65c_remove_915e3_5 kJ15_checkIndex_7cf53 lJx4a65c_118 stJ15_checkIndex_7cf53 (c_J15_checkIndex_7cf53 hl _ _ _ (nI_pos (by omega)) (nI_lt hjl (by omega))) (Nat.le_of_ble_eq_true rfl) ⟨(Nat.le_of_ble_eq_true rfl), (Nat.le_of_ble_eq_true rfl)⟩ rfl (Nat.le_of_ble_eq_true rfl) rfl rfl (fun _ _ h => h.elim) ?_
  rintro _ _ ⟨rfl, hw10⟩
  refine j_w w hw10 ?_
  refine j_pop dJx4a65c_remove_915e3_8 rfl ?_
  refine j_aload_n dJx4a65c_remove_915e3_9 rfl rfl ?_
  refine j_getf dJx4a65c_remove_915e3_10 fJx4a65c_9 ga rfl ?_
  refine j_astore_n (lo' := [(2, _), (0, _), (1, _)]) dJx4a65c_remove_915e3_13 rfl (by decide) rfl ?_
  refine j_aload_n dJx4a65c_remove_915e3_14 rfl rfl ?_
  refine j_iload_n dJx4a65c_remove_915e3_15 rfl ?_
  refine j_aald dJx4a65c_remove_915e3_16 gm rfl rfl (vp_in_nI (by omega) (by omega)) (show f (nI j).toNatClampNeg = v0 by rw [z_cla (by omega)]; exact a8 j v0 hj) ?_
  refine j_astore_n (lo' := [(3, _), (2, _), (0, _), (1, _)]) dJx4a65c_remove_915e3_17 (h.ir hj) (by decide) rfl ?_
  refine j_aload_n dJx4a65c_remove_915e3_18 rfl rfl ?_
  refine j_aload_n dJx4a65c_remove_915e3_19 rfl rfl ?_
  refine j_iload_n dJx4a65c_remove_915e3_20 rfl ?_
  refine j_callV (q := (RJx4a65c, TJx4a65c, 3)) dJx4a65c_remove_915e3_21 kJx4a65c_fastRemove_b59b0 lJx4a65c_144 inJx4a65c_fastRemove_b59b0 seJx4a65c_fastRemove_b59b0 ga rfl (cl_fRem hl w ρ a mo L m n j f h hA hjl hf hel) (Nat.le_of_ble_eq_true rfl) ⟨(Nat.le_of_ble_eq_true rfl), (Nat.le_of_ble_eq_true rfl)⟩ rfl (Nat.le_of_ble_eq_true rfl) rfl rfl (fun _ _ h => h.elim) ?_
  rintro _ w1 ⟨rfl, fw1, hr1⟩
  refine j_aload_n dJx4a65c_remove_915e3_24 rfl (h.ir hj) ?_
  refine j_aret dJx4a65c_remove_915e3_25 rfl (Or.inl ⟨_, rfl⟩) (h.ir hj) ?_ (Nat.le_of_ble_eq_true rfl) (Nat.le_of_ble_eq_true rfl)
  exact ⟨rfl, fw1, hr1⟩
set_option maxRecDepth 100000 in
set_option maxHeartbeats 8000000 in
theorem cl_rck (hl : l.stackTraces = false) (w : z_W) (ρ a : Nat) (mo : Int32) (L : List Value) (j : Nat) (h : z_li w ρ a mo L) (hj : j ≤ L.length) : z_Con G l mJx4a65c_rangeCheckForAdd_d00df 10 0 0 w [.ref a, .int (nI j)] (fun v w9 => v = none ∧ w9 = w) (fun _ _ => False) := by
  obtain ⟨v0, hv0, ga⟩ := h.cell
  have hlen := h.len
  refine z_body hl (by decide) rfl (Nat.le_of_ble_eq_true rfl) ?_
  show z_J G l mJx4a65c_rangeCheckForAdd_d00df _ 0 [(0, _), (1, _)] [] _ 0 0
  refine j_iload_n dJx4a65c_rangeCheckForAdd_d00df_0 rfl ?_
  refine j_aload_n dJx4a65c_rangeCheckForAdd_d00df_1 rfl rfl ?_
  refine j_getf dJx4a65c_rangeCheckForAdd_d00df_2 fJx4a65c_48 ga rfl ?_
  refine j_icmp_gt (tgt := 12) dJx4a65c_rangeCheckForAdd_d00df_5 (by decide) (fun c_5_5 => ?_) (fun c_5_5 => ?_)
  · exact absurd (show nI L.length < nI j from c_5_5) (Int32.not_lt.mpr ((nI_leI (by omega) (by omega)).mpr hj))
  · refine j_iload_n dJx4a65c_rangeCheckForAdd_d00df_8 rfl ?_
    refine j_if_ge (tgt := 25) dJx4a65c_rangeCheckForAdd_d00df_9 (by decide) (fun c_9_8 => ?_) (fun c_9_8 => ?_)
    · refine j_vret dJx4a65c_rangeCheckForAdd_d00df_25 rfl ?_ (Nat.le_of_ble_eq_true rfl) (Nat.le_of_ble_eq_true rfl)
      exact ⟨rfl, rfl⟩
    · exact absurd (nI_pos' (n := j) (by omega)) c_9_8
set_option maxRecDepth 100000 in
set_option maxHeartbeats 8000000 in
theorem cl_addI (hl : l.stackTraces = false) (w : z_W) (ρ a : Nat) (mo : Int32) (L : List Value) (M : Nat) (j : Nat) (x : Value) (h : z_li w ρ a mo L) (hρ : ρ < 64) (hf : z_fn w) (hM : L.length ≤ M) (hM2 : M ≤ 1000) (hel : ∀ v ∈ L, z_el ρ w v) (hx : z_el ρ w x) (hj : j ≤ L.length) : z_Con G l mJx4a65c_add_7a177 17 1 (2 * M + 10) w [.ref a, .int (nI j), x] (fun v w9 => v = none ∧ z_fw ρ w w9 ∧ ∃ mo9, z_li w9 ρ a mo9 (L.take j ++ x :: L.drop j)) (fun _ _ => False) := by
  rcases hx.1 with ⟨bx, rfl⟩ | ⟨rx, rfl, hrx⟩ <;> rcases h.2.2.2 with ⟨m, n, f, hA⟩ | ⟨k, hL, hk, ga⟩
  · obtain ⟨a1, a2, a3, ga, gm, a6, a7, a8⟩ := id hA
    refine z_body hl (by decide) rfl (Nat.le_of_ble_eq_true rfl) ?_
    show z_J G l mJx4a65c_add_7a177 _ 0 [(0, _), (1, _), (2, _)] [] _ 0 0
    refine j_aload_n dJx4a65c_add_7a177_0 rfl rfl ?_
    refine j_iload_n dJx4a65c_add_7a177_1 rfl ?_
    refine j_callV (q := (RJx4a65c, TJx4a65c, 3)) dJx4a65c_add_7a177_2 kJx4a65c_rangeCheckForAdd_d00df lJx4a65c_135 inJx4a65c_rangeCheckForAdd_d00df seJx4a65c_rangeCheckForAdd_d00df ga rfl (cl_rck hl w _ _ _ _ j h hj) (Nat.le_of_ble_eq_true rfl) ⟨(Nat.le_of_ble_eq_true rfl), (Nat.le_of_ble_eq_true rfl)⟩ rfl (Nat.le_of_ble_eq_true rfl) rfl rfl (fun _ _ h => h.elim) ?_
    rintro _ _ ⟨rfl, hw11⟩
    refine j_w w hw11 ?_
    refine j_aload_n dJx4a65c_add_7a177_5 rfl rfl ?_
    refine j_dup dJx4a65c_add_7a177_6 rfl ?_
    refine j_getf dJx4a65c_add_7a177_7 fJx4a65c_63 ga rfl ?_
    refine j_iconst (v := 1) dJx4a65c_add_7a177_10 (by decide) ?_
    refine j_iadd dJx4a65c_add_7a177_11 ?_
    refine j_put (w' := _) dJx4a65c_add_7a177_12 fJx4a65c_63 tJx4a65c_0 ga ⟨rfl, rfl⟩ rfl ?_
    refine j_seal h.1 ?_
    intro w1 u1
    have g1_m := (u1.2.1 _ a3).trans gm
    have g1_a := u1.1
    have hf1 := u1.2.2.2 hf
    have hl1 := h.md ga u1
    refine j_aload_n dJx4a65c_add_7a177_15 rfl rfl ?_
    refine j_getf dJx4a65c_add_7a177_16 fJx4a65c_48 g1_a rfl ?_
    refine j_dup dJx4a65c_add_7a177_19 rfl ?_
    refine j_istore_n (lo' := [(3, _), (0, _), (1, _), (2, _)]) dJx4a65c_add_7a177_20 (by decide) rfl ?_
    refine j_aload_n dJx4a65c_add_7a177_21 rfl rfl ?_
    refine j_getf dJx4a65c_add_7a177_22 fJx4a65c_9 g1_a rfl ?_
    refine j_dup dJx4a65c_add_7a177_25 rfl ?_
    refine j_astore (lo' := [(4, _), (3, _), (0, _), (1, _), (2, _)]) dJx4a65c_add_7a177_26 rfl (by decide) rfl ?_
    refine j_alen dJx4a65c_add_7a177_28 g1_m rfl rfl ?_
    refine j_icmp_ne (tgt := 38) dJx4a65c_add_7a177_29 (by decide) (fun c_29_28 => ?_) (fun c_29_28 => ?_)
    · have hlt : L.length < n := by rcases Nat.lt_or_eq_of_le a6 with h1 | h1; exact h1; exact absurd (congrArg nI h1) c_29_28
      refine j_aload dJx4a65c_add_7a177_38 rfl rfl ?_
      refine j_iload_n dJx4a65c_add_7a177_40 rfl ?_
      refine j_aload dJx4a65c_add_7a177_41 rfl rfl ?_
      refine j_iload_n dJx4a65c_add_7a177_43 rfl ?_
      refine j_iconst (v := 1) dJx4a65c_add_7a177_44 (by decide) ?_
      refine j_iadd dJx4a65c_add_7a177_45 ?_
      refine j_top (congrArg Value.int (nI_1 j)) ?_
      refine j_iload_n dJx4a65c_add_7a177_46 rfl ?_
      refine j_iload_n dJx4a65c_add_7a177_47 rfl ?_
      refine j_isub dJx4a65c_add_7a177_48 ?_
      refine j_top (congrArg Value.int (pk_sub (a := L.length) (b := j) hj)) ?_
      have hcp : ∀ i, i < (nI (L.length - j)).toNatClampNeg → (∃ x, f ((nI (j)).toNatClampNeg + i) = .int x ∧ fits (.object "java/lang/Object") (.int x) = true) ∨ (f ((nI (j)).toNatClampNeg + i) = .null ∧ (FieldType.object "java/lang/Object").isReference = true) ∨ ∃ C E, FieldType.object "java/lang/Object" = .object E ∧ z_is w1 (f ((nI (j)).toNatClampNeg + i)) C ∧ Cond.castable C E ∈ z_nst := fun i hi => by
        rw [z_cla (n := L.length - j) (by omega)] at hi
        rw [z_cla (n := j) (by omega)]
        rcases z_elK (z_elM hel (u1.fw h.1 h.2.1)) (⟨a1, a2, a3, g1_a, g1_m, a6, a7, a8⟩ : z_liA w1 ρ a _ L m n f) (j := j + i) (by omega) with h1 | ⟨C, h1, h2⟩
        · exact Or.inr (Or.inl ⟨h1, rfl⟩)
        · exact Or.inr (Or.inr ⟨C, "java/lang/Object", rfl, h1, h2⟩)
      refine j_acopy (w' := _) dJx4a65c_add_7a177_49 lJx4a65c_112 ac_n ac_s ac_i g1_m g1_m rfl (nI_pos (by omega)) (nI_pos (by omega)) (nI_pos (by omega)) (by rw [z_cla (n := j) (by omega), z_cla (n := (L.length - j)) (by omega)]; omega) (by rw [z_cla (n := (j + 1)) (by omega), z_cla (n := (L.length - j)) (by omega)]; omega) hcp (Nat.le_of_ble_eq_true rfl) (Nat.le_of_ble_eq_true rfl) rfl ?_
      refine j_seal a1 ?_
      intro w2 u2
      have g2_a := (u2.2.1 _ (Ne.symm a3)).trans g1_a
      have g2_m := u2.1
      have hf2 := u2.2.2.2 hf1
      refine j_aload dJx4a65c_add_7a177_52 rfl rfl ?_
      refine j_iload_n dJx4a65c_add_7a177_54 rfl ?_
      refine j_aload_n dJx4a65c_add_7a177_55 rfl hx.ir ?_
      obtain ⟨C9, hD1, hD2⟩ := (hx.m ((u1.fw h.1 h.2.1).tr (u2.fw a1 a2)).2.2).2
      refine j_aastO (w' := _) dJx4a65c_add_7a177_56 g2_m rfl hD1 hD2 (vp_in_nI (by omega) (by omega)) rfl ?_
      refine j_seal a1 ?_
      intro w3 u3
      have g3_a := (u3.2.1 _ (Ne.symm a3)).trans g2_a
      have g3_m := u3.1
      have hf3 := u3.2.2.2 hf2
      refine j_aload_n dJx4a65c_add_7a177_57 rfl rfl ?_
      refine j_iload_n dJx4a65c_add_7a177_58 rfl ?_
      refine j_iconst (v := 1) dJx4a65c_add_7a177_59 (by decide) ?_
      refine j_iadd dJx4a65c_add_7a177_60 ?_
      refine j_top (congrArg Value.int (nI_1 L.length)) ?_
      refine j_put (w' := _) dJx4a65c_add_7a177_61 fJx4a65c_48 tJx4a65c_2 g3_a ⟨rfl, rfl⟩ rfl ?_
      refine j_seal h.1 ?_
      intro w4 u4
      have g4_m := (u4.2.1 _ a3).trans g3_m
      have g4_a := u4.1
      have hf4 := u4.2.2.2 hf3
      refine j_vret dJx4a65c_add_7a177_64 rfl ?_ (Nat.le_of_ble_eq_true rfl) (by show _ ≤ 2 * M + 10; omega)
      exact ⟨rfl, ((((u1.fw h.1 h.2.1).tr (u2.fw a1 a2)).tr (u3.fw a1 a2)).tr (u4.fw h.1 h.2.1)), _, z_li.of h.1 h.2.1 (z_irI h.2.2.1 hx.ir) ⟨a1, a2, a3, by rw [z_lenI hj]; exact g4_a, g4_m, by rw [z_lenI hj]; omega, a7, z_conI a7 hj (by omega) a8⟩⟩
    · have hfl : L.length = n := nI_inj c_29_28 (by omega) (by omega)
      refine j_aload_n dJx4a65c_add_7a177_32 rfl rfl ?_
      refine j_callV (q := (RJx4a65c, TJx4a65c, 3)) dJx4a65c_add_7a177_33 kJx4a65c_grow_d5877 lJx4a65c_129 inJx4a65c_grow_d5877 seJx4a65c_grow_d5877 g1_a rfl (cl_grow hl w1 ρ a _ _ M hl1 hρ hf1 hM hM2 (z_elM hel (u1.fw h.1 h.2.1)) (fun m2 n2 f2 h2 => by obtain ⟨-, -, -, h4, h5, -⟩ := h2; have e := (z_inj3 (h4.symm.trans g1_a)).2.1; cases e; have e5 := h5.symm.trans g1_m; cases e5; omega)) (Nat.le_of_ble_eq_true rfl) ⟨(Nat.le_of_ble_eq_true rfl), (by show _ ≤ 2 * M + 10; omega)⟩ rfl (Nat.le_of_ble_eq_true rfl) rfl rfl (fun _ _ h => h.elim) ?_
      rintro _ w5 ⟨m9, n9, f9, rfl, fw5, hA9, hl9⟩
      have hf5 := fw5.2.1 hf1
      obtain ⟨b1, b2, b3, gb_a, gb_m, b6, b7, b8⟩ := id hA9
      refine j_astore (lo' := [(4, _), (3, _), (0, _), (1, _), (2, _)]) dJx4a65c_add_7a177_36 rfl (by decide) rfl ?_
      refine j_aload dJx4a65c_add_7a177_38 rfl rfl ?_
      refine j_iload_n dJx4a65c_add_7a177_40 rfl ?_
      refine j_aload dJx4a65c_add_7a177_41 rfl rfl ?_
      refine j_iload_n dJx4a65c_add_7a177_43 rfl ?_
      refine j_iconst (v := 1) dJx4a65c_add_7a177_44 (by decide) ?_
      refine j_iadd dJx4a65c_add_7a177_45 ?_
      refine j_top (congrArg Value.int (nI_1 j)) ?_
      refine j_iload_n dJx4a65c_add_7a177_46 rfl ?_
      refine j_iload_n dJx4a65c_add_7a177_47 rfl ?_
      refine j_isub dJx4a65c_add_7a177_48 ?_
      refine j_top (congrArg Value.int (pk_sub (a := L.length) (b := j) hj)) ?_
      have hcp : ∀ i, i < (nI (L.length - j)).toNatClampNeg → (∃ x, f9 ((nI (j)).toNatClampNeg + i) = .int x ∧ fits (.object "java/lang/Object") (.int x) = true) ∨ (f9 ((nI (j)).toNatClampNeg + i) = .null ∧ (FieldType.object "java/lang/Object").isReference = true) ∨ ∃ C E, FieldType.object "java/lang/Object" = .object E ∧ z_is w5 (f9 ((nI (j)).toNatClampNeg + i)) C ∧ Cond.castable C E ∈ z_nst := fun i hi => by
        rw [z_cla (n := L.length - j) (by omega)] at hi
        rw [z_cla (n := j) (by omega)]
        rcases z_elK (z_elM hel ((u1.fw h.1 h.2.1).tr fw5)) hA9 (j := j + i) (by omega) with h1 | ⟨C, h1, h2⟩
        · exact Or.inr (Or.inl ⟨h1, rfl⟩)
        · exact Or.inr (Or.inr ⟨C, "java/lang/Object", rfl, h1, h2⟩)
      refine j_acopy (w' := _) dJx4a65c_add_7a177_49 lJx4a65c_112 ac_n ac_s ac_i gb_m gb_m rfl (nI_pos (by omega)) (nI_pos (by omega)) (nI_pos (by omega)) (by rw [z_cla (n := j) (by omega), z_cla (n := (L.length - j)) (by omega)]; omega) (by rw [z_cla (n := (j + 1)) (by omega), z_cla (n := (L.length - j)) (by omega)]; omega) hcp (Nat.le_of_ble_eq_true rfl) (Nat.le_of_ble_eq_true rfl) rfl ?_
      refine j_seal b1 ?_
      intro w6 u6
      have g6_a := (u6.2.1 _ (Ne.symm b3)).trans gb_a
      have g6_m := u6.1
      have hf6 := u6.2.2.2 hf5
      refine j_aload dJx4a65c_add_7a177_52 rfl rfl ?_
      refine j_iload_n dJx4a65c_add_7a177_54 rfl ?_
      refine j_aload_n dJx4a65c_add_7a177_55 rfl hx.ir ?_
      obtain ⟨C9, hD1, hD2⟩ := (hx.m (((u1.fw h.1 h.2.1).tr fw5).tr (u6.fw b1 b2)).2.2).2
      refine j_aastO (w' := _) dJx4a65c_add_7a177_56 g6_m rfl hD1 hD2 (vp_in_nI (by omega) (by omega)) rfl ?_
      refine j_seal b1 ?_
      intro w7 u7
      have g7_a := (u7.2.1 _ (Ne.symm b3)).trans g6_a
      have g7_m := u7.1
      have hf7 := u7.2.2.2 hf6
      refine j_aload_n dJx4a65c_add_7a177_57 rfl rfl ?_
      refine j_iload_n dJx4a65c_add_7a177_58 rfl ?_
      refine j_iconst (v := 1) dJx4a65c_add_7a177_59 (by decide) ?_
      refine j_iadd dJx4a65c_add_7a177_60 ?_
      refine j_top (congrArg Value.int (nI_1 L.length)) ?_
      refine j_put (w' := _) dJx4a65c_add_7a177_61 fJx4a65c_48 tJx4a65c_2 g7_a ⟨rfl, rfl⟩ rfl ?_
      refine j_seal h.1 ?_
      intro w8 u8
      have g8_m := (u8.2.1 _ b3).trans g7_m
      have g8_a := u8.1
      have hf8 := u8.2.2.2 hf7
      refine j_vret dJx4a65c_add_7a177_64 rfl ?_ (Nat.le_of_ble_eq_true rfl) (by show _ ≤ 2 * M + 10; omega)
      exact ⟨rfl, (((((u1.fw h.1 h.2.1).tr fw5).tr (u6.fw b1 b2)).tr (u7.fw b1 b2)).tr (u8.fw h.1 h.2.1)), _, z_li.of h.1 h.2.1 (z_irI h.2.2.1 hx.ir) ⟨b1, b2, b3, by rw [z_lenI hj]; exact g8_a, g8_m, by rw [z_lenI hj]; omega, b7, z_conI b7 hj hl9 b8⟩⟩
  · subst hL
    refine z_body hl (by decide) rfl (Nat.le_of_ble_eq_true rfl) ?_
    show z_J G l mJx4a65c_add_7a177 _ 0 [(0, _), (1, _), (2, _)] [] _ 0 0
    refine j_aload_n dJx4a65c_add_7a177_0 rfl rfl ?_
    refine j_iload_n dJx4a65c_add_7a177_1 rfl ?_
    refine j_callV (q := (RJx4a65c, TJx4a65c, 3)) dJx4a65c_add_7a177_2 kJx4a65c_rangeCheckForAdd_d00df lJx4a65c_135 inJx4a65c_rangeCheckForAdd_d00df seJx4a65c_rangeCheckForAdd_d00df ga rfl (cl_rck hl w _ _ _ _ j h hj) (Nat.le_of_ble_eq_true rfl) ⟨(Nat.le_of_ble_eq_true rfl), (Nat.le_of_ble_eq_true rfl)⟩ rfl (Nat.le_of_ble_eq_true rfl) rfl rfl (fun _ _ h => h.elim) ?_
    rintro _ _ ⟨rfl, hw12⟩
    refine j_w w hw12 ?_
    refine j_aload_n dJx4a65c_add_7a177_5 rfl rfl ?_
    refine j_dup dJx4a65c_add_7a177_6 rfl ?_
    refine j_getf dJx4a65c_add_7a177_7 fJx4a65c_63 ga rfl ?_
    refine j_iconst (v := 1) dJx4a65c_add_7a177_10 (by decide) ?_
    refine j_iadd dJx4a65c_add_7a177_11 ?_
    refine j_put (w' := _) dJx4a65c_add_7a177_12 fJx4a65c_63 tJx4a65c_0 ga ⟨rfl, rfl⟩ rfl ?_
    refine j_seal h.1 ?_
    intro w1 u1
    have g1_a := u1.1
    have hf1 := u1.2.2.2 hf
    have hl1 := h.md ga u1
    refine j_aload_n dJx4a65c_add_7a177_15 rfl rfl ?_
    refine j_getf dJx4a65c_add_7a177_16 fJx4a65c_48 g1_a rfl ?_
    refine j_dup dJx4a65c_add_7a177_19 rfl ?_
    refine j_istore_n (lo' := [(3, _), (0, _), (1, _), (2, _)]) dJx4a65c_add_7a177_20 (by decide) rfl ?_
    refine j_aload_n dJx4a65c_add_7a177_21 rfl rfl ?_
    refine j_getf dJx4a65c_add_7a177_22 fJx4a65c_9 g1_a rfl ?_
    refine j_dup dJx4a65c_add_7a177_25 rfl ?_
    refine j_astore (lo' := [(4, _), (3, _), (0, _), (1, _), (2, _)]) dJx4a65c_add_7a177_26 rfl (by decide) rfl ?_
    refine j_alenK (k := k) (N := 0) dJx4a65c_add_7a177_28 (fun U q h hkq => h.2.2.2.1 k q hk hkq) ?_
    refine j_icmp_ne (tgt := 38) dJx4a65c_add_7a177_29 (by decide) (fun c_29_27 => ?_) (fun c_29_27 => ?_)
    · exact absurd rfl c_29_27
    · refine j_aload_n dJx4a65c_add_7a177_32 rfl rfl ?_
      refine j_callV (q := (RJx4a65c, TJx4a65c, 3)) dJx4a65c_add_7a177_33 kJx4a65c_grow_d5877 lJx4a65c_129 inJx4a65c_grow_d5877 seJx4a65c_grow_d5877 g1_a rfl (cl_grow hl w1 ρ a _ _ M hl1 hρ hf1 hM hM2 (z_elM hel (u1.fw h.1 h.2.1)) (fun m2 n2 f2 h2 => by obtain ⟨-, -, -, h4, -⟩ := h2; have e := (z_inj3 (h4.symm.trans g1_a)).2.1; cases e)) (Nat.le_of_ble_eq_true rfl) ⟨(Nat.le_of_ble_eq_true rfl), (by show _ ≤ 2 * M + 10; omega)⟩ rfl (Nat.le_of_ble_eq_true rfl) rfl rfl (fun _ _ h => h.elim) ?_
      rintro _ w2 ⟨m9, n9, f9, rfl, fw2, hA9, hl9⟩
      have hf2 := fw2.2.1 hf1
      obtain ⟨b1, b2, b3, gb_a, gb_m, b6, b7, b8⟩ := id hA9
      refine j_astore (lo' := [(4, _), (3, _), (0, _), (1, _), (2, _)]) dJx4a65c_add_7a177_36 rfl (by decide) rfl ?_
      refine j_aload dJx4a65c_add_7a177_38 rfl rfl ?_
      refine j_iload_n dJx4a65c_add_7a177_40 rfl ?_
      refine j_aload dJx4a65c_add_7a177_41 rfl rfl ?_
      refine j_iload_n dJx4a65c_add_7a177_43 rfl ?_
      refine j_iconst (v := 1) dJx4a65c_add_7a177_44 (by decide) ?_
      refine j_iadd dJx4a65c_add_7a177_45 ?_
      refine j_top (congrArg Value.int (nI_1 j)) ?_
      refine j_iload_n dJx4a65c_add_7a177_46 rfl ?_
      refine j_iload_n dJx4a65c_add_7a177_47 rfl ?_
      refine j_isub dJx4a65c_add_7a177_48 ?_
      refine j_top (congrArg Value.int (pk_sub (a := ([] : List Value).length) (b := j) hj)) ?_
      have hcp : ∀ i, i < (nI (([] : List Value).length - j)).toNatClampNeg → (∃ x, f9 ((nI (j)).toNatClampNeg + i) = .int x ∧ fits (.object "java/lang/Object") (.int x) = true) ∨ (f9 ((nI (j)).toNatClampNeg + i) = .null ∧ (FieldType.object "java/lang/Object").isReference = true) ∨ ∃ C E, FieldType.object "java/lang/Object" = .object E ∧ z_is w2 (f9 ((nI (j)).toNatClampNeg + i)) C ∧ Cond.castable C E ∈ z_nst := fun i hi => by
        rw [z_cla (n := ([] : List Value).length - j) (by omega)] at hi
        rw [z_cla (n := j) (by omega)]
        rcases z_elK (z_elM hel ((u1.fw h.1 h.2.1).tr fw2)) hA9 (j := j + i) (by omega) with h1 | ⟨C, h1, h2⟩
        · exact Or.inr (Or.inl ⟨h1, rfl⟩)
        · exact Or.inr (Or.inr ⟨C, "java/lang/Object", rfl, h1, h2⟩)
      refine j_acopy (w' := _) dJx4a65c_add_7a177_49 lJx4a65c_112 ac_n ac_s ac_i gb_m gb_m rfl (nI_pos (by omega)) (nI_pos (by omega)) (nI_pos (by omega)) (by rw [z_cla (n := j) (by omega), z_cla (n := (([] : List Value).length - j)) (by omega)]; omega) (by rw [z_cla (n := (j + 1)) (by omega), z_cla (n := (([] : List Value).length - j)) (by omega)]; omega) hcp (Nat.le_of_ble_eq_true rfl) (Nat.le_of_ble_eq_true rfl) rfl ?_
      refine j_seal b1 ?_
      intro w3 u3
      have g3_a := (u3.2.1 _ (Ne.symm b3)).trans gb_a
      have g3_m := u3.1
      have hf3 := u3.2.2.2 hf2
      refine j_aload dJx4a65c_add_7a177_52 rfl rfl ?_
      refine j_iload_n dJx4a65c_add_7a177_54 rfl ?_
      refine j_aload_n dJx4a65c_add_7a177_55 rfl hx.ir ?_
      obtain ⟨C9, hD1, hD2⟩ := (hx.m (((u1.fw h.1 h.2.1).tr fw2).tr (u3.fw b1 b2)).2.2).2
      refine j_aastO (w' := _) dJx4a65c_add_7a177_56 g3_m rfl hD1 hD2 (vp_in_nI (by omega) (by omega)) rfl ?_
      refine j_seal b1 ?_
      intro w4 u4
      have g4_a := (u4.2.1 _ (Ne.symm b3)).trans g3_a
      have g4_m := u4.1
      have hf4 := u4.2.2.2 hf3
      refine j_aload_n dJx4a65c_add_7a177_57 rfl rfl ?_
      refine j_iload_n dJx4a65c_add_7a177_58 rfl ?_
      refine j_iconst (v := 1) dJx4a65c_add_7a177_59 (by decide) ?_
      refine j_iadd dJx4a65c_add_7a177_60 ?_
      refine j_top (congrArg Value.int (nI_1 0)) ?_
      refine j_put (w' := _) dJx4a65c_add_7a177_61 fJx4a65c_48 tJx4a65c_2 g4_a ⟨rfl, rfl⟩ rfl ?_
      refine j_seal h.1 ?_
      intro w5 u5
      have g5_m := (u5.2.1 _ b3).trans g4_m
      have g5_a := u5.1
      have hf5 := u5.2.2.2 hf4
      refine j_vret dJx4a65c_add_7a177_64 rfl ?_ (Nat.le_of_ble_eq_true rfl) (by show _ ≤ 2 * M + 10; omega)
      exact ⟨rfl, (((((u1.fw h.1 h.2.1).tr fw2).tr (u3.fw b1 b2)).tr (u4.fw b1 b2)).tr (u5.fw h.1 h.2.1)), _, z_li.of h.1 h.2.1 (z_irI h.2.2.1 hx.ir) ⟨b1, b2, b3, by rw [z_lenI hj]; exact g5_a, g5_m, by rw [z_lenI hj]; omega, b7, z_conI b7 hj hl9 b8⟩⟩
  · obtain ⟨a1, a2, a3, ga, gm, a6, a7, a8⟩ := id hA
    refine z_body hl (by decide) rfl (Nat.le_of_ble_eq_true rfl) ?_
    show z_J G l mJx4a65c_add_7a177 _ 0 [(0, _), (1, _), (2, _)] [] _ 0 0
    refine j_aload_n dJx4a65c_add_7a177_0 rfl rfl ?_
    refine j_iload_n dJx4a65c_add_7a177_1 rfl ?_
    refine j_callV (q := (RJx4a65c, TJx4a65c, 3)) dJx4a65c_add_7a177_2 kJx4a65c_rangeCheckForAdd_d00df lJx4a65c_135 inJx4a65c_rangeCheckForAdd_d00df seJx4a65c_rangeCheckForAdd_d00df ga rfl (cl_rck hl w _ _ _ _ j h hj) (Nat.le_of_ble_eq_true rfl) ⟨(Nat.le_of_ble_eq_true rfl), (Nat.le_of_ble_eq_true rfl)⟩ rfl (Nat.le_of_ble_eq_true rfl) rfl rfl (fun _ _ h => h.elim) ?_
    rintro _ _ ⟨rfl, hw13⟩
    refine j_w w hw13 ?_
    refine j_aload_n dJx4a65c_add_7a177_5 rfl rfl ?_
    refine j_dup dJx4a65c_add_7a177_6 rfl ?_
    refine j_getf dJx4a65c_add_7a177_7 fJx4a65c_63 ga rfl ?_
    refine j_iconst (v := 1) dJx4a65c_add_7a177_10 (by decide) ?_
    refine j_iadd dJx4a65c_add_7a177_11 ?_
    refine j_put (w' := _) dJx4a65c_add_7a177_12 fJx4a65c_63 tJx4a65c_0 ga ⟨rfl, rfl⟩ rfl ?_
    refine j_seal h.1 ?_
    intro w1 u1
    have g1_m := (u1.2.1 _ a3).trans gm
    have g1_a := u1.1
    have hf1 := u1.2.2.2 hf
    have hl1 := h.md ga u1
    refine j_aload_n dJx4a65c_add_7a177_15 rfl rfl ?_
    refine j_getf dJx4a65c_add_7a177_16 fJx4a65c_48 g1_a rfl ?_
    refine j_dup dJx4a65c_add_7a177_19 rfl ?_
    refine j_istore_n (lo' := [(3, _), (0, _), (1, _), (2, _)]) dJx4a65c_add_7a177_20 (by decide) rfl ?_
    refine j_aload_n dJx4a65c_add_7a177_21 rfl rfl ?_
    refine j_getf dJx4a65c_add_7a177_22 fJx4a65c_9 g1_a rfl ?_
    refine j_dup dJx4a65c_add_7a177_25 rfl ?_
    refine j_astore (lo' := [(4, _), (3, _), (0, _), (1, _), (2, _)]) dJx4a65c_add_7a177_26 rfl (by decide) rfl ?_
    refine j_alen dJx4a65c_add_7a177_28 g1_m rfl rfl ?_
    refine j_icmp_ne (tgt := 38) dJx4a65c_add_7a177_29 (by decide) (fun c_29_28 => ?_) (fun c_29_28 => ?_)
    · have hlt : L.length < n := by rcases Nat.lt_or_eq_of_le a6 with h1 | h1; exact h1; exact absurd (congrArg nI h1) c_29_28
      refine j_aload dJx4a65c_add_7a177_38 rfl rfl ?_
      refine j_iload_n dJx4a65c_add_7a177_40 rfl ?_
      refine j_aload dJx4a65c_add_7a177_41 rfl rfl ?_
      refine j_iload_n dJx4a65c_add_7a177_43 rfl ?_
      refine j_iconst (v := 1) dJx4a65c_add_7a177_44 (by decide) ?_
      refine j_iadd dJx4a65c_add_7a177_45 ?_
      refine j_top (congrArg Value.int (nI_1 j)) ?_
      refine j_iload_n dJx4a65c_add_7a177_46 rfl ?_
      refine j_iload_n dJx4a65c_add_7a177_47 rfl ?_
      refine j_isub dJx4a65c_add_7a177_48 ?_
      refine j_top (congrArg Value.int (pk_sub (a := L.length) (b := j) hj)) ?_
      have hcp : ∀ i, i < (nI (L.length - j)).toNatClampNeg → (∃ x, f ((nI (j)).toNatClampNeg + i) = .int x ∧ fits (.object "java/lang/Object") (.int x) = true) ∨ (f ((nI (j)).toNatClampNeg + i) = .null ∧ (FieldType.object "java/lang/Object").isReference = true) ∨ ∃ C E, FieldType.object "java/lang/Object" = .object E ∧ z_is w1 (f ((nI (j)).toNatClampNeg + i)) C ∧ Cond.castable C E ∈ z_nst := fun i hi => by
        rw [z_cla (n := L.length - j) (by omega)] at hi
        rw [z_cla (n := j) (by omega)]
        rcases z_elK (z_elM hel (u1.fw h.1 h.2.1)) (⟨a1, a2, a3, g1_a, g1_m, a6, a7, a8⟩ : z_liA w1 ρ a _ L m n f) (j := j + i) (by omega) with h1 | ⟨C, h1, h2⟩
        · exact Or.inr (Or.inl ⟨h1, rfl⟩)
        · exact Or.inr (Or.inr ⟨C, "java/lang/Object", rfl, h1, h2⟩)
      refine j_acopy (w' := _) dJx4a65c_add_7a177_49 lJx4a65c_112 ac_n ac_s ac_i g1_m g1_m rfl (nI_pos (by omega)) (nI_pos (by omega)) (nI_pos (by omega)) (by rw [z_cla (n := j) (by omega), z_cla (n := (L.length - j)) (by omega)]; omega) (by rw [z_cla (n := (j + 1)) (by omega), z_cla (n := (L.length - j)) (by omega)]; omega) hcp (Nat.le_of_ble_eq_true rfl) (Nat.le_of_ble_eq_true rfl) rfl ?_
      refine j_seal a1 ?_
      intro w2 u2
      have g2_a := (u2.2.1 _ (Ne.symm a3)).trans g1_a
      have g2_m := u2.1
      have hf2 := u2.2.2.2 hf1
      refine j_aload dJx4a65c_add_7a177_52 rfl rfl ?_
      refine j_iload_n dJx4a65c_add_7a177_54 rfl ?_
      refine j_aload_n dJx4a65c_add_7a177_55 rfl hx.ir ?_
      obtain ⟨C9, hD1, hD2⟩ := (hx.m ((u1.fw h.1 h.2.1).tr (u2.fw a1 a2)).2.2).2
      refine j_aastO (w' := _) dJx4a65c_add_7a177_56 g2_m rfl hD1 hD2 (vp_in_nI (by omega) (by omega)) rfl ?_
      refine j_seal a1 ?_
      intro w3 u3
      have g3_a := (u3.2.1 _ (Ne.symm a3)).trans g2_a
      have g3_m := u3.1
      have hf3 := u3.2.2.2 hf2
      refine j_aload_n dJx4a65c_add_7a177_57 rfl rfl ?_
      refine j_iload_n dJx4a65c_add_7a177_58 rfl ?_
      refine j_iconst (v := 1) dJx4a65c_add_7a177_59 (by decide) ?_
      refine j_iadd dJx4a65c_add_7a177_60 ?_
      refine j_top (congrArg Value.int (nI_1 L.length)) ?_
      refine j_put (w' := _) dJx4a65c_add_7a177_61 fJx4a65c_48 tJx4a65c_2 g3_a ⟨rfl, rfl⟩ rfl ?_
      refine j_seal h.1 ?_
      intro w4 u4
      have g4_m := (u4.2.1 _ a3).trans g3_m
      have g4_a := u4.1
      have hf4 := u4.2.2.2 hf3
      refine j_vret dJx4a65c_add_7a177_64 rfl ?_ (Nat.le_of_ble_eq_true rfl) (by show _ ≤ 2 * M + 10; omega)
      exact ⟨rfl, ((((u1.fw h.1 h.2.1).tr (u2.fw a1 a2)).tr (u3.fw a1 a2)).tr (u4.fw h.1 h.2.1)), _, z_li.of h.1 h.2.1 (z_irI h.2.2.1 hx.ir) ⟨a1, a2, a3, by rw [z_lenI hj]; exact g4_a, g4_m, by rw [z_lenI hj]; omega, a7, z_conI a7 hj (by omega) a8⟩⟩
    · have hfl : L.length = n := nI_inj c_29_28 (by omega) (by omega)
      refine j_aload_n dJx4a65c_add_7a177_32 rfl rfl ?_
      refine j_callV (q := (RJx4a65c, TJx4a65c, 3)) dJx4a65c_add_7a177_33 kJx4a65c_grow_d5877 lJx4a65c_129 inJx4a65c_grow_d5877 seJx4a65c_grow_d5877 g1_a rfl (cl_grow hl w1 ρ a _ _ M hl1 hρ hf1 hM hM2 (z_elM hel (u1.fw h.1 h.2.1)) (fun m2 n2 f2 h2 => by obtain ⟨-, -, -, h4, h5, -⟩ := h2; have e := (z_inj3 (h4.symm.trans g1_a)).2.1; cases e; have e5 := h5.symm.trans g1_m; cases e5; omega)) (Nat.le_of_ble_eq_true rfl) ⟨(Nat.le_of_ble_eq_true rfl), (by show _ ≤ 2 * M + 10; omega)⟩ rfl (Nat.le_of_ble_eq_true rfl) rfl rfl (fun _ _ h => h.elim) ?_
      rintro _ w5 ⟨m9, n9, f9, rfl, fw5, hA9, hl9⟩
      have hf5 := fw5.2.1 hf1
      obtain ⟨b1, b2, b3, gb_a, gb_m, b6, b7, b8⟩ := id hA9
      refine j_astore (lo' := [(4, _), (3, _), (0, _), (1, _), (2, _)]) dJx4a65c_add_7a177_36 rfl (by decide) rfl ?_
      refine j_aload dJx4a65c_add_7a177_38 rfl rfl ?_
      refine j_iload_n dJx4a65c_add_7a177_40 rfl ?_
      refine j_aload dJx4a65c_add_7a177_41 rfl rfl ?_
      refine j_iload_n dJx4a65c_add_7a177_43 rfl ?_
      refine j_iconst (v := 1) dJx4a65c_add_7a177_44 (by decide) ?_
      refine j_iadd dJx4a65c_add_7a177_45 ?_
      refine j_top (congrArg Value.int (nI_1 j)) ?_
      refine j_iload_n dJx4a65c_add_7a177_46 rfl ?_
      refine j_iload_n dJx4a65c_add_7a177_47 rfl ?_
      refine j_isub dJx4a65c_add_7a177_48 ?_
      refine j_top (congrArg Value.int (pk_sub (a := L.length) (b := j) hj)) ?_
      have hcp : ∀ i, i < (nI (L.length - j)).toNatClampNeg → (∃ x, f9 ((nI (j)).toNatClampNeg + i) = .int x ∧ fits (.object "java/lang/Object") (.int x) = true) ∨ (f9 ((nI (j)).toNatClampNeg + i) = .null ∧ (FieldType.object "java/lang/Object").isReference = true) ∨ ∃ C E, FieldType.object "java/lang/Object" = .object E ∧ z_is w5 (f9 ((nI (j)).toNatClampNeg + i)) C ∧ Cond.castable C E ∈ z_nst := fun i hi => by
        rw [z_cla (n := L.length - j) (by omega)] at hi
        rw [z_cla (n := j) (by omega)]
        rcases z_elK (z_elM hel ((u1.fw h.1 h.2.1).tr fw5)) hA9 (j := j + i) (by omega) with h1 | ⟨C, h1, h2⟩
        · exact Or.inr (Or.inl ⟨h1, rfl⟩)
        · exact Or.inr (Or.inr ⟨C, "java/lang/Object", rfl, h1, h2⟩)
      refine j_acopy (w' := _) dJx4a65c_add_7a177_49 lJx4a65c_112 ac_n ac_s ac_i gb_m gb_m rfl (nI_pos (by omega)) (nI_pos (by omega)) (nI_pos (by omega)) (by rw [z_cla (n := j) (by omega), z_cla (n := (L.length - j)) (by omega)]; omega) (by rw [z_cla (n := (j + 1)) (by omega), z_cla (n := (L.length - j)) (by omega)]; omega) hcp (Nat.le_of_ble_eq_true rfl) (Nat.le_of_ble_eq_true rfl) rfl ?_
      refine j_seal b1 ?_
      intro w6 u6
      have g6_a := (u6.2.1 _ (Ne.symm b3)).trans gb_a
      have g6_m := u6.1
      have hf6 := u6.2.2.2 hf5
      refine j_aload dJx4a65c_add_7a177_52 rfl rfl ?_
      refine j_iload_n dJx4a65c_add_7a177_54 rfl ?_
      refine j_aload_n dJx4a65c_add_7a177_55 rfl hx.ir ?_
      obtain ⟨C9, hD1, hD2⟩ := (hx.m (((u1.fw h.1 h.2.1).tr fw5).tr (u6.fw b1 b2)).2.2).2
      refine j_aastO (w' := _) dJx4a65c_add_7a177_56 g6_m rfl hD1 hD2 (vp_in_nI (by omega) (by omega)) rfl ?_
      refine j_seal b1 ?_
      intro w7 u7
      have g7_a := (u7.2.1 _ (Ne.symm b3)).trans g6_a
      have g7_m := u7.1
      have hf7 := u7.2.2.2 hf6
      refine j_aload_n dJx4a65c_add_7a177_57 rfl rfl ?_
      refine j_iload_n dJx4a65c_add_7a177_58 rfl ?_
      refine j_iconst (v := 1) dJx4a65c_add_7a177_59 (by decide) ?_
      refine j_iadd dJx4a65c_add_7a177_60 ?_
      refine j_top (congrArg Value.int (nI_1 L.length)) ?_
      refine j_put (w' := _) dJx4a65c_add_7a177_61 fJx4a65c_48 tJx4a65c_2 g7_a ⟨rfl, rfl⟩ rfl ?_
      refine j_seal h.1 ?_
      intro w8 u8
      have g8_m := (u8.2.1 _ b3).trans g7_m
      have g8_a := u8.1
      have hf8 := u8.2.2.2 hf7
      refine j_vret dJx4a65c_add_7a177_64 rfl ?_ (Nat.le_of_ble_eq_true rfl) (by show _ ≤ 2 * M + 10; omega)
      exact ⟨rfl, (((((u1.fw h.1 h.2.1).tr fw5).tr (u6.fw b1 b2)).tr (u7.fw b1 b2)).tr (u8.fw h.1 h.2.1)), _, z_li.of h.1 h.2.1 (z_irI h.2.2.1 hx.ir) ⟨b1, b2, b3, by rw [z_lenI hj]; exact g8_a, g8_m, by rw [z_lenI hj]; omega, b7, z_conI b7 hj hl9 b8⟩⟩
  · subst hL
    refine z_body hl (by decide) rfl (Nat.le_of_ble_eq_true rfl) ?_
    show z_J G l mJx4a65c_add_7a177 _ 0 [(0, _), (1, _), (2, _)] [] _ 0 0
    refine j_aload_n dJx4a65c_add_7a177_0 rfl rfl ?_
    refine j_iload_n dJx4a65c_add_7a177_1 rfl ?_
    refine j_callV (q := (RJx4a65c, TJx4a65c, 3)) dJx4a65c_add_7a177_2 kJx4a65c_rangeCheckForAdd_d00df lJx4a65c_135 inJx4a65c_rangeCheckForAdd_d00df seJx4a65c_rangeCheckForAdd_d00df ga rfl (cl_rck hl w _ _ _ _ j h hj) (Nat.le_of_ble_eq_true rfl) ⟨(Nat.le_of_ble_eq_true rfl), (Nat.le_of_ble_eq_true rfl)⟩ rfl (Nat.le_of_ble_eq_true rfl) rfl rfl (fun _ _ h => h.elim) ?_
    rintro _ _ ⟨rfl, hw14⟩
    refine j_w w hw14 ?_
    refine j_aload_n dJx4a65c_add_7a177_5 rfl rfl ?_
    refine j_dup dJx4a65c_add_7a177_6 rfl ?_
    refine j_getf dJx4a65c_add_7a177_7 fJx4a65c_63 ga rfl ?_
    refine j_iconst (v := 1) dJx4a65c_add_7a177_10 (by decide) ?_
    refine j_iadd dJx4a65c_add_7a177_11 ?_
    refine j_put (w' := _) dJx4a65c_add_7a177_12 fJx4a65c_63 tJx4a65c_0 ga ⟨rfl, rfl⟩ rfl ?_
    refine j_seal h.1 ?_
    intro w1 u1
    have g1_a := u1.1
    have hf1 := u1.2.2.2 hf
    have hl1 := h.md ga u1
    refine j_aload_n dJx4a65c_add_7a177_15 rfl rfl ?_
    refine j_getf dJx4a65c_add_7a177_16 fJx4a65c_48 g1_a rfl ?_
    refine j_dup dJx4a65c_add_7a177_19 rfl ?_
    refine j_istore_n (lo' := [(3, _), (0, _), (1, _), (2, _)]) dJx4a65c_add_7a177_20 (by decide) rfl ?_
    refine j_aload_n dJx4a65c_add_7a177_21 rfl rfl ?_
    refine j_getf dJx4a65c_add_7a177_22 fJx4a65c_9 g1_a rfl ?_
    refine j_dup dJx4a65c_add_7a177_25 rfl ?_
    refine j_astore (lo' := [(4, _), (3, _), (0, _), (1, _), (2, _)]) dJx4a65c_add_7a177_26 rfl (by decide) rfl ?_
    refine j_alenK (k := k) (N := 0) dJx4a65c_add_7a177_28 (fun U q h hkq => h.2.2.2.1 k q hk hkq) ?_
    refine j_icmp_ne (tgt := 38) dJx4a65c_add_7a177_29 (by decide) (fun c_29_27 => ?_) (fun c_29_27 => ?_)
    · exact absurd rfl c_29_27
    · refine j_aload_n dJx4a65c_add_7a177_32 rfl rfl ?_
      refine j_callV (q := (RJx4a65c, TJx4a65c, 3)) dJx4a65c_add_7a177_33 kJx4a65c_grow_d5877 lJx4a65c_129 inJx4a65c_grow_d5877 seJx4a65c_grow_d5877 g1_a rfl (cl_grow hl w1 ρ a _ _ M hl1 hρ hf1 hM hM2 (z_elM hel (u1.fw h.1 h.2.1)) (fun m2 n2 f2 h2 => by obtain ⟨-, -, -, h4, -⟩ := h2; have e := (z_inj3 (h4.symm.trans g1_a)).2.1; cases e)) (Nat.le_of_ble_eq_true rfl) ⟨(Nat.le_of_ble_eq_true rfl), (by show _ ≤ 2 * M + 10; omega)⟩ rfl (Nat.le_of_ble_eq_true rfl) rfl rfl (fun _ _ h => h.elim) ?_
      rintro _ w2 ⟨m9, n9, f9, rfl, fw2, hA9, hl9⟩
      have hf2 := fw2.2.1 hf1
      obtain ⟨b1, b2, b3, gb_a, gb_m, b6, b7, b8⟩ := id hA9
      refine j_astore (lo' := [(4, _), (3, _), (0, _), (1, _), (2, _)]) dJx4a65c_add_7a177_36 rfl (by decide) rfl ?_
      refine j_aload dJx4a65c_add_7a177_38 rfl rfl ?_
      refine j_iload_n dJx4a65c_add_7a177_40 rfl ?_
      refine j_aload dJx4a65c_add_7a177_41 rfl rfl ?_
      refine j_iload_n dJx4a65c_add_7a177_43 rfl ?_
      refine j_iconst (v := 1) dJx4a65c_add_7a177_44 (by decide) ?_
      refine j_iadd dJx4a65c_add_7a177_45 ?_
      refine j_top (congrArg Value.int (nI_1 j)) ?_
      refine j_iload_n dJx4a65c_add_7a177_46 rfl ?_
      refine j_iload_n dJx4a65c_add_7a177_47 rfl ?_
      refine j_isub dJx4a65c_add_7a177_48 ?_
      refine j_top (congrArg Value.int (pk_sub (a := ([] : List Value).length) (b := j) hj)) ?_
      have hcp : ∀ i, i < (nI (([] : List Value).length - j)).toNatClampNeg → (∃ x, f9 ((nI (j)).toNatClampNeg + i) = .int x ∧ fits (.object "java/lang/Object") (.int x) = true) ∨ (f9 ((nI (j)).toNatClampNeg + i) = .null ∧ (FieldType.object "java/lang/Object").isReference = true) ∨ ∃ C E, FieldType.object "java/lang/Object" = .object E ∧ z_is w2 (f9 ((nI (j)).toNatClampNeg + i)) C ∧ Cond.castable C E ∈ z_nst := fun i hi => by
        rw [z_cla (n := ([] : List Value).length - j) (by omega)] at hi
        rw [z_cla (n := j) (by omega)]
        rcases z_elK (z_elM hel ((u1.fw h.1 h.2.1).tr fw2)) hA9 (j := j + i) (by omega) with h1 | ⟨C, h1, h2⟩
        · exact Or.inr (Or.inl ⟨h1, rfl⟩)
        · exact Or.inr (Or.inr ⟨C, "java/lang/Object", rfl, h1, h2⟩)
      refine j_acopy (w' := _) dJx4a65c_add_7a177_49 lJx4a65c_112 ac_n ac_s ac_i gb_m gb_m rfl (nI_pos (by omega)) (nI_pos (by omega)) (nI_pos (by omega)) (by rw [z_cla (n := j) (by omega), z_cla (n := (([] : List Value).length - j)) (by omega)]; omega) (by rw [z_cla (n := (j + 1)) (by omega), z_cla (n := (([] : List Value).length - j)) (by omega)]; omega) hcp (Nat.le_of_ble_eq_true rfl) (Nat.le_of_ble_eq_true rfl) rfl ?_
      refine j_seal b1 ?_
      intro w3 u3
      have g3_a := (u3.2.1 _ (Ne.symm b3)).trans gb_a
      have g3_m := u3.1
      have hf3 := u3.2.2.2 hf2
      refine j_aload dJx4a65c_add_7a177_52 rfl rfl ?_
      refine j_iload_n dJx4a65c_add_7a177_54 rfl ?_
      refine j_aload_n dJx4a65c_add_7a177_55 rfl hx.ir ?_
      obtain ⟨C9, hD1, hD2⟩ := (hx.m (((u1.fw h.1 h.2.1).tr fw2).tr (u3.fw b1 b2)).2.2).2
      refine j_aastO (w' := _) dJx4a65c_add_7a177_56 g3_m rfl hD1 hD2 (vp_in_nI (by omega) (by omega)) rfl ?_
      refine j_seal b1 ?_
      intro w4 u4
      have g4_a := (u4.2.1 _ (Ne.symm b3)).trans g3_a
      have g4_m := u4.1
      have hf4 := u4.2.2.2 hf3
      refine j_aload_n dJx4a65c_add_7a177_57 rfl rfl ?_
      refine j_iload_n dJx4a65c_add_7a177_58 rfl ?_
      refine j_iconst (v := 1) dJx4a65c_add_7a177_59 (by decide) ?_
      refine j_iadd dJx4a65c_add_7a177_60 ?_
      refine j_top (congrArg Value.int (nI_1 0)) ?_
      refine j_put (w' := _) dJx4a65c_add_7a177_61 fJx4a65c_48 tJx4a65c_2 g4_a ⟨rfl, rfl⟩ rfl ?_
      refine j_seal h.1 ?_
      intro w5 u5
      have g5_m := (u5.2.1 _ b3).trans g4_m
      have g5_a := u5.1
      have hf5 := u5.2.2.2 hf4
      refine j_vret dJx4a65c_add_7a177_64 rfl ?_ (Nat.le_of_ble_eq_true rfl) (by show _ ≤ 2 * M + 10; omega)
      exact ⟨rfl, (((((u1.fw h.1 h.2.1).tr fw2).tr (u3.fw b1 b2)).tr (u4.fw b1 b2)).tr (u5.fw h.1 h.2.1)), _, z_li.of h.1 h.2.1 (z_irI h.2.2.1 hx.ir) ⟨b1, b2, b3, by rw [z_lenI hj]; exact g5_a, g5_m, by rw [z_lenI hj]; omega, b7, z_conI b7 hj hl9 b8⟩⟩
end ZLs
end ZM10
section ZM11
section ZLt
variable {G : z_G} {l : Launch}
set_option maxRecDepth 100000 in
set_option maxHeartbeats 8000000 in
theorem cl_clear (hl : l.stackTraces = false) (w : z_W) (ρ a : Nat) (mo : Int32) (L : List Value) (h : z_li w ρ a mo L) (hf : z_fn w) : z_Con G l mJx4a65c_clear_da8c8 11 0 0 w [.ref a] (fun v w9 => v = none ∧ z_fw ρ w w9 ∧ ∃ mo9, z_li w9 ρ a mo9 []) (fun _ _ => False) := by
  rcases h.2.2.2 with ⟨m, n, f, hA⟩ | ⟨k, hL, hk, ga⟩
  · obtain ⟨a1, a2, a3, ga, gm, a6, a7, a8⟩ := id hA
    clear hf
    refine z_body hl (by decide) rfl (Nat.le_of_ble_eq_true rfl) ?_
    show z_J G l mJx4a65c_clear_da8c8 _ 0 [(0, _)] [] _ 0 0
    refine j_aload_n dJx4a65c_clear_da8c8_0 rfl rfl ?_
    refine j_dup dJx4a65c_clear_da8c8_1 rfl ?_
    refine j_getf dJx4a65c_clear_da8c8_2 fJx4a65c_63 ga rfl ?_
    refine j_iconst (v := 1) dJx4a65c_clear_da8c8_5 (by decide) ?_
    refine j_iadd dJx4a65c_clear_da8c8_6 ?_
    refine j_put (w' := _) dJx4a65c_clear_da8c8_7 fJx4a65c_63 tJx4a65c_0 ga ⟨rfl, rfl⟩ rfl ?_
    refine j_seal h.1 ?_
    intro w1 u1
    have g1_m := (u1.2.1 _ a3).trans gm
    have g1_a := u1.1
    refine j_aload_n dJx4a65c_clear_da8c8_10 rfl rfl ?_
    refine j_getf dJx4a65c_clear_da8c8_11 fJx4a65c_9 g1_a rfl ?_
    refine j_astore_n (lo' := [(1, _), (0, _)]) dJx4a65c_clear_da8c8_14 rfl (by decide) rfl ?_
    refine j_aload_n dJx4a65c_clear_da8c8_15 rfl rfl ?_
    refine j_getf dJx4a65c_clear_da8c8_16 fJx4a65c_48 g1_a rfl ?_
    refine j_istore_n (lo' := [(2, _), (1, _), (0, _)]) dJx4a65c_clear_da8c8_19 (by decide) rfl ?_
    refine j_aload_n dJx4a65c_clear_da8c8_20 rfl rfl ?_
    refine j_iconst (v := 0) dJx4a65c_clear_da8c8_21 (by decide) ?_
    refine j_top (congrArg Value.int nI_o0) ?_
    refine j_dup_x1 dJx4a65c_clear_da8c8_22 rfl rfl ?_
    refine j_put (w' := _) dJx4a65c_clear_da8c8_23 fJx4a65c_48 tJx4a65c_2 g1_a ⟨rfl, rfl⟩ rfl ?_
    refine j_seal h.1 ?_
    intro w2 u2
    have g2_m := (u2.2.1 _ a3).trans g1_m
    have g2_a := u2.1
    refine j_istore_n (lo' := [(3, _), (2, _), (1, _), (0, _)]) dJx4a65c_clear_da8c8_26 (by decide) rfl ?_
    have loop27 : ∀ (n9 : Nat) (w3 : z_W) (j : Nat) (F : Nat → Value), (j ≤ L.length) → (L.length < j + n9) → (z_fw ρ w w3) → (z_g w3 a = some (.inr (4, [.int (mo + Int32.ofInt 1), .ref m, .int (nI 0)]))) → (z_g w3 m = some (.inl (3, n, F))) → z_J G l mJx4a65c_clear_da8c8 (11, 0, 0, w, (fun v w9 => v = none ∧ z_fw ρ w w9 ∧ ∃ mo9, z_li w9 ρ a mo9 []), (fun _ _ => False)) 27 [(0, .ref a), (1, .ref m), (2, .int (nI L.length)), (3, .int (nI j))] [] w3 0 0 := by
      intro n9
      induction n9 with
      | zero => intro w3 j F k1 k0 k2 k3 k4; exact absurd k0 (by omega)
      | succ n9 ih =>
        intro w3 j F k1 k0 k2 k3 k4
        refine j_iload_n dJx4a65c_clear_da8c8_27 rfl ?_
        refine j_iload_n dJx4a65c_clear_da8c8_28 rfl ?_
        refine j_icmp_ge (tgt := 42) dJx4a65c_clear_da8c8_29 (by decide) (fun c_29_36 => ?_) (fun c_29_36 => ?_)
        · refine j_vret dJx4a65c_clear_da8c8_42 rfl ?_ (Nat.le_of_ble_eq_true rfl) (Nat.le_of_ble_eq_true rfl)
          exact ⟨rfl, k2, _, z_li.of h.1 h.2.1 (fun v hv => by cases hv) ⟨a1, a2, a3, k3, k4, Nat.zero_le _, a7, fun q v hq => by simp at hq⟩⟩
        · have hj : j < L.length := Nat.not_le.mp (fun z => c_29_36 ((nI_leI (by omega) (by omega)).mpr z))
          refine j_aload_n dJx4a65c_clear_da8c8_32 rfl rfl ?_
          refine j_iload_n dJx4a65c_clear_da8c8_33 rfl ?_
          refine j_null dJx4a65c_clear_da8c8_34 ?_
          refine j_aastN (w' := _) dJx4a65c_clear_da8c8_35 k4 rfl (vp_in_nI (by omega) (by omega)) rfl ?_
          refine j_seal a1 ?_
          intro w4 u4
          have g4_a := (u4.2.1 _ (Ne.symm a3)).trans k3
          have g4_m := u4.1
          refine j_iinc (lo' := [(3, _), (0, _), (1, _), (2, _)]) dJx4a65c_clear_da8c8_36 rfl (z_inc _) (by decide) rfl ?_
          refine j_goto (tgt := 27) dJx4a65c_clear_da8c8_39 (by decide) ?_
          exact j_lo2 (ih w4 (j + 1) _ (by omega) (by omega) (k2.tr (u4.fw a1 a2)) g4_a g4_m) (z_q1 rfl (z_q1 rfl (z_q1 rfl (z_q1 rfl z_q0))))
    exact j_lo2 (loop27 (L.length + 1) w2 0 f (Nat.zero_le _) (by omega) ((u1.fw h.1 h.2.1).tr (u2.fw h.1 h.2.1)) g2_a g2_m) (z_q1 rfl (z_q1 rfl (z_q1 rfl (z_q1 rfl z_q0))))
  · subst hL
    clear hf
    refine z_body hl (by decide) rfl (Nat.le_of_ble_eq_true rfl) ?_
    show z_J G l mJx4a65c_clear_da8c8 _ 0 [(0, _)] [] _ 0 0
    refine j_aload_n dJx4a65c_clear_da8c8_0 rfl rfl ?_
    refine j_dup dJx4a65c_clear_da8c8_1 rfl ?_
    refine j_getf dJx4a65c_clear_da8c8_2 fJx4a65c_63 ga rfl ?_
    refine j_iconst (v := 1) dJx4a65c_clear_da8c8_5 (by decide) ?_
    refine j_iadd dJx4a65c_clear_da8c8_6 ?_
    refine j_put (w' := _) dJx4a65c_clear_da8c8_7 fJx4a65c_63 tJx4a65c_0 ga ⟨rfl, rfl⟩ rfl ?_
    refine j_seal h.1 ?_
    intro w1 u1
    have g1_a := u1.1
    refine j_aload_n dJx4a65c_clear_da8c8_10 rfl rfl ?_
    refine j_getf dJx4a65c_clear_da8c8_11 fJx4a65c_9 g1_a rfl ?_
    refine j_astore_n (lo' := [(1, _), (0, _)]) dJx4a65c_clear_da8c8_14 rfl (by decide) rfl ?_
    refine j_aload_n dJx4a65c_clear_da8c8_15 rfl rfl ?_
    refine j_getf dJx4a65c_clear_da8c8_16 fJx4a65c_48 g1_a rfl ?_
    refine j_istore_n (lo' := [(2, _), (1, _), (0, _)]) dJx4a65c_clear_da8c8_19 (by decide) rfl ?_
    refine j_aload_n dJx4a65c_clear_da8c8_20 rfl rfl ?_
    refine j_iconst (v := 0) dJx4a65c_clear_da8c8_21 (by decide) ?_
    refine j_dup_x1 dJx4a65c_clear_da8c8_22 rfl rfl ?_
    refine j_put (w' := _) dJx4a65c_clear_da8c8_23 fJx4a65c_48 tJx4a65c_2 g1_a ⟨rfl, rfl⟩ rfl ?_
    refine j_seal h.1 ?_
    intro w2 u2
    have g2_a := u2.1
    refine j_istore_n (lo' := [(3, _), (2, _), (1, _), (0, _)]) dJx4a65c_clear_da8c8_26 (by decide) rfl ?_
    refine j_iload_n dJx4a65c_clear_da8c8_27 rfl ?_
    refine j_iload_n dJx4a65c_clear_da8c8_28 rfl ?_
    refine j_icmp_ge (tgt := 42) dJx4a65c_clear_da8c8_29 (by decide) (fun c_29_27 => ?_) (fun c_29_27 => ?_)
    · refine j_vret dJx4a65c_clear_da8c8_42 rfl ?_ (Nat.le_of_ble_eq_true rfl) (Nat.le_of_ble_eq_true rfl)
      exact ⟨rfl, ((u1.fw h.1 h.2.1).tr (u2.fw h.1 h.2.1)), _, h.1, h.2.1, (fun v hv => by cases hv), Or.inr ⟨k, rfl, hk, g2_a⟩⟩
    · exact absurd (by decide) c_29_27
set_option maxRecDepth 100000 in
set_option maxHeartbeats 8000000 in
theorem cl_ALi (hl : l.stackTraces = false) (w : z_W) (ρ a : Nat) (h1 : 1000 ≤ a) (h2 : a % 64 = ρ) (ga : z_g w a = some (.inr (4, [.int 0, .null, .int 0]))) : z_Con G l mJxc12de_init_da8c8 11 0 0 w [.ref a] (fun v w9 => v = none ∧ z_fw ρ w w9 ∧ (∀ k, k ≠ a → z_g w9 k = z_g w k) ∧ z_g w9 a = some (.inr (4, [.int 0, .null, .int 0]))) (fun _ _ => False) := by
  refine z_body hl (by decide) rfl (Nat.le_of_ble_eq_true rfl) ?_
  show z_J G l mJxc12de_init_da8c8 _ 0 [(0, _)] [] _ 0 0
  refine j_aload_n dJxc12de_init_da8c8_0 rfl rfl ?_
  refine j_callI dJxc12de_init_da8c8_1 kJxa1e45_init_da8c8 rfl lJxc12de_1 inJxa1e45_init_da8c8 rfl (c_Jxa1e45_init_da8c8 hl w _) (Nat.le_of_ble_eq_true rfl) ⟨(Nat.le_of_ble_eq_true rfl), (Nat.le_of_ble_eq_true rfl)⟩ rfl (Nat.le_of_ble_eq_true rfl) rfl rfl (fun _ _ h => h.elim) ?_
  rintro _ _ ⟨rfl, hw15⟩
  refine j_w w hw15 ?_
  refine j_aload_n dJxc12de_init_da8c8_4 rfl rfl ?_
  refine j_iconst (v := 0) dJxc12de_init_da8c8_5 (by decide) ?_
  refine j_put (w' := _) dJxc12de_init_da8c8_6 fJxc12de_7 tJx4a65c_0 ga ⟨rfl, rfl⟩ rfl ?_
  refine j_seal h1 ?_
  intro w1 u1
  have g1_a := u1.1
  refine j_vret dJxc12de_init_da8c8_9 rfl ?_ (Nat.le_of_ble_eq_true rfl) (Nat.le_of_ble_eq_true rfl)
  exact ⟨rfl, (u1.fw h1 h2), u1.2.1, g1_a⟩
set_option maxRecDepth 100000 in
set_option maxHeartbeats 8000000 in
theorem cl_init (hl : l.stackTraces = false) (w : z_W) (ρ a : Nat) (h1 : 1000 ≤ a) (h2 : a % 64 = ρ) (ga : z_g w a = some (.inr (4, [.int 0, .null, .int 0]))) : z_Con G l mJx4a65c_init_da8c8 12 0 0 w [.ref a] (fun v w9 => v = none ∧ z_fw ρ w w9 ∧ (∀ k, k ≠ a → z_g w9 k = z_g w k) ∧ z_li w9 ρ a 0 []) (fun _ _ => False) := by
  refine z_body hl (by decide) rfl (Nat.le_of_ble_eq_true rfl) ?_
  show z_J G l mJx4a65c_init_da8c8 _ 0 [(0, _)] [] _ 0 0
  refine j_aload_n dJx4a65c_init_da8c8_0 rfl rfl ?_
  refine j_callI dJx4a65c_init_da8c8_1 kJxc12de_init_da8c8 rfl lJx4a65c_1 inJxc12de_init_da8c8 rfl (cl_ALi hl w ρ a h1 h2 ga) (Nat.le_of_ble_eq_true rfl) ⟨(Nat.le_of_ble_eq_true rfl), (Nat.le_of_ble_eq_true rfl)⟩ rfl (Nat.le_of_ble_eq_true rfl) rfl rfl (fun _ _ h => h.elim) ?_
  rintro _ w1 ⟨rfl, fw1, hk1, gz1⟩
  refine j_aload_n dJx4a65c_init_da8c8_4 rfl rfl ?_
  refine j_gets dJx4a65c_init_da8c8_5 (List.mem_of_getElem? (i := 2) rfl) rfl (z_w 1353 ((lwt_6_3 18).trans rfl) (by decide +kernel)) ?_
  refine j_put (w' := _) dJx4a65c_init_da8c8_8 fJx4a65c_9 tJx4a65c_1 gz1 (Or.inr ⟨_, rfl⟩) rfl ?_
  refine j_seal h1 ?_
  intro w2 u2
  have g2_a := u2.1
  refine j_vret dJx4a65c_init_da8c8_11 rfl ?_ (Nat.le_of_ble_eq_true rfl) (Nat.le_of_ble_eq_true rfl)
  exact ⟨rfl, (fw1.tr (u2.fw h1 h2)), fun k hk => (u2.2.1 k hk).trans (hk1 k hk), h1, h2, fun v hv => (by cases hv), Or.inr ⟨0, rfl, by decide, g2_a⟩⟩
set_option maxRecDepth 100000 in
set_option maxHeartbeats 8000000 in
theorem cl_itI (hl : l.stackTraces = false) (w : z_W) (γ ρ i a : Nat) (mo : Int32) (L : List Value) (h : z_li w ρ a mo L) (h1 : 1000 ≤ i) (h2 : i % 64 = γ) (hne : a ≠ i) (gi : z_g w i = some (.inr (3, [.int 0, .int 0, .int 0, .null]))) : z_Con G l mJx35411_init_45d68 11 0 0 w [.ref i, .ref a] (fun v w9 => v = none ∧ z_fw γ w w9 ∧ z_g w9 i = some (.inr (3, [.int (nI 0), .int (Int32.ofInt (-1)), .int mo, .ref a]))) (fun _ _ => False) := by
  obtain ⟨v0, hv0, ga⟩ := h.cell
  refine z_body hl (by decide) rfl (Nat.le_of_ble_eq_true rfl) ?_
  show z_J G l mJx35411_init_45d68 _ 0 [(0, _), (1, _)] [] _ 0 0
  refine j_aload_n dJx35411_init_45d68_0 rfl rfl ?_
  refine j_aload_n dJx35411_init_45d68_1 rfl rfl ?_
  refine j_putF (w' := _) dJx35411_init_45d68_2 fJx35411_1 tJx35411_3 rfl (z_dc rfl rfl (z_w 1754 ((lwg_8 29).trans rfl) (by decide +kernel))) gi (Or.inl ⟨_, rfl⟩) rfl ?_
  refine j_seal h1 ?_
  intro w1 u1
  have g1_a := (u1.2.1 _ hne).trans ga
  have g1_i := u1.1
  refine j_aload_n dJx35411_init_45d68_5 rfl rfl ?_
  refine j_objI dJx35411_init_45d68_6 oJx35411_7 z_oi1 z_oi2 (Nat.le_of_ble_eq_true rfl) (Nat.le_of_ble_eq_true rfl) ?_
  refine j_aload_n dJx35411_init_45d68_9 rfl rfl ?_
  refine j_iconst (v := (-1)) dJx35411_init_45d68_10 (by decide) ?_
  refine j_put (w' := _) dJx35411_init_45d68_11 fJx35411_13 tJx35411_1 g1_i ⟨rfl, rfl⟩ rfl ?_
  refine j_seal h1 ?_
  intro w2 u2
  have g2_a := (u2.2.1 _ hne).trans g1_a
  have g2_i := u2.1
  refine j_aload_n dJx35411_init_45d68_14 rfl rfl ?_
  refine j_aload_n dJx35411_init_45d68_15 rfl rfl ?_
  refine j_getf dJx35411_init_45d68_16 fJx35411_1 g2_i rfl ?_
  refine j_getf dJx35411_init_45d68_19 fJx35411_17 g2_a rfl ?_
  refine j_put (w' := _) dJx35411_init_45d68_22 fJx35411_22 tJx35411_2 g2_i ⟨rfl, rfl⟩ rfl ?_
  refine j_seal h1 ?_
  intro w3 u3
  have g3_a := (u3.2.1 _ hne).trans g2_a
  have g3_i := u3.1
  refine j_vret dJx35411_init_45d68_25 rfl ?_ (Nat.le_of_ble_eq_true rfl) (Nat.le_of_ble_eq_true rfl)
  exact ⟨rfl, (((u1.fw h1 h2).tr (u2.fw h1 h2)).tr (u3.fw h1 h2)), g3_i⟩
set_option maxRecDepth 100000 in
set_option maxHeartbeats 8000000 in
theorem cl_iter (hl : l.stackTraces = false) (w : z_W) (γ ρ a : Nat) (mo : Int32) (L : List Value) (h : z_li w ρ a mo L) (hγ : γ < 64) (hne : ρ ≠ γ) (hf : z_fn w) : z_Con G l mJx4a65c_iterator_32c93 12 1 4 w [.ref a] (fun v w9 => ∃ i : Nat, v = some (.ref i) ∧ z_fw γ w w9 ∧ 1000 ≤ i ∧ i % 64 = γ ∧ z_g w i = none ∧ z_it w9 i a mo 0) (fun _ _ => False) := by
  obtain ⟨v0, hv0, ga⟩ := h.cell
  refine z_body hl (by decide) rfl (Nat.le_of_ble_eq_true rfl) ?_
  show z_J G l mJx4a65c_iterator_32c93 _ 0 [(0, _)] [] _ 0 0
  obtain ⟨x1, hx1a, hx1b, hx1c⟩ := z_fresh (γ) hγ hf
  have n_a_x1 := z_neF hx1c ga
  refine j_new (w' := _) (n := x1) dJx4a65c_iterator_32c93_0 nJx4a65c_267 rfl (z_alW hx1c hx1a) (Nat.le_of_ble_eq_true rfl) (Nat.le_of_ble_eq_true rfl) ?_
  refine j_seal hx1a ?_
  intro w1 u1
  have g1_a := (u1.2.1 _ n_a_x1).trans ga
  have g1_x1 := u1.1
  have hf1 := u1.2.2.2 hf
  refine j_dup dJx4a65c_iterator_32c93_3 rfl ?_
  refine j_aload_n dJx4a65c_iterator_32c93_4 rfl rfl ?_
  refine j_callI dJx4a65c_iterator_32c93_5 kJx35411_init_45d68 rfl lJx4a65c_269 inJx35411_init_45d68 rfl (cl_itI hl w1 γ ρ x1 a mo L (h.fw (u1.fw hx1a hx1b) hne) hx1a hx1b n_a_x1 g1_x1) (Nat.le_of_ble_eq_true rfl) ⟨(Nat.le_of_ble_eq_true rfl), (Nat.le_of_ble_eq_true rfl)⟩ rfl (Nat.le_of_ble_eq_true rfl) rfl rfl (fun _ _ h => h.elim) ?_
  rintro _ w2 ⟨rfl, fw2, gz2⟩
  have hf2 := fw2.2.1 hf1
  refine j_aret dJx4a65c_iterator_32c93_8 rfl (Or.inl ⟨_, rfl⟩) rfl ?_ (Nat.le_of_ble_eq_true rfl) (Nat.le_of_ble_eq_true rfl)
  exact ⟨x1, rfl, ((u1.fw hx1a hx1b).tr fw2), hx1a, hx1b, hx1c, _, gz2⟩
set_option maxRecDepth 100000 in
set_option maxHeartbeats 8000000 in
theorem cl_hasN (hl : l.stackTraces = false) (w : z_W) (i ρ a k : Nat) (mo : Int32) (L : List Value) (h : z_li w ρ a mo L) (hi : z_it w i a mo k) (hk : k ≤ L.length) : z_Con G l mJx35411_hasNext_aae02 10 0 0 w [.ref i] (fun v w9 => (∃ x : Int32, v = some (.int x) ∧ (x = 0 → k = L.length) ∧ (¬ x = 0 → k < L.length)) ∧ w9 = w) (fun _ _ => False) := by
  obtain ⟨v0, hv0, ga⟩ := h.cell
  obtain ⟨la, gi⟩ := hi
  have hlen := h.len
  refine z_body hl (by decide) rfl (Nat.le_of_ble_eq_true rfl) ?_
  show z_J G l mJx35411_hasNext_aae02 _ 0 [(0, _)] [] _ 0 0
  refine j_aload_n dJx35411_hasNext_aae02_0 rfl rfl ?_
  refine j_getf dJx35411_hasNext_aae02_1 fJx35411_25 gi rfl ?_
  refine j_aload_n dJx35411_hasNext_aae02_4 rfl rfl ?_
  refine j_getf dJx35411_hasNext_aae02_5 fJx35411_1 gi rfl ?_
  refine j_getf dJx35411_hasNext_aae02_8 fJx35411_28 ga rfl ?_
  refine j_icmp_eq (tgt := 18) dJx35411_hasNext_aae02_11 (by decide) (fun c_11_7 => ?_) (fun c_11_7 => ?_)
  · have he : k = L.length := nI_inj c_11_7 (by omega) (by omega)
    refine j_iconst (v := 0) dJx35411_hasNext_aae02_18 (by decide) ?_
    refine j_iret dJx35411_hasNext_aae02_19 rfl rfl ?_ (Nat.le_of_ble_eq_true rfl) (Nat.le_of_ble_eq_true rfl)
    exact ⟨⟨_, rfl, fun _ => he, fun z => absurd rfl z⟩, rfl⟩
  · have he : k < L.length := by rcases Nat.lt_or_eq_of_le hk with z | z; exact z; exact absurd (congrArg nI z) c_11_7
    refine j_iconst (v := 1) dJx35411_hasNext_aae02_14 (by decide) ?_
    refine j_goto (tgt := 19) dJx35411_hasNext_aae02_15 (by decide) ?_
    refine j_iret dJx35411_hasNext_aae02_19 rfl rfl ?_ (Nat.le_of_ble_eq_true rfl) (Nat.le_of_ble_eq_true rfl)
    exact ⟨⟨_, rfl, fun z => absurd z (by decide), fun _ => he⟩, rfl⟩
set_option maxRecDepth 100000 in
set_option maxHeartbeats 8000000 in
theorem cl_chkC (hl : l.stackTraces = false) (w : z_W) (i ρ a k : Nat) (mo : Int32) (L : List Value) (h : z_li w ρ a mo L) (hi : z_it w i a mo k) : z_Con G l mJx35411_checkForComodification_da8c8 10 0 0 w [.ref i] (fun v w9 => v = none ∧ w9 = w) (fun _ _ => False) := by
  obtain ⟨v0, hv0, ga⟩ := h.cell
  obtain ⟨la, gi⟩ := hi
  have hlen := h.len
  refine z_body hl (by decide) rfl (Nat.le_of_ble_eq_true rfl) ?_
  show z_J G l mJx35411_checkForComodification_da8c8 _ 0 [(0, _)] [] _ 0 0
  refine j_aload_n dJx35411_checkForComodification_da8c8_0 rfl rfl ?_
  refine j_getf dJx35411_checkForComodification_da8c8_1 fJx35411_1 gi rfl ?_
  refine j_getf dJx35411_checkForComodification_da8c8_4 fJx35411_17 ga rfl ?_
  refine j_aload_n dJx35411_checkForComodification_da8c8_7 rfl rfl ?_
  refine j_getf dJx35411_checkForComodification_da8c8_8 fJx35411_22 gi rfl ?_
  refine j_icmp_eq (tgt := 22) dJx35411_checkForComodification_da8c8_11 (by decide) (fun c_11_7 => ?_) (fun c_11_7 => ?_)
  · refine j_vret dJx35411_checkForComodification_da8c8_22 rfl ?_ (Nat.le_of_ble_eq_true rfl) (Nat.le_of_ble_eq_true rfl)
    exact ⟨rfl, rfl⟩
  · exact absurd rfl c_11_7
set_option maxRecDepth 100000 in
set_option maxHeartbeats 8000000 in
theorem cl_next (hl : l.stackTraces = false) (w : z_W) (γ i ρ a k : Nat) (mo : Int32) (L : List Value) (v0 : Value) (h : z_li w ρ a mo L) (hi : z_it w i a mo k) (hj : L[k]? = some v0) (h1 : 1000 ≤ i) (h2 : i % 64 = γ) (hne : ρ ≠ γ) : z_Con G l mJx35411_next_0502b 12 0 0 w [.ref i] (fun v w9 => v = some v0 ∧ z_fw γ w w9 ∧ z_it w9 i a mo (k + 1)) (fun _ _ => False) := by
  obtain ⟨m, n, f, a1, a2, a3, ga, gm, a6, a7, a8⟩ := h.one hj
  have h3 := h.2.1
  have hjl : k < L.length := (List.getElem?_eq_some_iff.mp hj).1
  obtain ⟨la, gi⟩ := id hi
  refine z_body hl (by decide) rfl (Nat.le_of_ble_eq_true rfl) ?_
  show z_J G l mJx35411_next_0502b _ 0 [(0, _)] [] _ 0 0
  refine j_aload_n dJx35411_next_0502b_0 rfl rfl ?_
  refine j_callV (q := (RJx35411, TJx35411, 4)) dJx35411_next_0502b_1 kJx35411_checkForComodification_da8c8 lJx35411_31 inJx35411_checkForComodification_da8c8 seJx35411_checkForComodification_da8c8 gi rfl (cl_chkC hl w i ρ a k mo L h hi) (Nat.le_of_ble_eq_true rfl) ⟨(Nat.le_of_ble_eq_true rfl), (Nat.le_of_ble_eq_true rfl)⟩ rfl (Nat.le_of_ble_eq_true rfl) rfl rfl (fun _ _ h => h.elim) ?_
  rintro _ _ ⟨rfl, hw16⟩
  refine j_w w hw16 ?_
  refine j_aload_n dJx35411_next_0502b_4 rfl rfl ?_
  refine j_getf dJx35411_next_0502b_5 fJx35411_25 gi rfl ?_
  refine j_istore_n (lo' := [(1, _), (0, _)]) dJx35411_next_0502b_8 (by decide) rfl ?_
  refine j_iload_n dJx35411_next_0502b_9 rfl ?_
  refine j_aload_n dJx35411_next_0502b_10 rfl rfl ?_
  refine j_getf dJx35411_next_0502b_11 fJx35411_1 gi rfl ?_
  refine j_getf dJx35411_next_0502b_14 fJx35411_28 ga rfl ?_
  refine j_icmp_lt (tgt := 28) dJx35411_next_0502b_17 (by decide) (fun c_17_13 => ?_) (fun c_17_13 => ?_)
  · refine j_aload_n dJx35411_next_0502b_28 rfl rfl ?_
    refine j_getf dJx35411_next_0502b_29 fJx35411_1 gi rfl ?_
    refine j_getf dJx35411_next_0502b_32 fJx35411_37 ga rfl ?_
    refine j_astore_n (lo' := [(2, _), (1, _), (0, _)]) dJx35411_next_0502b_35 rfl (by decide) rfl ?_
    refine j_iload_n dJx35411_next_0502b_36 rfl ?_
    refine j_aload_n dJx35411_next_0502b_37 rfl rfl ?_
    refine j_alen dJx35411_next_0502b_38 gm rfl rfl ?_
    refine j_icmp_lt (tgt := 50) dJx35411_next_0502b_39 (by decide) (fun c_39_21 => ?_) (fun c_39_21 => ?_)
    · refine j_aload_n dJx35411_next_0502b_50 rfl rfl ?_
      refine j_iload_n dJx35411_next_0502b_51 rfl ?_
      refine j_iconst (v := 1) dJx35411_next_0502b_52 (by decide) ?_
      refine j_iadd dJx35411_next_0502b_53 ?_
      refine j_top (congrArg Value.int (nI_1 k)) ?_
      refine j_put (w' := _) dJx35411_next_0502b_54 fJx35411_25 tJx35411_0 gi ⟨rfl, rfl⟩ rfl ?_
      refine j_seal h1 ?_
      intro w1 u1
      have g1_a := (u1.2.1 _ (by omega)).trans ga
      have g1_m := (u1.2.1 _ (by omega)).trans gm
      have g1_i := u1.1
      refine j_aload_n dJx35411_next_0502b_57 rfl rfl ?_
      refine j_aload_n dJx35411_next_0502b_58 rfl rfl ?_
      refine j_iload_n dJx35411_next_0502b_59 rfl ?_
      refine j_dup_x1 dJx35411_next_0502b_60 rfl rfl ?_
      refine j_put (w' := _) dJx35411_next_0502b_61 fJx35411_13 tJx35411_1 g1_i ⟨rfl, rfl⟩ rfl ?_
      refine j_seal h1 ?_
      intro w2 u2
      have g2_a := (u2.2.1 _ (by omega)).trans g1_a
      have g2_m := (u2.2.1 _ (by omega)).trans g1_m
      have g2_i := u2.1
      refine j_aald dJx35411_next_0502b_64 g2_m rfl rfl (vp_in_nI (by omega) (by omega)) (show f (nI k).toNatClampNeg = v0 by rw [z_cla (by omega)]; exact a8 k v0 hj) ?_
      refine j_aret dJx35411_next_0502b_65 rfl (Or.inl ⟨_, rfl⟩) (h.ir hj) ?_ (Nat.le_of_ble_eq_true rfl) (Nat.le_of_ble_eq_true rfl)
      exact ⟨rfl, ((u1.fw h1 h2).tr (u2.fw h1 h2)), _, g2_i⟩
    · exact absurd (nI_lt (show k < n by omega) (by omega)) c_39_21
  · exact absurd (nI_lt hjl (by omega)) c_17_13
set_option maxRecDepth 100000 in
set_option maxHeartbeats 8000000 in
theorem cl_toA (hl : l.stackTraces = false) (w : z_W) (ρ σ a M : Nat) (mo : Int32) (L : List Value) (h : z_li w σ a mo L) (hρ : ρ < 64) (hf : z_fn w) (hM : L.length ≤ M) (hM2 : M ≤ 1000) (hel : ∀ v ∈ L, z_el σ w v) : z_Con G l mJx4a65c_toArray_d5877 14 1 M w [.ref a] (fun v w9 => ∃ (m9 : Nat) (g : Nat → Value), v = some (.ref m9) ∧ z_fw ρ w w9 ∧ 1000 ≤ m9 ∧ m9 % 64 = ρ ∧ (∀ k e, z_g w k = some e → k ≠ m9) ∧ z_g w9 m9 = some (.inl (3, L.length, g)) ∧ (∀ k e, z_g w k = some e → z_g w9 k = some e) ∧ ∀ (j : Nat) (v : Value), L[j]? = some v → g j = v) (fun _ _ => False) := by
  rcases h.2.2.2 with ⟨m, n, f, hA⟩ | ⟨k, hL, hk, ga⟩
  · obtain ⟨a1, a2, a3, ga, gm, a6, a7, a8⟩ := id hA
    refine z_body hl (by decide) rfl (Nat.le_of_ble_eq_true rfl) ?_
    show z_J G l mJx4a65c_toArray_d5877 _ 0 [(0, _)] [] _ 0 0
    refine j_aload_n dJx4a65c_toArray_d5877_0 rfl rfl ?_
    refine j_getf dJx4a65c_toArray_d5877_1 fJx4a65c_9 ga rfl ?_
    refine j_aload_n dJx4a65c_toArray_d5877_4 rfl rfl ?_
    refine j_getf dJx4a65c_toArray_d5877_5 fJx4a65c_48 ga rfl ?_
    refine j_callS dJx4a65c_toArray_d5877_8 kJ7_copyOf_1904c lJx4a65c_66 stJ7_copyOf_1904c (cl_cpB hl w ρ m n L.length f hρ hf gm (by omega) (by omega) (fun j _ hj => z_elK hel hA hj)) (Nat.le_of_ble_eq_true rfl) ⟨(Nat.le_of_ble_eq_true rfl), (by show _ ≤ M; omega)⟩ rfl (Nat.le_of_ble_eq_true rfl) rfl rfl (fun _ _ h => h.elim) ?_
    rintro _ w1 ⟨m9, g9, rfl, fw1, c1, c2, c3, c4, c5, c6⟩
    have hf1 := fw1.2.1 hf
    refine j_aret dJx4a65c_toArray_d5877_11 rfl (Or.inr ⟨_, rfl⟩) rfl ?_ (Nat.le_of_ble_eq_true rfl) (by show _ ≤ M; omega)
    exact ⟨m9, g9, rfl, fw1, c1, c2, c3, c4, c5, fun j v hj => by have hjl := (List.getElem?_eq_some_iff.mp hj).1; rw [c6 j (by omega) hjl]; exact a8 j v hj⟩
  · subst hL
    refine z_body hl (by decide) rfl (Nat.le_of_ble_eq_true rfl) ?_
    show z_J G l mJx4a65c_toArray_d5877 _ 0 [(0, _)] [] _ 0 0
    refine j_aload_n dJx4a65c_toArray_d5877_0 rfl rfl ?_
    refine j_getf dJx4a65c_toArray_d5877_1 fJx4a65c_9 ga rfl ?_
    refine j_aload_n dJx4a65c_toArray_d5877_4 rfl rfl ?_
    refine j_getf dJx4a65c_toArray_d5877_5 fJx4a65c_48 ga rfl ?_
    refine j_callS dJx4a65c_toArray_d5877_8 kJ7_copyOf_1904c lJx4a65c_66 stJ7_copyOf_1904c (cl_cpBK hl w ρ k 0 hρ hf hk (by omega)) (Nat.le_of_ble_eq_true rfl) ⟨(Nat.le_of_ble_eq_true rfl), (by show _ ≤ M; omega)⟩ rfl (Nat.le_of_ble_eq_true rfl) rfl rfl (fun _ _ h => h.elim) ?_
    rintro _ w1 ⟨m9, g9, rfl, fw1, c1, c2, c3, c4, c5⟩
    have hf1 := fw1.2.1 hf
    refine j_aret dJx4a65c_toArray_d5877_11 rfl (Or.inr ⟨_, rfl⟩) rfl ?_ (Nat.le_of_ble_eq_true rfl) (by show _ ≤ M; omega)
    exact ⟨m9, g9, rfl, fw1, c1, c2, c3, c4, c5, fun j v hj => by simp at hj⟩
set_option maxRecDepth 100000 in
set_option maxHeartbeats 8000000 in
theorem cl_initC (hl : l.stackTraces = false) (w : z_W) (ρ σ a b M : Nat) (mo : Int32) (L : List Value) (h1 : 1000 ≤ a) (h2 : a % 64 = ρ) (ga : z_g w a = some (.inr (4, [.int 0, .null, .int 0]))) (h : z_li w σ b mo L) (hσ : σ ≠ ρ) (hne : b ≠ a) (hρ : ρ < 64) (hf : z_fn w) (hM : L.length ≤ M) (hM2 : M ≤ 1000) (hel : ∀ v ∈ L, ∃ b, v = .float b) : z_Con G l mJx4a65c_init_4bcb3 16 1 M w [.ref a, .ref b] (fun v w9 => v = none ∧ z_fw ρ w w9 ∧ z_li w9 ρ a 0 L) (fun _ _ => False) := by
  obtain ⟨v0, hv0, gb⟩ := h.cell
  have hlen := h.len
  have hir := h.2.2.1
  have hb2 := h.2.1
  refine z_body hl (by decide) rfl (Nat.le_of_ble_eq_true rfl) ?_
  show z_J G l mJx4a65c_init_4bcb3 _ 0 [(0, _), (1, _)] [] _ 0 0
  refine j_aload_n dJx4a65c_init_4bcb3_0 rfl rfl ?_
  refine j_callI dJx4a65c_init_4bcb3_1 kJxc12de_init_da8c8 rfl lJx4a65c_1 inJxc12de_init_da8c8 rfl (cl_ALi hl w ρ a h1 h2 ga) (Nat.le_of_ble_eq_true rfl) ⟨(Nat.le_of_ble_eq_true rfl), (Nat.le_of_ble_eq_true rfl)⟩ rfl (Nat.le_of_ble_eq_true rfl) rfl rfl (fun _ _ h => h.elim) ?_
  rintro _ w1 ⟨rfl, fw1, hk1, gz1⟩
  have g1_b := fw1.g (Or.inr (by omega)) gb
  have hf1 := fw1.2.1 hf
  refine j_aload_n dJx4a65c_init_4bcb3_4 rfl rfl ?_
  refine j_callF (x := ⟨"java/util/Collection", "toArray", "()[Ljava/lang/Object;"⟩) (q := (RJx4a65c, TJx4a65c, 3)) dJx4a65c_init_4bcb3_5 kJx4a65c_toArray_d5877 ⟨(z_w 1621 ((lwt_7_4 16).trans rfl) (by decide +kernel)), (z_w 1625 ((lwt_7_4 20).trans rfl) (by decide +kernel)), inJx4a65c_toArray_d5877, ⟨by decide, by decide⟩, rfl, fun U h => h.1⟩ g1_b rfl (cl_toA hl w1 ρ σ b M mo L (h.fw fw1 hσ) hρ hf1 hM hM2 (fun v hv => by obtain ⟨b9, rfl⟩ := hel v hv; exact z_elF)) (Nat.le_of_ble_eq_true rfl) ⟨(Nat.le_of_ble_eq_true rfl), (by show _ ≤ M; omega)⟩ rfl (Nat.le_of_ble_eq_true rfl) rfl ?_
  rintro _ w2 ⟨m9, g9, rfl, fw2, c1, c2, c3, c4, c5, c6⟩
  have hf2 := fw2.2.1 hf1
  have g2_a := c5 a _ gz1
  have g2_b := c5 b _ g1_b
  refine j_astore_n (lo' := [(2, _), (0, _), (1, _)]) dJx4a65c_init_4bcb3_10 rfl (by decide) rfl ?_
  refine j_aload_n dJx4a65c_init_4bcb3_11 rfl rfl ?_
  refine j_aload_n dJx4a65c_init_4bcb3_12 rfl rfl ?_
  refine j_alen dJx4a65c_init_4bcb3_13 c4 rfl rfl ?_
  refine j_dup_x1 dJx4a65c_init_4bcb3_14 rfl rfl ?_
  refine j_put (w' := _) dJx4a65c_init_4bcb3_15 fJx4a65c_48 tJx4a65c_2 g2_a ⟨rfl, rfl⟩ rfl ?_
  refine j_seal h1 ?_
  intro w3 u3
  have g3_b := (u3.2.1 _ hne).trans g2_b
  have g3_m := (u3.2.1 _ (Ne.symm (c3 a _ gz1))).trans c4
  have g3_a := u3.1
  have hf3 := u3.2.2.2 hf2
  refine j_if_eq (tgt := 57) dJx4a65c_init_4bcb3_18 (by decide) (fun c_18_25 => ?_) (fun c_18_25 => ?_)
  · have hL0 : L = [] := List.eq_nil_of_length_eq_zero (nI_inj (a := L.length) (b := 0) c_18_25 (by omega) (by omega))
    refine j_aload_n dJx4a65c_init_4bcb3_57 rfl rfl ?_
    refine j_gets dJx4a65c_init_4bcb3_58 (List.mem_of_getElem? (i := 3) rfl) rfl (z_w 1639 ((lwt_7_5 4).trans rfl) (by decide +kernel)) ?_
    refine j_put (w' := _) dJx4a65c_init_4bcb3_61 fJx4a65c_9 tJx4a65c_1 g3_a (Or.inr ⟨_, rfl⟩) rfl ?_
    refine j_seal h1 ?_
    intro w4 u4
    have g4_b := (u4.2.1 _ hne).trans g3_b
    have g4_m := (u4.2.1 _ (Ne.symm (c3 a _ gz1))).trans g3_m
    have g4_a := u4.1
    have hf4 := u4.2.2.2 hf3
    refine j_vret dJx4a65c_init_4bcb3_64 rfl ?_ (Nat.le_of_ble_eq_true rfl) (by show _ ≤ M; omega)
    exact ⟨rfl, (((fw1.tr fw2).tr (u3.fw h1 h2)).tr (u4.fw h1 h2)), h1, h2, hir, Or.inr ⟨1, hL0, by decide, by have e9 := g4_a; rw [hL0] at e9; exact e9⟩⟩
  · refine j_aload_n dJx4a65c_init_4bcb3_21 rfl rfl ?_
    refine j_gcI dJx4a65c_init_4bcb3_22 (z_w 1631 ((lwt_7_4 26).trans rfl) (by decide +kernel)) (z_w 1424 ((lwt_6_5 29).trans rfl) (by decide +kernel)) (z_w 1442 ((lwt_6_6 17).trans rfl) (by decide +kernel)) gc_i gc_n g3_b (Nat.le_of_ble_eq_true rfl) (Nat.le_of_ble_eq_true rfl) ?_
    refine j_ldcC dJx4a65c_init_4bcb3_27 (z_w 1636 ((lwt_7_5 1).trans rfl) (by decide +kernel)) ?_
    refine j_acmp_neK (tgt := 40) dJx4a65c_init_4bcb3_29 (by decide) ?_
    refine j_aload_n dJx4a65c_init_4bcb3_32 rfl rfl ?_
    refine j_aload_n dJx4a65c_init_4bcb3_33 rfl rfl ?_
    refine j_put (w' := _) dJx4a65c_init_4bcb3_34 fJx4a65c_9 tJx4a65c_1 g3_a (Or.inr ⟨_, rfl⟩) rfl ?_
    refine j_seal h1 ?_
    intro w5 u5
    have g5_b := (u5.2.1 _ hne).trans g3_b
    have g5_m := (u5.2.1 _ (Ne.symm (c3 a _ gz1))).trans g3_m
    have g5_a := u5.1
    have hf5 := u5.2.2.2 hf3
    refine j_goto (tgt := 64) dJx4a65c_init_4bcb3_37 (by decide) ?_
    refine j_vret dJx4a65c_init_4bcb3_64 rfl ?_ (Nat.le_of_ble_eq_true rfl) (by show _ ≤ M; omega)
    exact ⟨rfl, (((fw1.tr fw2).tr (u3.fw h1 h2)).tr (u5.fw h1 h2)), z_li.of h1 h2 hir ⟨c1, c2, Ne.symm (c3 a _ gz1), g5_a, g5_m, Nat.le_refl _, hlen, c6⟩⟩
end ZLt
end ZM11
section ZM12
section ZMn
variable {G : z_G} {l : Launch} {y : z_M} {S : z_S} {pc : Nat} {lo : List (Nat × Value)} {st : List Value} {w w' : z_W} {kc ks : Nat}
theorem z_inn (cc : ClassId) : Jvm.Free.Multi.innerC cc 7 (.int 0) = arrV cc 7 (fun _ => .int 0) := by
  show ({ cls := cc, slots := Array.replicate 7 (.int 0), vm := .none } : Cell) = _
  rw [arrV_new]
theorem z_out3 (cc : ClassId) (h0 : Nat) : Jvm.Free.Multi.outerC cc 3 h0 3 = arrV cc 3 (fun j => if j < 3 then .ref (h0 + 1 + j) else .null) := by
  rw [vr_outer]
  refine congrArg (arrV cc 3) (funext fun j => ?_)
  by_cases h : j < 3
  · rw [if_pos h, if_pos h]; rfl
  · rw [if_neg h, if_neg h]; rfl
set_option maxHeartbeats 4000000 in
theorem j_mnew {idx a b c d : Nat} (hd : decode y.2.1 pc = .ok (.multianewarray idx 2, 4)) (hcl : Cond.classLink y.1.cls idx "[[I" ∈ z_tbl) (hov : Cond.arrayOver (.array .int) ∈ z_nst) (har : Cond.arrayClass .int ∈ z_tbl)
    (ha : 1000 ≤ a) (hb : 1000 ≤ b) (hc : 1000 ≤ c) (hd9 : 1000 ≤ d) (fa : z_g w a = none) (fb : z_g w b = none) (fc : z_g w c = none) (fd : z_g w d = none) (nab : b ≠ a) (nac : c ≠ a) (nad : d ≠ a) (nbc : c ≠ b) (nbd : d ≠ b) (ncd : d ≠ c)
    (hcs : kc + (1 + 3) ≤ S.2.1) (hss : ks + (3 + 3 * 7) ≤ S.2.2.1)
    (h : z_J G l y S (pc + 4) lo (.ref a :: st) (z_s (z_s (z_s (z_s (z_s w a (.inl (8, 3, fun _ => .null))) b (.inl (0, 7, fun _ => .int 0))) c (.inl (0, 7, fun _ => .int 0))) d (.inl (0, 7, fun _ => .int 0))) a (.inl (8, 3, z_u (z_u (z_u (fun _ => .null) 0 (.ref b)) 1 (.ref c)) 2 (.ref d)))) (kc + 1 + 3) (ks + 3 + 3 * 7)) : z_J G l y S pc lo (.int 7 :: .int 3 :: st) w kc ks := by
  intro p e s m args below meth c9 R0 hok R H locs ls cst hat hlo hst
  obtain ⟨v1, cs1, rfl, e1, hst1⟩ := z_Lc hst
  obtain ⟨v2, cs2, rfl, e2, hst2⟩ := z_Lc hst1
  have e1 : v1 = .int 7 := e1
  have e2 : v2 = .int 3 := e2
  subst e1 e2
  have hok2 := hok
  obtain ⟨hx, hbc, -, -, -, hown, hts, henv, -, hbs, -⟩ := hok2
  obtain ⟨hO8, hR8⟩ := henv.2.1 8 _ rfl
  obtain ⟨hO0, hR0⟩ := henv.2.1 0 _ rfl
  have g8 := z_RAf hR8
  have g0 := z_RAf hR0
  intro T hT X
  obtain ⟨vm₁, cA, comp, -, fA, fC, -, -, X', step⟩ := X.multianewarray2F hx (ty := .int) hown (hts _ hcl) (show (Cond.arrayOver (.array .int)).before args s = true from henv.2.2.1 _ hov) (hts _ har) (g := F0 m pc ls (.int 7 :: .int 3 :: cs2)) rfl (by rw [hbc]; exact hd) rfl (by decide) (by decide) (by decide) (by decide) (by decide) rfl rfl hcs hss
  have ea : cA = z_dA G 8 := Option.some.inj (fA.symm.trans g8)
  have eb : comp = z_dA G 0 := Option.some.inj (fC.symm.trans g0)
  subst ea eb
  have n3 : ((3 : Int32)).toNatClampNeg = 3 := by decide
  have n7 : ((7 : Int32)).toNatClampNeg = 7 := by decide
  rw [n3, n7] at X' step
  have hTh : (T.setVm vm₁).heap = H := hT
  generalize hF : Jvm.Free.Multi.fill (T.setVm vm₁) (z_dA G 8) (z_dA G 0) 3 7 (defaultValue .int) 3 = F at X' step
  obtain ⟨f1, f2, -, -⟩ := Jvm.Free.Multi.fill_facts (T.setVm vm₁) (z_dA G 8) (z_dA G 0) 3 7 (defaultValue .int) 3
  rw [hF, hTh] at f1 f2
  have hold : ∀ x : Nat, x < H.size → F.heap[x]? = H[x]? := fun x hx => by
    have := Jvm.Free.Multi.fill_old (T.setVm vm₁) (z_dA G 8) (z_dA G 0) 3 7 (defaultValue .int) (a := x) (by rw [hTh]; exact hx) 3
    rw [hF, hTh] at this
    exact this
  have hrow : ∀ j : Nat, j < 3 → F.heap[H.size + 1 + j]? = some (arrV (z_dA G 0) 7 (fun _ => .int 0)) := fun j hj => by
    have := Jvm.Free.Multi.fill_inner (T.setVm vm₁) (z_dA G 8) (z_dA G 0) 3 7 (defaultValue .int) 3 j hj
    rw [hF, hTh] at this
    exact this.trans (congrArg some (z_inn _))
  rw [z_out3] at f2
  have wa := z_alW (e := .inl (8, 3, fun _ => .null)) fa ha
  have fb1 : z_g (z_s w a (.inl (8, 3, fun _ => .null))) b = none := by rw [z_gs_ne nab]; exact fb
  have wb := z_alW (e := .inl (0, 7, fun _ => .int 0)) fb1 hb
  have fc1 : z_g (z_s (z_s w a (.inl (8, 3, fun _ => .null))) b (.inl (0, 7, fun _ => .int 0))) c = none := by rw [z_gs_ne nbc, z_gs_ne nac]; exact fc
  have wc := z_alW (e := .inl (0, 7, fun _ => .int 0)) fc1 hc
  have fd1 : z_g (z_s (z_s (z_s w a (.inl (8, 3, fun _ => .null))) b (.inl (0, 7, fun _ => .int 0))) c (.inl (0, 7, fun _ => .int 0))) d = none := by rw [z_gs_ne ncd, z_gs_ne nbd, z_gs_ne nad]; exact fd
  have wd := z_alW (e := .inl (0, 7, fun _ => .int 0)) fd1 hd9
  have hat1 := z_alloc hbs hat wa.1 wa.2 (H' := H.push (arrV (z_dA G 8) 3 (fun _ => .null))) (Array.size_push _) (fun q hq => by rw [Array.getElem?_push, if_neg (Nat.ne_of_lt hq)]) ⟨fun _ => .null, Array.getElem?_push_size, fun _ _ => rfl⟩
  have s1 : (H.push (arrV (z_dA G 8) 3 (fun _ => .null))).size = H.size + 1 := Array.size_push _
  generalize hP1 : H.push (arrV (z_dA G 8) 3 (fun _ => .null)) = P1 at hat1 s1
  have hat2 := z_alloc hbs hat1 wb.1 wb.2 (H' := P1.push (arrV (z_dA G 0) 7 (fun _ => .int 0))) (Array.size_push _) (fun q hq => by rw [Array.getElem?_push, if_neg (Nat.ne_of_lt hq)]) ⟨fun _ => .int 0, Array.getElem?_push_size, fun _ _ => rfl⟩
  have s2 : (P1.push (arrV (z_dA G 0) 7 (fun _ => .int 0))).size = P1.size + 1 := Array.size_push _
  generalize hP2 : P1.push (arrV (z_dA G 0) 7 (fun _ => .int 0)) = P2 at hat2 s2
  have hat3 := z_alloc hbs hat2 wc.1 wc.2 (H' := P2.push (arrV (z_dA G 0) 7 (fun _ => .int 0))) (Array.size_push _) (fun q hq => by rw [Array.getElem?_push, if_neg (Nat.ne_of_lt hq)]) ⟨fun _ => .int 0, Array.getElem?_push_size, fun _ _ => rfl⟩
  have s3 : (P2.push (arrV (z_dA G 0) 7 (fun _ => .int 0))).size = P2.size + 1 := Array.size_push _
  generalize hP3 : P2.push (arrV (z_dA G 0) 7 (fun _ => .int 0)) = P3 at hat3 s3
  have hat4 := z_alloc hbs hat3 wd.1 wd.2 (H' := P3.push (arrV (z_dA G 0) 7 (fun _ => .int 0))) (Array.size_push _) (fun q hq => by rw [Array.getElem?_push, if_neg (Nat.ne_of_lt hq)]) ⟨fun _ => .int 0, Array.getElem?_push_size, fun _ _ => rfl⟩
  have s4 : (P3.push (arrV (z_dA G 0) 7 (fun _ => .int 0))).size = P3.size + 1 := Array.size_push _
  generalize hP4 : P3.push (arrV (z_dA G 0) 7 (fun _ => .int 0)) = P4 at hat4 s4
  have vV : ∀ v cv, z_V G R w v cv → z_V G ((fun m => if m = d then P3.size else (fun m => if m = c then P2.size else (fun m => if m = b then P1.size else (fun m => if m = a then H.size else R.1 m) m) m) m), R.2) _ v cv := fun v cv hv => z_Va (q := P3.size) wd.1 wd.2 v cv (z_Va (q := P2.size) wc.1 wc.2 v cv (z_Va (q := P1.size) wb.1 wb.2 v cv (z_Va (q := H.size) wa.1 wa.2 v cv hv)))
  generalize hw4 : z_s (z_s (z_s (z_s w a (.inl (8, 3, fun _ => .null))) b (.inl (0, 7, fun _ => .int 0))) c (.inl (0, 7, fun _ => .int 0))) d (.inl (0, 7, fun _ => .int 0)) = w4 at hat4 h vV
  have ga : z_g w4 a = some (.inl (8, 3, fun _ => .null)) := by rw [← hw4, z_gs_ne (Ne.symm nad), z_gs_ne (Ne.symm nac), z_gs_ne (Ne.symm nab)]; exact wa.2.1
  have gb : z_d w4 b := ⟨.inl (0, 7, fun _ => .int 0), by rw [← hw4, z_gs_ne (Ne.symm nbd), z_gs_ne (Ne.symm nbc)]; exact wb.2.1⟩
  have gc : z_d w4 c := ⟨.inl (0, 7, fun _ => .int 0), by rw [← hw4, z_gs_ne (Ne.symm ncd)]; exact wc.2.1⟩
  have gd : z_d w4 d := ⟨.inl (0, 7, fun _ => .int 0), by rw [← hw4]; exact wd.2.1⟩
  generalize hR4 : (((fun m => if m = d then P3.size else (fun m => if m = c then P2.size else (fun m => if m = b then P1.size else (fun m => if m = a then H.size else R.1 m) m) m) m) : Nat → Nat), R.2) = R4 at hat4
  have ra : R4.1 a = H.size := by rw [← hR4]; simp [Ne.symm nad, Ne.symm nac, Ne.symm nab]
  have rb : R4.1 b = H.size + 1 := by rw [← hR4]; simp [Ne.symm nbd, Ne.symm nbc, s1]
  have rc : R4.1 c = H.size + 1 + 1 := by rw [← hR4]; simp [Ne.symm ncd, s1, s2]
  have rd : R4.1 d = H.size + 1 + 2 := by rw [← hR4]; simp [s1, s2, s3]
  have hq4 : ∀ q : Nat, q ≠ H.size → F.heap[q]? = P4[q]? := fun q hq => by
    rw [← hP4, ← hP3, ← hP2, ← hP1]
    rcases Nat.lt_trichotomy q H.size with h1 | h1 | h1
    · rw [hold q h1, Array.getElem?_push, if_neg (by simp; omega), Array.getElem?_push, if_neg (by simp; omega), Array.getElem?_push, if_neg (by simp; omega), Array.getElem?_push, if_neg (by omega)]
    · exact absurd h1 hq
    · by_cases h2 : q < H.size + 4
      · obtain ⟨j, hj, rfl⟩ : ∃ j, j < 3 ∧ q = H.size + 1 + j := ⟨q - (H.size + 1), by omega, by omega⟩
        rw [hrow j hj]
        rcases (by omega : j = 0 ∨ j = 1 ∨ j = 2) with rfl | rfl | rfl
        · rw [Array.getElem?_push, if_neg (by simp <;> omega), Array.getElem?_push, if_neg (by simp), Array.getElem?_push, if_pos (by simp)]
        · rw [Array.getElem?_push, if_neg (by simp), Array.getElem?_push, if_pos (by simp)]
        · rw [Array.getElem?_push, if_pos (by simp)]
      · rw [Array.getElem?_eq_none (by rw [f1]; omega), Array.getElem?_eq_none (by simp; omega)]
  have hat5 := z_writeM (H' := F.heap) (L := []) (e := .inl (8, 3, z_u (z_u (z_u (fun _ => .null) 0 (.ref b)) 1 (.ref c)) 2 (.ref d))) hat4 ga (by rw [f1]; omega) (fun q hq => hq4 q (by rw [← ra]; exact hq)) ⟨fun j => if j < 3 then .ref (H.size + 1 + j) else .null, by rw [ra]; exact f2, fun j hj => by
    have hdd : ∀ n, z_d (z_s w4 a (.inl (8, 3, z_u (z_u (z_u (fun _ => .null) 0 (.ref b)) 1 (.ref c)) 2 (.ref d)))) n ↔ z_d w4 n := z_ds ga
    match j, hj with
    | 0, _ => exact ⟨(hdd b).mpr gb, by rw [rb]; rfl⟩
    | 1, _ => exact ⟨(hdd c).mpr gc, by rw [rc]; rfl⟩
    | 2, _ => exact ⟨(hdd d).mpr gd, by rw [rd]; rfl⟩⟩ (fun x hx => by cases hx)
  rw [List.append_nil] at hat5
  have vV5 : ∀ v cv, z_V G R w v cv → z_V G R4 (z_s w4 a (.inl (8, 3, z_u (z_u (z_u (fun _ => .null) 0 (.ref b)) 1 (.ref c)) 2 (.ref d)))) v cv := fun v cv hv => z_Vs ga v cv (by rw [← hR4]; exact vV v cv hv)
  obtain ⟨t, t1, t2⟩ := h p e s m args below meth c9 R0 hok R4 F.heap locs ls (.ref H.size :: cs2) hat5 (z_lom vV5 hlo) ⟨⟨(z_ds ga a).mpr ⟨_, ga⟩, by rw [ra]⟩, z_Lm vV5 hst2⟩ F rfl X'
  refine ⟨t, step t ?_, t2⟩
  have e9 : T.heap.size = H.size := by rw [hT]
  rw [e9]
  exact t1
end ZMn
end ZM12
section ZM13
section ZMs
def z_fu {α : Type} (f : Nat → α) (k : Nat) (x : α) : Nat → α := fun j => cond (Nat.beq j k) x (f j)
theorem z_fu_self {α : Type} {f : Nat → α} {k : Nat} {x : α} : z_fu f k x k = x := by unfold z_fu; rw [Nat.beq_refl]; rfl
theorem z_fu_ne {α : Type} {f : Nat → α} {k j : Nat} {x : α} (h : j ≠ k) : z_fu f k x j = f j := by unfold z_fu; rw [z_beq h]; rfl
abbrev z_Z : Type := (Int32 × Int32 × Int32) × (Int32 × (Nat → Nat)) × (Nat → Int32) × (Nat → Nat → Int32) × Int32 × (Nat → Int32 × Int32 × Int32 × Int32) × (Nat → Int32 × List Nat) × (Nat → Int32 × List UInt32) × (Nat → Int32 × List UInt32) × (Nat → Nat → Int32)
abbrev z_qr (s : z_Z) := s.2.1
abbrev z_qf (s : z_Z) := s.2.2.1
abbrev z_qc (s : z_Z) := s.2.2.2.1
abbrev z_qt (s : z_Z) := s.2.2.2.2.1
abbrev z_qh (s : z_Z) := s.2.2.2.2.2.1
abbrev z_qp (s : z_Z) := s.2.2.2.2.2.2.1
abbrev z_ql (s : z_Z) := s.2.2.2.2.2.2.2.1
abbrev z_qw (s : z_Z) := s.2.2.2.2.2.2.2.2.1
abbrev z_qk (s : z_Z) := s.2.2.2.2.2.2.2.2.2
abbrev z_tm (s : z_Z) (x : Int32 × Int32 × Int32) : z_Z := (x, s.2)
abbrev z_tr (s : z_Z) (x : Int32 × (Nat → Nat)) : z_Z := (s.1, x, s.2.2)
abbrev z_tf (s : z_Z) (x : Nat → Int32) : z_Z := (s.1, s.2.1, x, s.2.2.2)
abbrev z_tc (s : z_Z) (x : Nat → Nat → Int32) : z_Z := (s.1, s.2.1, s.2.2.1, x, s.2.2.2.2)
abbrev z_th (s : z_Z) (x : Nat → Int32 × Int32 × Int32 × Int32) : z_Z := (s.1, s.2.1, s.2.2.1, s.2.2.2.1, s.2.2.2.2.1, x, s.2.2.2.2.2.2)
abbrev z_tp (s : z_Z) (x : Nat → Int32 × List Nat) : z_Z := (s.1, s.2.1, s.2.2.1, s.2.2.2.1, s.2.2.2.2.1, s.2.2.2.2.2.1, x, s.2.2.2.2.2.2.2)
abbrev z_tl (s : z_Z) (x : Nat → Int32 × List UInt32) : z_Z := (s.1, s.2.1, s.2.2.1, s.2.2.2.1, s.2.2.2.2.1, s.2.2.2.2.2.1, s.2.2.2.2.2.2.1, x, s.2.2.2.2.2.2.2.2)
abbrev z_tw (s : z_Z) (x : Nat → Int32 × List UInt32) : z_Z := (s.1, s.2.1, s.2.2.1, s.2.2.2.1, s.2.2.2.2.1, s.2.2.2.2.2.1, s.2.2.2.2.2.2.1, s.2.2.2.2.2.2.2.1, x, s.2.2.2.2.2.2.2.2.2)
abbrev z_tk (s : z_Z) (x : Nat → Nat → Int32) : z_Z := (s.1, s.2.1, s.2.2.1, s.2.2.2.1, s.2.2.2.2.1, s.2.2.2.2.2.1, s.2.2.2.2.2.2.1, s.2.2.2.2.2.2.2.1, s.2.2.2.2.2.2.2.2.1, x)
def z_bx (B : List UInt32) : List Value := B.map Value.float
def z_rs (P : List Nat) : List Value := P.map Value.ref
theorem z_bx_len {B : List UInt32} : (z_bx B).length = B.length := List.length_map ..
theorem z_rs_len {P : List Nat} : (z_rs P).length = P.length := List.length_map ..
theorem z_bx_get {B : List UInt32} {j : Nat} (h : j < B.length) : (z_bx B)[j]? = some (.float (B[j]'h)) := by unfold z_bx; rw [List.getElem?_map, List.getElem?_eq_getElem h]; rfl
theorem z_rs_get {P : List Nat} {j : Nat} (h : j < P.length) : (z_rs P)[j]? = some (.ref (P[j]'h)) := by unfold z_rs; rw [List.getElem?_map, List.getElem?_eq_getElem h]; rfl
theorem z_bx_el {B : List UInt32} {ρ : Nat} {w : z_W} : ∀ v ∈ z_bx B, z_el ρ w v := fun v hv => by
  obtain ⟨b, -, rfl⟩ := List.mem_map.mp hv
  exact z_elF
theorem z_bx_fl {B : List UInt32} : ∀ v ∈ z_bx B, ∃ b, v = .float b := fun v hv => by
  obtain ⟨b, -, rfl⟩ := List.mem_map.mp hv
  exact ⟨b, rfl⟩
theorem z_bx_app {B : List UInt32} {b : UInt32} : z_bx B ++ [.float b] = z_bx (B ++ [b]) := by unfold z_bx; rw [List.map_append]; rfl
theorem z_bx_set {B : List UInt32} {b : UInt32} {j : Nat} : (z_bx B).set j (.float b) = z_bx (B.set j b) := by unfold z_bx; rw [List.map_set]
theorem z_erm {α β : Type} (f : α → β) : ∀ (l : List α) (j : Nat), (l.map f).eraseIdx j = (l.eraseIdx j).map f
  | [], _ => rfl
  | _ :: _, 0 => rfl
  | a :: l, j + 1 => by rw [List.map_cons, List.eraseIdx_cons_succ, List.eraseIdx_cons_succ, List.map_cons, z_erm f l j]
theorem z_bx_rem {B : List UInt32} {j : Nat} : (z_bx B).eraseIdx j = z_bx (B.eraseIdx j) := by unfold z_bx; exact z_erm _ _ _
theorem z_rs_rem {P : List Nat} {j : Nat} : (z_rs P).eraseIdx j = z_rs (P.eraseIdx j) := by unfold z_rs; exact z_erm _ _ _
theorem z_rs_ins {P : List Nat} {j p : Nat} : (z_rs P).take j ++ .ref p :: (z_rs P).drop j = z_rs (P.take j ++ p :: P.drop j) := by unfold z_rs; rw [List.map_append, List.map_cons, List.map_take, List.map_drop]
def z_c40 (s : z_Z) (w : z_W) : Prop := z_g w 1000 = some (.inr (15, [.int s.1.1, .ref 1001, .ref 1002, .ref 1003, .ref 1007, .ref 1008, .int s.1.2.1, .int s.1.2.2]))
def z_c41 (s : z_Z) (w : z_W) : Prop := z_li w 41 1001 (z_qr s).1 [.ref ((z_qr s).2 0), .ref ((z_qr s).2 1)]
def z_c42 (s : z_Z) (w : z_W) : Prop := z_g w 1002 = some (.inl (1, 2, fun j => .int (z_qf s j)))
def z_c43 (w : z_W) : Prop := ∃ f, z_g w 1003 = some (.inl (8, 3, f)) ∧ ∀ j, j < 3 → f j = .ref (1004 + j)
def z_c44 (s : z_Z) (w : z_W) (i : Nat) : Prop := z_g w (1004 + i) = some (.inl (0, 7, fun j => .int (z_qc s i j)))
def z_c47 (s : z_Z) (w : z_W) : Prop := z_li w 47 1007 (z_qt s) [.ref 1011, .ref 1012, .ref 1013]
def z_c48 (w : z_W) : Prop := ∃ f, z_g w 1008 = some (.inl (7, 2, f)) ∧ ∀ j, j < 2 → f j = .ref (1009 + j)
def z_c49 (s : z_Z) (w : z_W) (h : Nat) : Prop := z_g w (1009 + h) = some (.inr (14, [.int (z_qh s h).1, .int (z_qh s h).2.1, .int (z_qh s h).2.2.1, .int (z_qh s h).2.2.2, .ref (1014 + h)]))
def z_c51 (s : z_Z) (w : z_W) (t : Nat) : Prop := z_li w (51 + t) (1011 + t) (z_qp s t).1 (z_rs (z_qp s t).2)
def z_c54 (s : z_Z) (w : z_W) (h : Nat) : Prop := z_li w (54 + h) (1014 + h) (z_ql s h).1 (z_bx (z_ql s h).2) ∧ (z_ql s h).2.length ≤ 10
def z_c11 (s : z_Z) (w : z_W) (i : Nat) : Prop := z_li w (11 + i) ((z_qr s).2 i) (z_qw s i).1 (z_bx (z_qw s i).2) ∧ (z_qw s i).2.length ≤ 12
def z_pr (w : z_W) (ρ : Nat) (P : List Nat) (K : Nat → Nat → Int32) : Prop := (∀ p ∈ P, (1000 ≤ p ∧ p % 64 = ρ ∧ ∃ k, k < 20 ∧ K p 0 = nI k) ∧ z_g w p = some (.inl (0, 2, fun j => .int (K p j)))) ∧ (P.map fun p => K p 0).Nodup
def z_c14 (s : z_Z) (w : z_W) (t : Nat) : Prop := z_pr w (14 + t) (z_qp s t).2 (z_qk s)
def z_mst (w : z_W) (s : z_Z) : Prop := z_fn w ∧ z_c40 s w ∧ z_c41 s w ∧ z_c42 s w ∧ z_c43 w ∧ (∀ i, i < 3 → z_c44 s w i) ∧ z_c47 s w ∧ z_c48 w ∧ (∀ h, h < 2 → z_c49 s w h) ∧ (∀ t, t < 3 → z_c51 s w t) ∧ (∀ h, h < 2 → z_c54 s w h) ∧ (∀ i, i < 2 → z_c11 s w i) ∧ ∀ t, t < 3 → z_c14 s w t
section ZMa
variable {w w' : z_W} {s : z_Z}
theorem z_mst.fn (h : z_mst w s) : z_fn w := h.1
theorem z_mst.m (h : z_mst w s) : z_g w 1000 = some (.inr (15, [.int s.1.1, .ref 1001, .ref 1002, .ref 1003, .ref 1007, .ref 1008, .int s.1.2.1, .int s.1.2.2])) := h.2.1
theorem z_mst.rows (h : z_mst w s) : z_li w 41 1001 (z_qr s).1 [.ref ((z_qr s).2 0), .ref ((z_qr s).2 1)] := h.2.2.1
theorem z_mst.fx (h : z_mst w s) : z_g w 1002 = some (.inl (1, 2, fun j => .int (z_qf s j))) := h.2.2.2.1
theorem z_mst.co (h : z_mst w s) : ∃ f, z_g w 1003 = some (.inl (8, 3, f)) ∧ ∀ j, j < 3 → f j = .ref (1004 + j) := h.2.2.2.2.1
theorem z_mst.cn (h : z_mst w s) {i : Nat} (hi : i < 3) : z_g w (1004 + i) = some (.inl (0, 7, fun j => .int (z_qc s i j))) := h.2.2.2.2.2.1 i hi
theorem z_mst.tabs (h : z_mst w s) : z_li w 47 1007 (z_qt s) [.ref 1011, .ref 1012, .ref 1013] := h.2.2.2.2.2.2.1
theorem z_mst.hs (h : z_mst w s) : ∃ f, z_g w 1008 = some (.inl (7, 2, f)) ∧ ∀ j, j < 2 → f j = .ref (1009 + j) := h.2.2.2.2.2.2.2.1
theorem z_mst.hd (h : z_mst w s) {i : Nat} (hi : i < 2) : z_g w (1009 + i) = some (.inr (14, [.int (z_qh s i).1, .int (z_qh s i).2.1, .int (z_qh s i).2.2.1, .int (z_qh s i).2.2.2, .ref (1014 + i)])) := h.2.2.2.2.2.2.2.2.1 i hi
theorem z_mst.tb (h : z_mst w s) {t : Nat} (ht : t < 3) : z_li w (51 + t) (1011 + t) (z_qp s t).1 (z_rs (z_qp s t).2) := h.2.2.2.2.2.2.2.2.2.1 t ht
theorem z_mst.hl (h : z_mst w s) {i : Nat} (hi : i < 2) : z_li w (54 + i) (1014 + i) (z_ql s i).1 (z_bx (z_ql s i).2) ∧ (z_ql s i).2.length ≤ 10 := h.2.2.2.2.2.2.2.2.2.2.1 i hi
theorem z_mst.rw (h : z_mst w s) {i : Nat} (hi : i < 2) : z_li w (11 + i) ((z_qr s).2 i) (z_qw s i).1 (z_bx (z_qw s i).2) ∧ (z_qw s i).2.length ≤ 12 := h.2.2.2.2.2.2.2.2.2.2.2.1 i hi
theorem z_mst.pr (h : z_mst w s) {t : Nat} (ht : t < 3) : z_pr w (14 + t) (z_qp s t).2 (z_qk s) := h.2.2.2.2.2.2.2.2.2.2.2.2 t ht
theorem z_pr.m {ρ : Nat} {P : List Nat} {K : Nat → Nat → Int32} (hw : ∀ n, 1000 ≤ n → n % 64 = ρ → z_g w' n = z_g w n) (h : z_pr w ρ P K) : z_pr w' ρ P K := ⟨fun p hp => ⟨(h.1 p hp).1, (hw p (h.1 p hp).1.1 (h.1 p hp).1.2.1).trans (h.1 p hp).2⟩, h.2⟩
theorem z_mst.gar {γ : Nat} (h : z_mst w s) (hw : z_fw γ w w') (hγ : γ < 11 ∨ (17 ≤ γ ∧ γ < 40) ∨ 56 ≤ γ) : z_mst w' s := by
  obtain ⟨h0, h1, h2, h3, ⟨f4, h4, h4'⟩, h5, h6, ⟨f7, h7, h7'⟩, h8, h9, h10, h11, h12⟩ := h
  have k : ∀ r, r ≠ γ → ∀ n, 1000 ≤ n → n % 64 = r → z_g w' n = z_g w n := fun r hr n _ hn => hw.2.2 n (Or.inr (by omega))
  exact ⟨hw.2.1 h0, (k 40 (by omega) 1000 (by omega) (by omega)).trans h1, z_li.m (k 41 (by omega)) h2, (k 42 (by omega) 1002 (by omega) (by omega)).trans h3, ⟨f4, (k 43 (by omega) 1003 (by omega) (by omega)).trans h4, h4'⟩, fun i hi => (k (44 + i) (by omega) (1004 + i) (by omega) (by omega)).trans (h5 i hi), z_li.m (k 47 (by omega)) h6, ⟨f7, (k 48 (by omega) 1008 (by omega) (by omega)).trans h7, h7'⟩, fun i hi => (k (49 + i) (by omega) (1009 + i) (by omega) (by omega)).trans (h8 i hi), fun t ht => z_li.m (k (51 + t) (by omega)) (h9 t ht), fun i hi => ⟨z_li.m (k (54 + i) (by omega)) (h10 i hi).1, (h10 i hi).2⟩, fun i hi => ⟨z_li.m (k (11 + i) (by omega)) (h11 i hi).1, (h11 i hi).2⟩, fun t ht => z_pr.m (k (14 + t) (by omega)) (h12 t ht)⟩
theorem z_mst.up40 {a b c : Int32} (h : z_mst w s) (hw : z_fw 40 w w') (u : z_g w' 1000 = some (.inr (15, [.int a, .ref 1001, .ref 1002, .ref 1003, .ref 1007, .ref 1008, .int b, .int c]))) : z_mst w' (z_tm s (a, b, c)) := by
  obtain ⟨h0, h1, h2, h3, ⟨f4, h4, h4'⟩, h5, h6, ⟨f7, h7, h7'⟩, h8, h9, h10, h11, h12⟩ := h
  have k : ∀ r, r ≠ 40 → ∀ n, 1000 ≤ n → n % 64 = r → z_g w' n = z_g w n := fun r hr n _ hn => hw.2.2 n (Or.inr (by omega))
  exact ⟨hw.2.1 h0, u, z_li.m (k 41 (by omega)) h2, (k 42 (by omega) 1002 (by omega) (by omega)).trans h3, ⟨f4, (k 43 (by omega) 1003 (by omega) (by omega)).trans h4, h4'⟩, fun i hi => (k (44 + i) (by omega) (1004 + i) (by omega) (by omega)).trans (h5 i hi), z_li.m (k 47 (by omega)) h6, ⟨f7, (k 48 (by omega) 1008 (by omega) (by omega)).trans h7, h7'⟩, fun i hi => (k (49 + i) (by omega) (1009 + i) (by omega) (by omega)).trans (h8 i hi), fun t ht => z_li.m (k (51 + t) (by omega)) (h9 t ht), fun i hi => ⟨z_li.m (k (54 + i) (by omega)) (h10 i hi).1, (h10 i hi).2⟩, fun i hi => ⟨z_li.m (k (11 + i) (by omega)) (h11 i hi).1, (h11 i hi).2⟩, fun t ht => z_pr.m (k (14 + t) (by omega)) (h12 t ht)⟩
theorem z_mst.up42 {F : Nat → Int32} (h : z_mst w s) (hw : z_fw 42 w w') (u : z_g w' 1002 = some (.inl (1, 2, fun j => .int (F j)))) : z_mst w' (z_tf s F) := by
  obtain ⟨h0, h1, h2, h3, ⟨f4, h4, h4'⟩, h5, h6, ⟨f7, h7, h7'⟩, h8, h9, h10, h11, h12⟩ := h
  have k : ∀ r, r ≠ 42 → ∀ n, 1000 ≤ n → n % 64 = r → z_g w' n = z_g w n := fun r hr n _ hn => hw.2.2 n (Or.inr (by omega))
  exact ⟨hw.2.1 h0, (k 40 (by omega) 1000 (by omega) (by omega)).trans h1, z_li.m (k 41 (by omega)) h2, u, ⟨f4, (k 43 (by omega) 1003 (by omega) (by omega)).trans h4, h4'⟩, fun i hi => (k (44 + i) (by omega) (1004 + i) (by omega) (by omega)).trans (h5 i hi), z_li.m (k 47 (by omega)) h6, ⟨f7, (k 48 (by omega) 1008 (by omega) (by omega)).trans h7, h7'⟩, fun i hi => (k (49 + i) (by omega) (1009 + i) (by omega) (by omega)).trans (h8 i hi), fun t ht => z_li.m (k (51 + t) (by omega)) (h9 t ht), fun i hi => ⟨z_li.m (k (54 + i) (by omega)) (h10 i hi).1, (h10 i hi).2⟩, fun i hi => ⟨z_li.m (k (11 + i) (by omega)) (h11 i hi).1, (h11 i hi).2⟩, fun t ht => z_pr.m (k (14 + t) (by omega)) (h12 t ht)⟩
theorem z_mst.up44 {i0 : Nat} {F : Nat → Int32} (h : z_mst w s) (hi0 : i0 < 3) (hw : z_fw (44 + i0) w w') (u : z_g w' (1004 + i0) = some (.inl (0, 7, fun j => .int (F j)))) : z_mst w' (z_tc s (z_fu (z_qc s) i0 F)) := by
  obtain ⟨h0, h1, h2, h3, ⟨f4, h4, h4'⟩, h5, h6, ⟨f7, h7, h7'⟩, h8, h9, h10, h11, h12⟩ := h
  have k : ∀ r, r ≠ 44 + i0 → ∀ n, 1000 ≤ n → n % 64 = r → z_g w' n = z_g w n := fun r hr n _ hn => hw.2.2 n (Or.inr (by omega))
  exact ⟨hw.2.1 h0, (k 40 (by omega) 1000 (by omega) (by omega)).trans h1, z_li.m (k 41 (by omega)) h2, (k 42 (by omega) 1002 (by omega) (by omega)).trans h3, ⟨f4, (k 43 (by omega) 1003 (by omega) (by omega)).trans h4, h4'⟩, fun i hi => (by
    show z_g w' (1004 + i) = some (.inl (0, 7, fun j => .int (z_fu (z_qc s) i0 F i j)))
    by_cases hii : i = i0
    · subst hii; rw [z_fu_self]; exact u
    · rw [z_fu_ne hii]; exact (k (44 + i) (by omega) (1004 + i) (by omega) (by omega)).trans (h5 i hi)), z_li.m (k 47 (by omega)) h6, ⟨f7, (k 48 (by omega) 1008 (by omega) (by omega)).trans h7, h7'⟩, fun i hi => (k (49 + i) (by omega) (1009 + i) (by omega) (by omega)).trans (h8 i hi), fun t ht => z_li.m (k (51 + t) (by omega)) (h9 t ht), fun i hi => ⟨z_li.m (k (54 + i) (by omega)) (h10 i hi).1, (h10 i hi).2⟩, fun i hi => ⟨z_li.m (k (11 + i) (by omega)) (h11 i hi).1, (h11 i hi).2⟩, fun t ht => z_pr.m (k (14 + t) (by omega)) (h12 t ht)⟩
theorem z_mst.up49 {i0 : Nat} {a b c d : Int32} (h : z_mst w s) (hi0 : i0 < 2) (hw : z_fw (49 + i0) w w') (u : z_g w' (1009 + i0) = some (.inr (14, [.int a, .int b, .int c, .int d, .ref (1014 + i0)]))) : z_mst w' (z_th s (z_fu (z_qh s) i0 (a, b, c, d))) := by
  obtain ⟨h0, h1, h2, h3, ⟨f4, h4, h4'⟩, h5, h6, ⟨f7, h7, h7'⟩, h8, h9, h10, h11, h12⟩ := h
  have k : ∀ r, r ≠ 49 + i0 → ∀ n, 1000 ≤ n → n % 64 = r → z_g w' n = z_g w n := fun r hr n _ hn => hw.2.2 n (Or.inr (by omega))
  exact ⟨hw.2.1 h0, (k 40 (by omega) 1000 (by omega) (by omega)).trans h1, z_li.m (k 41 (by omega)) h2, (k 42 (by omega) 1002 (by omega) (by omega)).trans h3, ⟨f4, (k 43 (by omega) 1003 (by omega) (by omega)).trans h4, h4'⟩, fun i hi => (k (44 + i) (by omega) (1004 + i) (by omega) (by omega)).trans (h5 i hi), z_li.m (k 47 (by omega)) h6, ⟨f7, (k 48 (by omega) 1008 (by omega) (by omega)).trans h7, h7'⟩, fun i hi => (by
    show z_g w' (1009 + i) = some (.inr (14, [.int (z_fu (z_qh s) i0 (a, b, c, d) i).1, .int (z_fu (z_qh s) i0 (a, b, c, d) i).2.1, .int (z_fu (z_qh s) i0 (a, b, c, d) i).2.2.1, .int (z_fu (z_qh s) i0 (a, b, c, d) i).2.2.2, .ref (1014 + i)]))
    by_cases hii : i = i0
    · subst hii; rw [z_fu_self]; exact u
    · rw [z_fu_ne hii]; exact (k (49 + i) (by omega) (1009 + i) (by omega) (by omega)).trans (h8 i hi)), fun t ht => z_li.m (k (51 + t) (by omega)) (h9 t ht), fun i hi => ⟨z_li.m (k (54 + i) (by omega)) (h10 i hi).1, (h10 i hi).2⟩, fun i hi => ⟨z_li.m (k (11 + i) (by omega)) (h11 i hi).1, (h11 i hi).2⟩, fun t ht => z_pr.m (k (14 + t) (by omega)) (h12 t ht)⟩
theorem z_mst.li54 {i0 : Nat} {mo : Int32} {B : List UInt32} (h : z_mst w s) (hi0 : i0 < 2) (hw : z_fw (54 + i0) w w') (u : z_li w' (54 + i0) (1014 + i0) mo (z_bx B)) (hB : B.length ≤ 10) : z_mst w' (z_tl s (z_fu (z_ql s) i0 (mo, B))) := by
  obtain ⟨h0, h1, h2, h3, ⟨f4, h4, h4'⟩, h5, h6, ⟨f7, h7, h7'⟩, h8, h9, h10, h11, h12⟩ := h
  have k : ∀ r, r ≠ 54 + i0 → ∀ n, 1000 ≤ n → n % 64 = r → z_g w' n = z_g w n := fun r hr n _ hn => hw.2.2 n (Or.inr (by omega))
  exact ⟨hw.2.1 h0, (k 40 (by omega) 1000 (by omega) (by omega)).trans h1, z_li.m (k 41 (by omega)) h2, (k 42 (by omega) 1002 (by omega) (by omega)).trans h3, ⟨f4, (k 43 (by omega) 1003 (by omega) (by omega)).trans h4, h4'⟩, fun i hi => (k (44 + i) (by omega) (1004 + i) (by omega) (by omega)).trans (h5 i hi), z_li.m (k 47 (by omega)) h6, ⟨f7, (k 48 (by omega) 1008 (by omega) (by omega)).trans h7, h7'⟩, fun i hi => (k (49 + i) (by omega) (1009 + i) (by omega) (by omega)).trans (h8 i hi), fun t ht => z_li.m (k (51 + t) (by omega)) (h9 t ht), fun i hi => (by
    show z_li w' (54 + i) (1014 + i) (z_fu (z_ql s) i0 (mo, B) i).1 (z_bx (z_fu (z_ql s) i0 (mo, B) i).2) ∧ (z_fu (z_ql s) i0 (mo, B) i).2.length ≤ 10
    by_cases hii : i = i0
    · subst hii; rw [z_fu_self]; exact ⟨u, hB⟩
    · rw [z_fu_ne hii]; exact ⟨z_li.m (k (54 + i) (by omega)) (h10 i hi).1, (h10 i hi).2⟩), fun i hi => ⟨z_li.m (k (11 + i) (by omega)) (h11 i hi).1, (h11 i hi).2⟩, fun t ht => z_pr.m (k (14 + t) (by omega)) (h12 t ht)⟩
theorem z_mst.li11 {i0 : Nat} {mo : Int32} {B : List UInt32} (h : z_mst w s) (hi0 : i0 < 2) (hw : z_fw (11 + i0) w w') (u : z_li w' (11 + i0) ((z_qr s).2 i0) mo (z_bx B)) (hB : B.length ≤ 12) : z_mst w' (z_tw s (z_fu (z_qw s) i0 (mo, B))) := by
  obtain ⟨h0, h1, h2, h3, ⟨f4, h4, h4'⟩, h5, h6, ⟨f7, h7, h7'⟩, h8, h9, h10, h11, h12⟩ := h
  have k : ∀ r, r ≠ 11 + i0 → ∀ n, 1000 ≤ n → n % 64 = r → z_g w' n = z_g w n := fun r hr n _ hn => hw.2.2 n (Or.inr (by omega))
  exact ⟨hw.2.1 h0, (k 40 (by omega) 1000 (by omega) (by omega)).trans h1, z_li.m (k 41 (by omega)) h2, (k 42 (by omega) 1002 (by omega) (by omega)).trans h3, ⟨f4, (k 43 (by omega) 1003 (by omega) (by omega)).trans h4, h4'⟩, fun i hi => (k (44 + i) (by omega) (1004 + i) (by omega) (by omega)).trans (h5 i hi), z_li.m (k 47 (by omega)) h6, ⟨f7, (k 48 (by omega) 1008 (by omega) (by omega)).trans h7, h7'⟩, fun i hi => (k (49 + i) (by omega) (1009 + i) (by omega) (by omega)).trans (h8 i hi), fun t ht => z_li.m (k (51 + t) (by omega)) (h9 t ht), fun i hi => ⟨z_li.m (k (54 + i) (by omega)) (h10 i hi).1, (h10 i hi).2⟩, fun i hi => (by
    show z_li w' (11 + i) ((z_qr s).2 i) (z_fu (z_qw s) i0 (mo, B) i).1 (z_bx (z_fu (z_qw s) i0 (mo, B) i).2) ∧ (z_fu (z_qw s) i0 (mo, B) i).2.length ≤ 12
    by_cases hii : i = i0
    · subst hii; rw [z_fu_self]; exact ⟨u, hB⟩
    · rw [z_fu_ne hii]; exact ⟨z_li.m (k (11 + i) (by omega)) (h11 i hi).1, (h11 i hi).2⟩), fun t ht => z_pr.m (k (14 + t) (by omega)) (h12 t ht)⟩
end ZMa
end ZMs
end ZM13
section ZM14
section ZMb
def z_fm (q : Nat) (w w' : z_W) : Prop := w'.1 = w.1 ∧ ∀ n, 1000 ≤ n → q ≤ n % 64 → z_g w' n = z_g w n
theorem z_fm.rf {q : Nat} {w : z_W} : z_fm q w w := ⟨rfl, fun _ _ _ => rfl⟩
theorem z_fm.tr {q : Nat} {a b c : z_W} (h : z_fm q a b) (h2 : z_fm q b c) : z_fm q a c := ⟨h2.1.trans h.1, fun n h3 h4 => (h2.2 n h3 h4).trans (h.2 n h3 h4)⟩
theorem z_fm.le {q q' : Nat} {a b : z_W} (h : z_fm q a b) (hq : q ≤ q') : z_fm q' a b := ⟨h.1, fun n h3 h4 => h.2 n h3 (Nat.le_trans hq h4)⟩
theorem z_fw.fm {q ρ : Nat} {w w' : z_W} (h : z_fw ρ w w') (hq : ρ < q) : z_fm q w w' := ⟨h.1, fun n h3 h4 => h.2.2 n (Or.inr (by omega))⟩
theorem z_fm.g {q n : Nat} {w w' : z_W} {e : z_E} (h : z_fm q w w') (h1 : 1000 ≤ n) (h2 : q ≤ n % 64) (hg : z_g w n = some e) : z_g w' n = some e := (h.2 n h1 h2).trans hg
def z_key (s : z_Z) : Int32 × (Nat → Int32) × (Nat → Int32) := (s.1.2.2, z_qf s, fun h => (z_qh s h).1)
theorem z_ke {w : z_W} {s1 s2 : z_Z} {K : Int32 × (Nat → Int32) × (Nat → Int32)} (_ : z_mst w s2) (k : z_key s1 = K) (e : z_key s2 = z_key s1) : z_key s2 = K := e.trans k
theorem z_keH {s : z_Z} {i : Nat} {b c d : Int32} : z_key (z_th s (z_fu (z_qh s) i ((z_qh s i).1, b, c, d))) = z_key s := by
  unfold z_key
  refine congrArg (fun f => (s.1.2.2, z_qf s, f)) (funext fun h => ?_)
  show (z_fu (z_qh s) i ((z_qh s i).1, b, c, d) h).1 = (z_qh s h).1
  by_cases hh : h = i
  · subst hh; rw [z_fu_self]
  · rw [z_fu_ne hh]
theorem z_two2 {i : Nat} {f : Nat → Nat} (h : i < 2) : ([.ref (f 0), .ref (f 1)] : List Value)[i]? = some (.ref (f i)) := by
  rcases (by omega : i = 0 ∨ i = 1) with rfl | rfl <;> rfl
theorem z_thr3 {t : Nat} (h : t < 3) : ([.ref 1011, .ref 1012, .ref 1013] : List Value)[t]? = some (.ref (1011 + t)) := by
  rcases (by omega : t = 0 ∨ t = 1 ∨ t = 2) with rfl | rfl | rfl <;> rfl
theorem z_li.is {w : z_W} {ρ a : Nat} {mo : Int32} {L : List Value} (h : z_li w ρ a mo L) : z_is w (.ref a) "java/util/ArrayList" := by
  obtain ⟨v, -, hg⟩ := h.cell
  exact Or.inl ⟨_, _, hg, rfl, rfl⟩
theorem z_isA {w : z_W} {p n : Nat} {f : Nat → Value} (h : z_g w p = some (.inl (0, n, f))) : z_is w (.ref p) "[I" := Or.inr ⟨_, _, h, rfl, rfl⟩
theorem z_nat {k : Int32} {m : Nat} {a b : Int32} (ha : a = nI 0) (hb : b = nI m) (hm : m < 2147483648) (h : a ≤ k ∧ k ≤ b) : ∃ i, i < m + 1 ∧ k = nI i := by
  subst ha hb
  have h0 : (0 : Int32) ≤ k := h.1
  refine ⟨k.toNatClampNeg, ?_, ?_⟩
  · have := Int32.le_iff_toInt_le.mp h.2
    have e : (nI m).toInt = m := by
      have e9 := z_cla hm
      have p9 := nI_pos' (n := m) hm
      have := Int32.le_iff_toInt_le.mp p9
      have e0 : (0 : Int32).toInt = 0 := by decide
      rw [e0] at this
      unfold Int32.toNatClampNeg at e9
      omega
    unfold Int32.toNatClampNeg
    omega
  · have p := Int32.le_iff_toInt_le.mp h0
    have e0 : (0 : Int32).toInt = 0 := by decide
    rw [e0] at p
    have hlt : k.toNatClampNeg < 2147483648 := by
      have := Int32.toInt_lt k
      unfold Int32.toNatClampNeg
      omega
    refine Int32.toInt_inj.mp ?_
    have e9 := z_cla hlt
    have p9 := nI_pos' (n := k.toNatClampNeg) hlt
    have q9 := Int32.le_iff_toInt_le.mp p9
    rw [e0] at q9
    have e8 : (nI k.toNatClampNeg).toInt = ((nI k.toNatClampNeg).toNatClampNeg : Int) := by unfold Int32.toNatClampNeg at *; omega
    rw [e8, e9]
    unfold Int32.toNatClampNeg
    omega
def z_vl (x : Int32) : Prop := -999 ≤ x ∧ x ≤ 999
def z_mny (a b c : Int32) : Int32 := if a ≤ b then (b - a) / c + 1 else 0
end ZMb
end ZM14
section ZM15
section ZMc
variable {G : z_G} {l : Launch}
theorem cl_val (hl : l.stackTraces = false) (w : z_W) (x : Int32) : z_Con G l mJ6_valueOf_2dffe 12 1 1 w [.int x] (fun v w9 => v = some (.float x.toUInt32) ∧ w9 = w) (fun _ _ => False) :=
  z_weak (z_frame (w := w) [] rfl (by decide) (Nat.le_of_ble_eq_true rfl) (c_J6_valueOf_2dffe hl x)) (fun v w' h => by obtain ⟨_, _, ⟨rfl, rfl⟩, rfl, rfl⟩ := h; exact ⟨rfl, rfl⟩) (fun _ _ h => h)
theorem cl_sizeB (hl : l.stackTraces = false) (w : z_W) (ρ a : Nat) (mo : Int32) (B : List UInt32) (h : z_li w ρ a mo (z_bx B)) : z_Con G l mJx4a65c_size_8abf5 10 0 0 w [.ref a] (fun v w9 => (∃ n, v = some (.int (nI n)) ∧ n = B.length) ∧ w9 = w) (fun _ _ => False) :=
  z_weak (cl_size hl w ρ a mo _ h) (fun v w' h => ⟨⟨_, h.1, z_bx_len⟩, h.2⟩) (fun _ _ h => h)
theorem cl_sizeR (hl : l.stackTraces = false) (w : z_W) (ρ a : Nat) (mo : Int32) (P : List Nat) (h : z_li w ρ a mo (z_rs P)) : z_Con G l mJx4a65c_size_8abf5 10 0 0 w [.ref a] (fun v w9 => (∃ n, v = some (.int (nI n)) ∧ n = P.length) ∧ w9 = w) (fun _ _ => False) :=
  z_weak (cl_size hl w ρ a mo _ h) (fun v w' h => ⟨⟨_, h.1, z_rs_len⟩, h.2⟩) (fun _ _ h => h)
theorem z_rs_ex {P : List Nat} {k : Nat} (h : k < P.length) : ∃ p, p ∈ P ∧ (z_rs P)[k]? = some (.ref p) ∧ P[k]? = some p := ⟨P[k]'h, List.getElem_mem h, z_rs_get h, List.getElem?_eq_getElem h⟩
def z_rec (B : List UInt32) (x : Int32) : List UInt32 := if (B ++ [x.toUInt32]).length ≤ 10 then B ++ [x.toUInt32] else (B ++ [x.toUInt32]).eraseIdx 0
def z_sx (s s9 : z_Z) : Prop := s9.1 = s.1 ∧ z_qr s9 = z_qr s ∧ z_qf s9 = z_qf s ∧ z_qc s9 = z_qc s ∧ z_qt s9 = z_qt s ∧ z_qp s9 = z_qp s ∧ z_qw s9 = z_qw s ∧ z_qk s9 = z_qk s
theorem z_le10 {n : Nat} (hn : n < 2147483648) (h : nI n ≤ 10) : n ≤ 10 := (nI_leI (a := n) (b := 10) hn (by omega)).mp h
theorem z_gt10 {n : Nat} (hn : n < 2147483648) (h : ¬ nI n ≤ 10) : ¬ n ≤ 10 := fun z => h ((nI_leI (a := n) (b := 10) hn (by omega)).mpr z)
end ZMc
end ZM15
section ZM16
section ZMd
theorem j_zsto {G : z_G} {l : Launch} {y : z_M} {S : z_S} {pc : Nat} {lo : List (Nat × Value)} {st : List Value} {w w' : z_W} {kc ks a n : Nat} {f : Nat → Int32} {i x : Int32} (hd : decode y.2.1 pc = .ok (.bastore, 1)) (hg : z_g w a = some (.inl (1, n, fun j => .int (f j)))) (hin : vp_in i n) (hnr : narrow .boolean (.int x) = .int x) (hw : z_s w a (.inl (1, n, fun j => .int (z_ui f i.toNatClampNeg x j))) = w') (h : z_J G l y S (pc + 1) lo st w' kc ks) : z_J G l y S pc lo (.int x :: .int i :: .ref a :: st) w kc ks :=
  j_zast hd hg hin hnr (by rw [z_uie]; exact hw) h
theorem z_nat1 {k : Int32} {m : Nat} {b : Int32} (hb : b = nI m) (hm : m < 2147483648) (h : 1 ≤ k ∧ k ≤ b) : ∃ i, 1 ≤ i ∧ i < m + 1 ∧ k = nI i := by
  obtain ⟨i, h1, rfl⟩ := z_nat (k := k) (a := 0) rfl hb hm ⟨Int32.le_trans (by decide) h.1, h.2⟩
  exact ⟨i, (nI_leI (a := 1) (b := i) (by omega) (by omega)).mp h.1, h1, rfl⟩
theorem z_natm {k : Int32} {n : Nat} (hn : n < 2147483648) (h : 0 ≤ k ∧ k ≤ nI n - 1) : ∃ i, i < n ∧ k = nI i := by
  cases n with
  | zero => exact absurd (Int32.le_trans h.1 h.2) (by decide)
  | succ n =>
    rw [nI_pred] at h
    exact z_nat (k := k) (a := 0) rfl rfl (by omega) h
theorem z_ne0 {x : Int32} (h : 1 ≤ x) : ¬ x = 0 := fun z => by subst z; exact absurd h (by decide)
theorem z_mst.cp {w w2 w3 : z_W} {s : z_Z} {i0 x : Nat} {mo mr : Int32} {B : List UInt32} (h : z_mst w s) (hi0 : i0 < 2) (hw2 : z_fw (11 + i0) w w2) (hw3 : z_fw 41 w2 w3) (hr : z_li w3 41 1001 mr (([.ref ((z_qr s).2 0), .ref ((z_qr s).2 1)] : List Value).set i0 (.ref x))) (u : z_li w2 (11 + i0) x mo (z_bx B)) (hB : B.length ≤ 12) : z_mst w3 (z_tw (z_tr s (mr, z_fu (z_qr s).2 i0 x)) (z_fu (z_qw s) i0 (mo, B))) := by
  obtain ⟨h0, h1, h2, h3, ⟨f4, h4, h4'⟩, h5, h6, ⟨f7, h7, h7'⟩, h8, h9, h10, h11, h12⟩ := h
  have k : ∀ r, r ≠ 11 + i0 → r ≠ 41 → ∀ n, 1000 ≤ n → n % 64 = r → z_g w3 n = z_g w n := fun r hr hr2 n _ hn => (hw3.2.2 n (Or.inr (by omega))).trans (hw2.2.2 n (Or.inr (by omega)))
  exact ⟨hw3.2.1 (hw2.2.1 h0), (k 40 (by omega) (by omega) 1000 (by omega) (by omega)).trans h1, (by
    show z_li w3 41 1001 mr [.ref (z_fu (z_qr s).2 i0 x 0), .ref (z_fu (z_qr s).2 i0 x 1)]
    rcases (by omega : i0 = 0 ∨ i0 = 1) with rfl | rfl <;> exact hr), (k 42 (by omega) (by omega) 1002 (by omega) (by omega)).trans h3, ⟨f4, (k 43 (by omega) (by omega) 1003 (by omega) (by omega)).trans h4, h4'⟩, fun i hi => (k (44 + i) (by omega) (by omega) (1004 + i) (by omega) (by omega)).trans (h5 i hi), z_li.m (k 47 (by omega) (by omega)) h6, ⟨f7, (k 48 (by omega) (by omega) 1008 (by omega) (by omega)).trans h7, h7'⟩, fun i hi => (k (49 + i) (by omega) (by omega) (1009 + i) (by omega) (by omega)).trans (h8 i hi), fun t ht => z_li.m (k (51 + t) (by omega) (by omega)) (h9 t ht), fun i hi => ⟨z_li.m (k (54 + i) (by omega) (by omega)) (h10 i hi).1, (h10 i hi).2⟩, fun i hi => (by
    show z_li w3 (11 + i) (z_fu (z_qr s).2 i0 x i) (z_fu (z_qw s) i0 (mo, B) i).1 (z_bx (z_fu (z_qw s) i0 (mo, B) i).2) ∧ (z_fu (z_qw s) i0 (mo, B) i).2.length ≤ 12
    by_cases hii : i = i0
    · subst hii; rw [z_fu_self, z_fu_self]; exact ⟨u.fw hw3 (by omega), hB⟩
    · rw [z_fu_ne hii, z_fu_ne hii]; exact ⟨z_li.m (k (11 + i) (by omega) (by omega)) (h11 i hi).1, (h11 i hi).2⟩), fun t ht => z_pr.m (k (14 + t) (by omega) (by omega)) (h12 t ht)⟩
end ZMd
section ZMd2
theorem z_nodup_le : ∀ (n : Nat) (L : List Nat), L.Nodup → (∀ x ∈ L, x < n) → L.length ≤ n
  | 0, L, _, h => by
    cases L with
    | nil => exact Nat.le_refl _
    | cons a t => exact absurd (h a List.mem_cons_self) (Nat.not_lt_zero _)
  | n + 1, L, hd, h => by
    have h1 := z_nodup_le n (L.erase n) (hd.erase n) (fun x hx => by
      have h2 := h x (List.mem_of_mem_erase hx)
      have h3 : x ≠ n := fun z => by subst z; exact absurd hx (hd.not_mem_erase)
      omega)
    have h4 : L.length ≤ (L.erase n).length + 1 := by
      rw [List.length_erase]
      split <;> omega
    omega
theorem z_pr.len {w : z_W} {ρ : Nat} {P : List Nat} {K : Nat → Nat → Int32} (h : z_pr w ρ P K) : P.length ≤ 20 := by
  have h1 := z_nodup_le 20 (P.map fun p => (K p 0).toNatClampNeg) (by
    have h2 := h.2
    rw [List.Nodup, List.pairwise_map] at h2 ⊢
    refine List.Pairwise.imp_of_mem (fun {a b} ha hb hab => ?_) h2
    obtain ⟨k1, a1, a2⟩ := (h.1 a ha).1.2.2
    obtain ⟨k2, b1, b2⟩ := (h.1 b hb).1.2.2
    intro e
    rw [a2, b2, z_cla (by omega), z_cla (by omega)] at e
    exact hab (by rw [a2, b2, e])) (fun x hx => by
    obtain ⟨p, hp, rfl⟩ := List.mem_map.mp hx
    obtain ⟨k1, a1, a2⟩ := (h.1 p hp).1.2.2
    rw [a2, z_cla (by omega)]
    exact a1)
  rw [List.length_map] at h1
  exact h1
end ZMd2
end ZM16
section ZM17
section ZMe
variable {w w' : z_W} {s : z_Z}
theorem z_li.mono {ρ a : Nat} {mo : Int32} {L : List Value} (hw : ∀ (k : Nat) (e : z_E), z_g w k = some e → z_g w' k = some e) (h : z_li w ρ a mo L) : z_li w' ρ a mo L := by
  obtain ⟨h1, h2, h3, h4⟩ := h
  refine ⟨h1, h2, h3, ?_⟩
  rcases h4 with ⟨m, n, f, a1, a2, a3, a4, a5, a6⟩ | ⟨k, a1, a2, a3⟩
  · exact Or.inl ⟨m, n, f, a1, a2, a3, hw _ _ a4, hw _ _ a5, a6⟩
  · exact Or.inr ⟨k, a1, a2, hw _ _ a3⟩
theorem z_pr.mono {ρ : Nat} {P : List Nat} {K : Nat → Nat → Int32} (hw : ∀ (k : Nat) (e : z_E), z_g w k = some e → z_g w' k = some e) (h : z_pr w ρ P K) : z_pr w' ρ P K := ⟨fun p hp => ⟨(h.1 p hp).1, hw _ _ (h.1 p hp).2⟩, h.2⟩
theorem z_mst.mono (h : z_mst w s) (hw : ∀ (k : Nat) (e : z_E), z_g w k = some e → z_g w' k = some e) (hf : z_fn w') : z_mst w' s := by
  obtain ⟨h0, h1, h2, h3, ⟨f4, h4, h4'⟩, h5, h6, ⟨f7, h7, h7'⟩, h8, h9, h10, h11, h12⟩ := h
  exact ⟨hf, hw _ _ h1, z_li.mono hw h2, hw _ _ h3, ⟨f4, hw _ _ h4, h4'⟩, fun i hi => hw _ _ (h5 i hi), z_li.mono hw h6, ⟨f7, hw _ _ h7, h7'⟩, fun i hi => hw _ _ (h8 i hi), fun t ht => z_li.mono hw (h9 t ht), fun i hi => ⟨z_li.mono hw (h10 i hi).1, (h10 i hi).2⟩, fun i hi => ⟨z_li.mono hw (h11 i hi).1, (h11 i hi).2⟩, fun t ht => z_pr.mono hw (h12 t ht)⟩
theorem z_mst.li51 {t0 : Nat} {mo : Int32} {P : List Nat} (h : z_mst w s) (ht0 : t0 < 3) (hw : z_fw (51 + t0) w w') (u : z_li w' (51 + t0) (1011 + t0) mo (z_rs P)) (hp : z_pr w' (14 + t0) P (z_qk s)) : z_mst w' (z_tp s (z_fu (z_qp s) t0 (mo, P))) := by
  obtain ⟨h0, h1, h2, h3, ⟨f4, h4, h4'⟩, h5, h6, ⟨f7, h7, h7'⟩, h8, h9, h10, h11, h12⟩ := h
  have k : ∀ r, r ≠ 51 + t0 → ∀ n, 1000 ≤ n → n % 64 = r → z_g w' n = z_g w n := fun r hr n _ hn => hw.2.2 n (Or.inr (by omega))
  exact ⟨hw.2.1 h0, (k 40 (by omega) 1000 (by omega) (by omega)).trans h1, z_li.m (k 41 (by omega)) h2, (k 42 (by omega) 1002 (by omega) (by omega)).trans h3, ⟨f4, (k 43 (by omega) 1003 (by omega) (by omega)).trans h4, h4'⟩, fun i hi => (k (44 + i) (by omega) (1004 + i) (by omega) (by omega)).trans (h5 i hi), z_li.m (k 47 (by omega)) h6, ⟨f7, (k 48 (by omega) 1008 (by omega) (by omega)).trans h7, h7'⟩, fun i hi => (k (49 + i) (by omega) (1009 + i) (by omega) (by omega)).trans (h8 i hi), fun t ht => (by
    show z_li w' (51 + t) (1011 + t) (z_fu (z_qp s) t0 (mo, P) t).1 (z_rs (z_fu (z_qp s) t0 (mo, P) t).2)
    by_cases hii : t = t0
    · subst hii; rw [z_fu_self]; exact u
    · rw [z_fu_ne hii]; exact z_li.m (k (51 + t) (by omega)) (h9 t ht)), fun i hi => ⟨z_li.m (k (54 + i) (by omega)) (h10 i hi).1, (h10 i hi).2⟩, fun i hi => ⟨z_li.m (k (11 + i) (by omega)) (h11 i hi).1, (h11 i hi).2⟩, fun t ht => (by
    show z_pr w' (14 + t) (z_fu (z_qp s) t0 (mo, P) t).2 (z_qk s)
    by_cases hii : t = t0
    · subst hii; rw [z_fu_self]; exact hp
    · rw [z_fu_ne hii]; exact z_pr.m (k (14 + t) (by omega)) (h12 t ht))⟩
theorem z_mst.up14 {t0 p : Nat} {F : Nat → Int32} (h : z_mst w s) (ht0 : t0 < 3) (hp : p ∈ (z_qp s t0).2) (u : z_up w p (.inl (0, 2, fun j => .int (F j))) w') (hF : F 0 = z_qk s p 0) : z_mst w' (z_tk s (z_fu (z_qk s) p F)) := by
  obtain ⟨h0, h1, h2, h3, ⟨f4, h4, h4'⟩, h5, h6, ⟨f7, h7, h7'⟩, h8, h9, h10, h11, h12⟩ := h
  obtain ⟨p1, p2, p3⟩ := ((h12 t0 ht0).1 p hp).1
  have k : ∀ r, r ≠ 14 + t0 → ∀ n, 1000 ≤ n → n % 64 = r → z_g w' n = z_g w n := fun r hr n _ hn => u.2.1 n (fun z => by subst z; omega)
  exact ⟨u.2.2.2 h0, (k 40 (by omega) 1000 (by omega) (by omega)).trans h1, z_li.m (k 41 (by omega)) h2, (k 42 (by omega) 1002 (by omega) (by omega)).trans h3, ⟨f4, (k 43 (by omega) 1003 (by omega) (by omega)).trans h4, h4'⟩, fun i hi => (k (44 + i) (by omega) (1004 + i) (by omega) (by omega)).trans (h5 i hi), z_li.m (k 47 (by omega)) h6, ⟨f7, (k 48 (by omega) 1008 (by omega) (by omega)).trans h7, h7'⟩, fun i hi => (k (49 + i) (by omega) (1009 + i) (by omega) (by omega)).trans (h8 i hi), fun t ht => z_li.m (k (51 + t) (by omega)) (h9 t ht), fun i hi => ⟨z_li.m (k (54 + i) (by omega)) (h10 i hi).1, (h10 i hi).2⟩, fun i hi => ⟨z_li.m (k (11 + i) (by omega)) (h11 i hi).1, (h11 i hi).2⟩, fun t ht => (by
    show z_pr w' (14 + t) (z_qp s t).2 (z_fu (z_qk s) p F)
    have e : ∀ q, z_fu (z_qk s) p F q 0 = z_qk s q 0 := fun q => by
      by_cases hq : q = p
      · subst hq; rw [z_fu_self]; exact hF
      · rw [z_fu_ne hq]
    refine ⟨fun q hq => ?_, by simp only [e]; exact (h12 t ht).2⟩
    obtain ⟨⟨q1, q2, q3⟩, q4⟩ := (h12 t ht).1 q hq
    rw [e]
    by_cases hqp : q = p
    · subst hqp; rw [z_fu_self]; exact ⟨⟨q1, q2, q3⟩, u.1⟩
    · rw [z_fu_ne hqp]; exact ⟨⟨q1, q2, q3⟩, (u.2.1 q hqp).trans q4⟩)⟩
theorem z_mst.newk {w0 : z_W} {x : Nat} {F : Nat → Int32} (h0 : z_mst w0 s) (hx : z_g w0 x = none) (h : z_mst w s) : z_mst w (z_tk s (z_fu (z_qk s) x F)) := by
  obtain ⟨a0, a1, a2, a3, a4, a5, a6, a7, a8, a9, a10, a11, a12⟩ := h
  refine ⟨a0, a1, a2, a3, a4, a5, a6, a7, a8, a9, a10, a11, fun t ht => ?_⟩
  show z_pr w (14 + t) (z_qp s t).2 (z_fu (z_qk s) x F)
  have hne : ∀ p ∈ (z_qp s t).2, p ≠ x := fun p hp z => by
    have := ((h0.pr ht).1 p hp).2
    rw [z, hx] at this
    cases this
  refine ⟨fun p hp => by rw [z_fu_ne (hne p hp)]; exact (a12 t ht).1 p hp, ?_⟩
  have e : ((z_qp s t).2.map fun p => z_fu (z_qk s) x F p 0) = (z_qp s t).2.map fun p => z_qk s p 0 := List.map_congr_left (fun p hp => by rw [z_fu_ne (hne p hp)])
  rw [e]
  exact (a12 t ht).2
theorem z_pr.ins {ρ x j : Nat} {P : List Nat} {K : Nat → Nat → Int32} (h : z_pr w ρ P K) (hx : 1000 ≤ x ∧ x % 64 = ρ ∧ ∃ k, k < 20 ∧ K x 0 = nI k) (hg : z_g w x = some (.inl (0, 2, fun j => .int (K x j)))) (hno : ∀ p ∈ P, ¬ K p 0 = K x 0) : z_pr w ρ (P.take j ++ x :: P.drop j) K := by
  have hperm : (P.take j ++ x :: P.drop j).Perm (x :: P) := by
    have := @List.perm_middle _ x (P.take j) (P.drop j)
    rw [List.take_append_drop] at this
    exact this
  refine ⟨fun p hp => ?_, ?_⟩
  · rcases List.mem_cons.mp (hperm.mem_iff.mp hp) with rfl | hp
    · exact ⟨hx, hg⟩
    · exact h.1 p hp
  · rw [(hperm.map _).nodup_iff, List.map_cons, List.nodup_cons]
    refine ⟨fun hm => ?_, h.2⟩
    obtain ⟨p, hp, e⟩ := List.mem_map.mp hm
    exact hno p hp e
theorem z_pr.rem {ρ j : Nat} {P : List Nat} {K : Nat → Nat → Int32} (h : z_pr w ρ P K) : z_pr w ρ (P.eraseIdx j) K := by
  have hs := List.eraseIdx_sublist P j
  exact ⟨fun p hp => h.1 p (hs.subset hp), h.2.sublist (hs.map _)⟩
theorem z_pr.nil {ρ : Nat} {K : Nat → Nat → Int32} : z_pr w ρ [] K := ⟨fun p hp => (by cases hp), List.nodup_nil⟩
theorem z_rs_el {ρ σ : Nat} {P : List Nat} {K : Nat → Nat → Int32} (h : z_pr w ρ P K) (hne : ρ ≠ σ) : ∀ v ∈ z_rs P, z_el σ w v := fun v hv => by
  obtain ⟨p, hp, rfl⟩ := List.mem_map.mp hv
  obtain ⟨⟨p1, p2, -⟩, p3⟩ := h.1 p hp
  exact ⟨Or.inr ⟨p, rfl, Or.inr (fun z => hne (p2.symm.trans z))⟩, "[I", z_isA p3, (z_wn 2007 ((lwt_9_1 12).trans rfl) (by decide +kernel))⟩
theorem z_decr1 {a : Nat} (h : 1 ≤ a) : nI a + (-1) = nI (a - 1) := by
  obtain ⟨b, rfl⟩ : ∃ b, a = b + 1 := ⟨a - 1, by omega⟩
  rw [Nat.add_sub_cancel]
  exact z_decr b
end ZMe
end ZM17
section ZM18
section ZMo
variable {G : z_G} {l : Launch}
set_option maxRecDepth 100000 in
set_option maxHeartbeats 8000000 in
theorem cm_isIn (hl : l.stackTraces = false) (w : z_W) (x a b : Int32)  : z_Con G l mX11_isIn 10 0 0 w [.int x, .int a, .int b] (fun v w9 => ((v = some (.int 1) ∧ a ≤ x ∧ x ≤ b) ∨ (v = some (.int 0) ∧ ¬ (a ≤ x ∧ x ≤ b))) ∧ w9 = w) (fun _ _ => False) := by
  refine z_body hl (by decide) rfl (Nat.le_of_ble_eq_true rfl) ?_
  show z_J G l mX11_isIn _ 0 [(0, _), (1, _), (2, _)] [] _ 0 0
  refine j_iload_n dX11_isIn_0 rfl ?_
  refine j_iload_n dX11_isIn_1 rfl ?_
  refine j_icmp_lt (tgt := 14) dX11_isIn_2 (by decide) (fun c_2_4 => ?_) (fun c_2_4 => ?_)
  · refine j_iconst (v := 0) dX11_isIn_14 (by decide) ?_
    refine j_iret dX11_isIn_15 rfl rfl ?_ (Nat.le_of_ble_eq_true rfl) (Nat.le_of_ble_eq_true rfl)
    exact ⟨Or.inr ⟨rfl, fun z => absurd z.1 (Int32.not_le.mpr c_2_4)⟩, rfl⟩
  · refine j_iload_n dX11_isIn_5 rfl ?_
    refine j_iload_n dX11_isIn_6 rfl ?_
    refine j_icmp_gt (tgt := 14) dX11_isIn_7 (by decide) (fun c_7_10 => ?_) (fun c_7_10 => ?_)
    · refine j_iconst (v := 0) dX11_isIn_14 (by decide) ?_
      refine j_iret dX11_isIn_15 rfl rfl ?_ (Nat.le_of_ble_eq_true rfl) (Nat.le_of_ble_eq_true rfl)
      exact ⟨Or.inr ⟨rfl, fun z => absurd z.2 (Int32.not_le.mpr c_7_10)⟩, rfl⟩
    · refine j_iconst (v := 1) dX11_isIn_10 (by decide) ?_
      refine j_goto (tgt := 15) dX11_isIn_11 (by decide) ?_
      refine j_iret dX11_isIn_15 rfl rfl ?_ (Nat.le_of_ble_eq_true rfl) (Nat.le_of_ble_eq_true rfl)
      exact ⟨Or.inl ⟨rfl, Int32.not_lt.mp c_2_4, Int32.not_lt.mp c_7_10⟩, rfl⟩
set_option maxRecDepth 100000 in
set_option maxHeartbeats 8000000 in
theorem cm_isNoTwo (hl : l.stackTraces = false) (w : z_W) (x : Int32)  : z_Con G l mX11_isNoTwo 12 0 0 w [.int x] (fun v w9 => ((v = some (.int 1) ∧ ¬ (0 ≤ x ∧ x ≤ 1)) ∨ (v = some (.int 0) ∧ ∃ i, i < 2 ∧ x = nI i)) ∧ w9 = w) (fun _ _ => False) := by
  refine z_body hl (by decide) rfl (Nat.le_of_ble_eq_true rfl) ?_
  show z_J G l mX11_isNoTwo _ 0 [(0, _)] [] _ 0 0
  refine j_iload_n dX11_isNoTwo_0 rfl ?_
  refine j_iconst (v := 0) dX11_isNoTwo_1 (by decide) ?_
  refine j_iconst (v := 1) dX11_isNoTwo_2 (by decide) ?_
  refine j_callS dX11_isNoTwo_3 kX11_isIn lX11_59 stX11_isIn (cm_isIn hl w _ _ _) (Nat.le_of_ble_eq_true rfl) ⟨(Nat.le_of_ble_eq_true rfl), (Nat.le_of_ble_eq_true rfl)⟩ rfl (Nat.le_of_ble_eq_true rfl) rfl rfl (fun _ _ h => h.elim) ?_
  rintro _ _ ⟨⟨rfl, hi1⟩ | ⟨rfl, hi1⟩, hw1⟩
  · refine j_w w hw1 ?_
    refine j_if_ne (tgt := 13) dX11_isNoTwo_6 (by decide) (fun c_6_8 => ?_) (fun c_6_8 => ?_)
    · refine j_iconst (v := 0) dX11_isNoTwo_13 (by decide) ?_
      refine j_iret dX11_isNoTwo_14 rfl rfl ?_ (Nat.le_of_ble_eq_true rfl) (Nat.le_of_ble_eq_true rfl)
      exact ⟨Or.inr ⟨rfl, z_nat (m := 1) (by decide) (by decide) (by decide) hi1⟩, rfl⟩
    · exact absurd c_6_8 (by decide)
  · refine j_w w hw1 ?_
    refine j_if_ne (tgt := 13) dX11_isNoTwo_6 (by decide) (fun c_6_14 => ?_) (fun c_6_14 => ?_)
    · exact absurd c_6_14 (by decide)
    · refine j_iconst (v := 1) dX11_isNoTwo_9 (by decide) ?_
      refine j_goto (tgt := 14) dX11_isNoTwo_10 (by decide) ?_
      refine j_iret dX11_isNoTwo_14 rfl rfl ?_ (Nat.le_of_ble_eq_true rfl) (Nat.le_of_ble_eq_true rfl)
      exact ⟨Or.inl ⟨rfl, hi1⟩, rfl⟩
set_option maxRecDepth 100000 in
set_option maxHeartbeats 8000000 in
theorem cm_isNoTable (hl : l.stackTraces = false) (w : z_W) (x : Int32)  : z_Con G l mX11_isNoTable 12 0 0 w [.int x] (fun v w9 => ((v = some (.int 1) ∧ ¬ (0 ≤ x ∧ x ≤ 2)) ∨ (v = some (.int 0) ∧ ∃ i, i < 3 ∧ x = nI i)) ∧ w9 = w) (fun _ _ => False) := by
  refine z_body hl (by decide) rfl (Nat.le_of_ble_eq_true rfl) ?_
  show z_J G l mX11_isNoTable _ 0 [(0, _)] [] _ 0 0
  refine j_iload_n dX11_isNoTable_0 rfl ?_
  refine j_iconst (v := 0) dX11_isNoTable_1 (by decide) ?_
  refine j_iconst (v := 2) dX11_isNoTable_2 (by decide) ?_
  refine j_callS dX11_isNoTable_3 kX11_isIn lX11_59 stX11_isIn (cm_isIn hl w _ _ _) (Nat.le_of_ble_eq_true rfl) ⟨(Nat.le_of_ble_eq_true rfl), (Nat.le_of_ble_eq_true rfl)⟩ rfl (Nat.le_of_ble_eq_true rfl) rfl rfl (fun _ _ h => h.elim) ?_
  rintro _ _ ⟨⟨rfl, hi2⟩ | ⟨rfl, hi2⟩, hw2⟩
  · refine j_w w hw2 ?_
    refine j_if_ne (tgt := 13) dX11_isNoTable_6 (by decide) (fun c_6_8 => ?_) (fun c_6_8 => ?_)
    · refine j_iconst (v := 0) dX11_isNoTable_13 (by decide) ?_
      refine j_iret dX11_isNoTable_14 rfl rfl ?_ (Nat.le_of_ble_eq_true rfl) (Nat.le_of_ble_eq_true rfl)
      exact ⟨Or.inr ⟨rfl, z_nat (m := 2) (by decide) (by decide) (by decide) hi2⟩, rfl⟩
    · exact absurd c_6_8 (by decide)
  · refine j_w w hw2 ?_
    refine j_if_ne (tgt := 13) dX11_isNoTable_6 (by decide) (fun c_6_14 => ?_) (fun c_6_14 => ?_)
    · exact absurd c_6_14 (by decide)
    · refine j_iconst (v := 1) dX11_isNoTable_9 (by decide) ?_
      refine j_goto (tgt := 14) dX11_isNoTable_10 (by decide) ?_
      refine j_iret dX11_isNoTable_14 rfl rfl ?_ (Nat.le_of_ble_eq_true rfl) (Nat.le_of_ble_eq_true rfl)
      exact ⟨Or.inl ⟨rfl, hi2⟩, rfl⟩
set_option maxRecDepth 100000 in
set_option maxHeartbeats 8000000 in
theorem cm_isNoKey (hl : l.stackTraces = false) (w : z_W) (x : Int32)  : z_Con G l mX11_isNoKey 12 0 0 w [.int x] (fun v w9 => ((v = some (.int 1) ∧ ¬ (0 ≤ x ∧ x ≤ 19)) ∨ (v = some (.int 0) ∧ ∃ i, i < 20 ∧ x = nI i)) ∧ w9 = w) (fun _ _ => False) := by
  refine z_body hl (by decide) rfl (Nat.le_of_ble_eq_true rfl) ?_
  show z_J G l mX11_isNoKey _ 0 [(0, _)] [] _ 0 0
  refine j_iload_n dX11_isNoKey_0 rfl ?_
  refine j_iconst (v := 0) dX11_isNoKey_1 (by decide) ?_
  refine j_bipush (v := 19) dX11_isNoKey_2 (by decide) ?_
  refine j_callS dX11_isNoKey_4 kX11_isIn lX11_59 stX11_isIn (cm_isIn hl w _ _ _) (Nat.le_of_ble_eq_true rfl) ⟨(Nat.le_of_ble_eq_true rfl), (Nat.le_of_ble_eq_true rfl)⟩ rfl (Nat.le_of_ble_eq_true rfl) rfl rfl (fun _ _ h => h.elim) ?_
  rintro _ _ ⟨⟨rfl, hi3⟩ | ⟨rfl, hi3⟩, hw3⟩
  · refine j_w w hw3 ?_
    refine j_if_ne (tgt := 14) dX11_isNoKey_7 (by decide) (fun c_7_8 => ?_) (fun c_7_8 => ?_)
    · refine j_iconst (v := 0) dX11_isNoKey_14 (by decide) ?_
      refine j_iret dX11_isNoKey_15 rfl rfl ?_ (Nat.le_of_ble_eq_true rfl) (Nat.le_of_ble_eq_true rfl)
      exact ⟨Or.inr ⟨rfl, z_nat (m := 19) (by decide) (by decide) (by decide) hi3⟩, rfl⟩
    · exact absurd c_7_8 (by decide)
  · refine j_w w hw3 ?_
    refine j_if_ne (tgt := 14) dX11_isNoKey_7 (by decide) (fun c_7_14 => ?_) (fun c_7_14 => ?_)
    · exact absurd c_7_14 (by decide)
    · refine j_iconst (v := 1) dX11_isNoKey_10 (by decide) ?_
      refine j_goto (tgt := 15) dX11_isNoKey_11 (by decide) ?_
      refine j_iret dX11_isNoKey_15 rfl rfl ?_ (Nat.le_of_ble_eq_true rfl) (Nat.le_of_ble_eq_true rfl)
      exact ⟨Or.inl ⟨rfl, hi3⟩, rfl⟩
set_option maxRecDepth 100000 in
set_option maxHeartbeats 8000000 in
theorem cm_isNoValue (hl : l.stackTraces = false) (w : z_W) (x : Int32)  : z_Con G l mX11_isNoValue 12 0 0 w [.int x] (fun v w9 => ((v = some (.int 1) ∧ ¬ ((-999) ≤ x ∧ x ≤ 999)) ∨ (v = some (.int 0) ∧ z_vl x)) ∧ w9 = w) (fun _ _ => False) := by
  refine z_body hl (by decide) rfl (Nat.le_of_ble_eq_true rfl) ?_
  show z_J G l mX11_isNoValue _ 0 [(0, _)] [] _ 0 0
  refine j_iload_n dX11_isNoValue_0 rfl ?_
  refine j_sipush (v := (-999)) dX11_isNoValue_1 (by decide) ?_
  refine j_sipush (v := 999) dX11_isNoValue_4 (by decide) ?_
  refine j_callS dX11_isNoValue_7 kX11_isIn lX11_59 stX11_isIn (cm_isIn hl w _ _ _) (Nat.le_of_ble_eq_true rfl) ⟨(Nat.le_of_ble_eq_true rfl), (Nat.le_of_ble_eq_true rfl)⟩ rfl (Nat.le_of_ble_eq_true rfl) rfl rfl (fun _ _ h => h.elim) ?_
  rintro _ _ ⟨⟨rfl, hi4⟩ | ⟨rfl, hi4⟩, hw4⟩
  · refine j_w w hw4 ?_
    refine j_if_ne (tgt := 17) dX11_isNoValue_10 (by decide) (fun c_10_8 => ?_) (fun c_10_8 => ?_)
    · refine j_iconst (v := 0) dX11_isNoValue_17 (by decide) ?_
      refine j_iret dX11_isNoValue_18 rfl rfl ?_ (Nat.le_of_ble_eq_true rfl) (Nat.le_of_ble_eq_true rfl)
      exact ⟨Or.inr ⟨rfl, hi4⟩, rfl⟩
    · exact absurd c_10_8 (by decide)
  · refine j_w w hw4 ?_
    refine j_if_ne (tgt := 17) dX11_isNoValue_10 (by decide) (fun c_10_14 => ?_) (fun c_10_14 => ?_)
    · exact absurd c_10_14 (by decide)
    · refine j_iconst (v := 1) dX11_isNoValue_13 (by decide) ?_
      refine j_goto (tgt := 18) dX11_isNoValue_14 (by decide) ?_
      refine j_iret dX11_isNoValue_18 rfl rfl ?_ (Nat.le_of_ble_eq_true rfl) (Nat.le_of_ble_eq_true rfl)
      exact ⟨Or.inl ⟨rfl, hi4⟩, rfl⟩
set_option maxRecDepth 100000 in
set_option maxHeartbeats 8000000 in
theorem cm_many (hl : l.stackTraces = false) (w : z_W) (a b c : Int32) (hc : ¬ c = 0) : z_Con G l mX11_many 10 0 0 w [.int a, .int b, .int c] (fun v w9 => v = some (.int (z_mny a b c)) ∧ w9 = w) (fun _ _ => False) := by
  refine z_body hl (by decide) rfl (Nat.le_of_ble_eq_true rfl) ?_
  show z_J G l mX11_many _ 0 [(0, _), (1, _), (2, _)] [] _ 0 0
  refine j_iload_n dX11_many_0 rfl ?_
  refine j_iload_n dX11_many_1 rfl ?_
  refine j_icmp_le (tgt := 9) dX11_many_2 (by decide) (fun c_2_4 => ?_) (fun c_2_4 => ?_)
  · refine j_iload_n dX11_many_9 rfl ?_
    refine j_iload_n dX11_many_10 rfl ?_
    refine j_isub dX11_many_11 ?_
    refine j_iload_n dX11_many_12 rfl ?_
    refine j_idiv dX11_many_13 hc ?_
    refine j_iconst (v := 1) dX11_many_14 (by decide) ?_
    refine j_iadd dX11_many_15 ?_
    refine j_iret dX11_many_16 rfl rfl ?_ (Nat.le_of_ble_eq_true rfl) (Nat.le_of_ble_eq_true rfl)
    exact ⟨by unfold z_mny; rw [if_pos c_2_4], rfl⟩
  · refine j_iconst (v := 0) dX11_many_5 (by decide) ?_
    refine j_goto (tgt := 16) dX11_many_6 (by decide) ?_
    refine j_iret dX11_many_16 rfl rfl ?_ (Nat.le_of_ble_eq_true rfl) (Nat.le_of_ble_eq_true rfl)
    exact ⟨by unfold z_mny; rw [if_neg c_2_4], rfl⟩
set_option maxRecDepth 100000 in
set_option maxHeartbeats 8000000 in
theorem cm_refuse0 (hl : l.stackTraces = false) (w : z_W) (s : z_Z) (k : Int32) (h : z_mst w s) (hth : s.1.1 = 0) : z_Con G l mX11_refuse 10 0 0 w [.ref 1000, .int 0, .int k] (fun v w9 => v = some (.int 0) ∧ w9 = w) (fun _ _ => False) := by
  obtain ⟨⟨th, rf, kn⟩, s2⟩ := s
  have hth : th = 0 := hth
  subst hth
  refine z_body hl (by decide) rfl (Nat.le_of_ble_eq_true rfl) ?_
  show z_J G l mX11_refuse _ 0 [(0, _), (1, _), (2, _)] [] _ 0 0
  refine j_iload_n dX11_refuse_0 rfl ?_
  refine j_if_eq (tgt := 16) dX11_refuse_1 (by decide) (fun c_1_3 => ?_) (fun c_1_3 => ?_)
  · refine j_aload_n dX11_refuse_16 rfl rfl ?_
    refine j_getf dX11_refuse_17 fX11_48 h.m rfl ?_
    refine j_if_le (tgt := 27) dX11_refuse_20 (by decide) (fun c_20_6 => ?_) (fun c_20_6 => ?_)
    · refine j_iconst (v := 0) dX11_refuse_27 (by decide) ?_
      refine j_iret dX11_refuse_28 rfl rfl ?_ (Nat.le_of_ble_eq_true rfl) (Nat.le_of_ble_eq_true rfl)
      exact ⟨rfl, rfl⟩
    · exact absurd (Int32.le_refl 0) c_20_6
  · exact absurd c_1_3 (by decide)
set_option maxRecDepth 100000 in
set_option maxHeartbeats 8000000 in
theorem cm_refuse1 (hl : l.stackTraces = false) (w : z_W) (s : z_Z) (k : Int32) (h : z_mst w s) (hth : s.1.1 = 0) (hk : 0 < k) : z_Con G l mX11_refuse 10 0 0 w [.ref 1000, .int 1, .int k] (fun v w9 => v = some (.int 1) ∧ z_fm 56 w w9 ∧ z_mst w9 (z_tm s (k, s.1.2.1, s.1.2.2))) (fun _ _ => False) := by
  obtain ⟨⟨th, rf, kn⟩, s2⟩ := s
  have hth : th = 0 := hth
  subst hth
  refine z_body hl (by decide) rfl (Nat.le_of_ble_eq_true rfl) ?_
  show z_J G l mX11_refuse _ 0 [(0, _), (1, _), (2, _)] [] _ 0 0
  refine j_iload_n dX11_refuse_0 rfl ?_
  refine j_if_eq (tgt := 16) dX11_refuse_1 (by decide) (fun c_1_3 => ?_) (fun c_1_3 => ?_)
  · exact absurd c_1_3 (by decide)
  · refine j_aload_n dX11_refuse_4 rfl rfl ?_
    refine j_getf dX11_refuse_5 fX11_48 h.m rfl ?_
    refine j_if_ne (tgt := 16) dX11_refuse_8 (by decide) (fun c_8_7 => ?_) (fun c_8_7 => ?_)
    · exact absurd rfl c_8_7
    · refine j_aload_n dX11_refuse_11 rfl rfl ?_
      refine j_iload_n dX11_refuse_12 rfl ?_
      refine j_put (w' := _) dX11_refuse_13 fX11_48 tX11_0 h.m ⟨rfl, rfl⟩ rfl ?_
      refine j_seal (by omega) ?_
      intro w1 u1
      have fw1 := u1.fw (ρ := 40) (by omega) (by omega)
      have h1 := h.up40 fw1 u1.1
      refine j_aload_n dX11_refuse_16 rfl rfl ?_
      refine j_getf dX11_refuse_17 fX11_48 h1.m rfl ?_
      refine j_if_le (tgt := 27) dX11_refuse_20 (by decide) (fun c_20_18 => ?_) (fun c_20_18 => ?_)
      · exact absurd hk (Int32.not_lt.mpr c_20_18)
      · refine j_iconst (v := 1) dX11_refuse_23 (by decide) ?_
        refine j_goto (tgt := 28) dX11_refuse_24 (by decide) ?_
        refine j_iret dX11_refuse_28 rfl rfl ?_ (Nat.le_of_ble_eq_true rfl) (Nat.le_of_ble_eq_true rfl)
        exact ⟨rfl, (fw1.fm (q := 56) (by omega)), h1⟩
set_option maxRecDepth 100000 in
set_option maxHeartbeats 8000000 in
theorem cm_start0 (hl : l.stackTraces = false) (w : z_W) (s : z_Z) (k : Int32) (h : z_mst w s)  : z_Con G l mX11_start 12 0 0 w [.ref 1000, .int 0, .int k] (fun v w9 => v = some (.int 0) ∧ z_fm 56 w w9 ∧ z_mst w9 (z_tm s (0, s.1.2.1, s.1.2.2))) (fun _ _ => False) := by
  refine z_body hl (by decide) rfl (Nat.le_of_ble_eq_true rfl) ?_
  show z_J G l mX11_start _ 0 [(0, _), (1, _), (2, _)] [] _ 0 0
  refine j_aload_n dX11_start_0 rfl rfl ?_
  refine j_iconst (v := 0) dX11_start_1 (by decide) ?_
  refine j_put (w' := _) dX11_start_2 fX11_48 tX11_0 h.m ⟨rfl, rfl⟩ rfl ?_
  refine j_seal (by omega) ?_
  intro w1 u1
  have fw1 := u1.fw (ρ := 40) (by omega) (by omega)
  have h1 := h.up40 fw1 u1.1
  refine j_aload_n dX11_start_5 rfl rfl ?_
  refine j_iload_n dX11_start_6 rfl ?_
  refine j_iload_n dX11_start_7 rfl ?_
  refine j_callV (q := (RX11, TX11, 8)) dX11_start_8 kX11_refuse lX11_52 inX11_refuse seX11_refuse h1.m rfl (cm_refuse0 hl w1 _ _ h1 rfl) (Nat.le_of_ble_eq_true rfl) ⟨(Nat.le_of_ble_eq_true rfl), (Nat.le_of_ble_eq_true rfl)⟩ rfl (Nat.le_of_ble_eq_true rfl) rfl rfl (fun _ _ h => h.elim) ?_
  rintro _ _ ⟨rfl, hw17⟩
  refine j_w w1 hw17 ?_
  refine j_iret dX11_start_11 rfl rfl ?_ (Nat.le_of_ble_eq_true rfl) (Nat.le_of_ble_eq_true rfl)
  exact ⟨rfl, (fw1.fm (q := 56) (by omega)), h1⟩
set_option maxRecDepth 100000 in
set_option maxHeartbeats 8000000 in
theorem cm_start1 (hl : l.stackTraces = false) (w : z_W) (s : z_Z) (k : Int32) (h : z_mst w s) (hk : 0 < k) : z_Con G l mX11_start 12 0 0 w [.ref 1000, .int 1, .int k] (fun v w9 => v = some (.int 1) ∧ z_fm 56 w w9 ∧ z_mst w9 (z_tm s (k, s.1.2.1, s.1.2.2))) (fun _ _ => False) := by
  refine z_body hl (by decide) rfl (Nat.le_of_ble_eq_true rfl) ?_
  show z_J G l mX11_start _ 0 [(0, _), (1, _), (2, _)] [] _ 0 0
  refine j_aload_n dX11_start_0 rfl rfl ?_
  refine j_iconst (v := 0) dX11_start_1 (by decide) ?_
  refine j_put (w' := _) dX11_start_2 fX11_48 tX11_0 h.m ⟨rfl, rfl⟩ rfl ?_
  refine j_seal (by omega) ?_
  intro w1 u1
  have fw1 := u1.fw (ρ := 40) (by omega) (by omega)
  have h1 := h.up40 fw1 u1.1
  refine j_aload_n dX11_start_5 rfl rfl ?_
  refine j_iload_n dX11_start_6 rfl ?_
  refine j_iload_n dX11_start_7 rfl ?_
  refine j_callV (q := (RX11, TX11, 8)) dX11_start_8 kX11_refuse lX11_52 inX11_refuse seX11_refuse h1.m rfl (cm_refuse1 hl w1 _ _ h1 rfl hk) (Nat.le_of_ble_eq_true rfl) ⟨(Nat.le_of_ble_eq_true rfl), (Nat.le_of_ble_eq_true rfl)⟩ rfl (Nat.le_of_ble_eq_true rfl) rfl rfl (fun _ _ h => h.elim) ?_
  rintro _ w2 ⟨rfl, fm2, h2⟩
  refine j_iret dX11_start_11 rfl rfl ?_ (Nat.le_of_ble_eq_true rfl) (Nat.le_of_ble_eq_true rfl)
  exact ⟨rfl, ((fw1.fm (q := 56) (by omega)).tr (fm2.le (q' := 56) (by decide))), h2⟩
set_option maxRecDepth 100000 in
set_option maxHeartbeats 8000000 in
theorem cm_nine (hl : l.stackTraces = false) (w : z_W) (s : z_Z)  (h : z_mst w s)  : z_Con G l mX11_nine 10 0 0 w [.ref 1000] (fun v w9 => v = some (.int (-9)) ∧ z_fm 56 w w9 ∧ z_mst w9 (z_tm s (s.1.1, s.1.2.1 + 1, s.1.2.2))) (fun _ _ => False) := by
  refine z_body hl (by decide) rfl (Nat.le_of_ble_eq_true rfl) ?_
  show z_J G l mX11_nine _ 0 [(0, _)] [] _ 0 0
  refine j_aload_n dX11_nine_0 rfl rfl ?_
  refine j_dup dX11_nine_1 rfl ?_
  refine j_getf dX11_nine_2 fX11_56 h.m rfl ?_
  refine j_iconst (v := 1) dX11_nine_5 (by decide) ?_
  refine j_iadd dX11_nine_6 ?_
  refine j_put (w' := _) dX11_nine_7 fX11_56 tX11_6 h.m ⟨rfl, rfl⟩ rfl ?_
  refine j_seal (by omega) ?_
  intro w1 u1
  have fw1 := u1.fw (ρ := 40) (by omega) (by omega)
  have h1 := h.up40 fw1 u1.1
  refine j_bipush (v := (-9)) dX11_nine_10 (by decide) ?_
  refine j_iret dX11_nine_12 rfl rfl ?_ (Nat.le_of_ble_eq_true rfl) (Nat.le_of_ble_eq_true rfl)
  exact ⟨rfl, (fw1.fm (q := 56) (by omega)), h1⟩
set_option maxRecDepth 100000 in
set_option maxHeartbeats 8000000 in
theorem cm_knock (hl : l.stackTraces = false) (w : z_W) (s : z_Z)  (h : z_mst w s)  : z_Con G l mX11_knock 10 0 0 w [.ref 1000] (fun v w9 => v = some (.int (s.1.2.2 + 1)) ∧ z_fm 56 w w9 ∧ z_mst w9 (z_tm s (0, s.1.2.1, s.1.2.2 + 1))) (fun _ _ => False) := by
  refine z_body hl (by decide) rfl (Nat.le_of_ble_eq_true rfl) ?_
  show z_J G l mX11_knock _ 0 [(0, _)] [] _ 0 0
  refine j_aload_n dX11_knock_0 rfl rfl ?_
  refine j_iconst (v := 0) dX11_knock_1 (by decide) ?_
  refine j_put (w' := _) dX11_knock_2 fX11_48 tX11_0 h.m ⟨rfl, rfl⟩ rfl ?_
  refine j_seal (by omega) ?_
  intro w1 u1
  have fw1 := u1.fw (ρ := 40) (by omega) (by omega)
  have h1 := h.up40 fw1 u1.1
  refine j_aload_n dX11_knock_5 rfl rfl ?_
  refine j_dup dX11_knock_6 rfl ?_
  refine j_getf dX11_knock_7 fX11_234 h1.m rfl ?_
  refine j_iconst (v := 1) dX11_knock_10 (by decide) ?_
  refine j_iadd dX11_knock_11 ?_
  refine j_put (w' := _) dX11_knock_12 fX11_234 tX11_7 h1.m ⟨rfl, rfl⟩ rfl ?_
  refine j_seal (by omega) ?_
  intro w2 u2
  have fw2 := u2.fw (ρ := 40) (by omega) (by omega)
  have h2 := h1.up40 fw2 u2.1
  refine j_aload_n dX11_knock_15 rfl rfl ?_
  refine j_getf dX11_knock_16 fX11_234 h2.m rfl ?_
  refine j_iret dX11_knock_19 rfl rfl ?_ (Nat.le_of_ble_eq_true rfl) (Nat.le_of_ble_eq_true rfl)
  exact ⟨rfl, ((fw1.fm (q := 56) (by omega)).tr (fw2.fm (q := 56) (by omega))), h2⟩
end ZMo
end ZM18
section ZM19
section ZMp
variable {G : z_G} {l : Launch}
set_option maxRecDepth 100000 in
set_option maxHeartbeats 8000000 in
theorem cm_refuses (hl : l.stackTraces = false) (w : z_W) (s : z_Z) (i : Nat) (x : Int32) (h : z_mst w s) (hi : i < 2) : z_Con G l mX10_refuses 18 2 31 w [.ref (1009 + i), .int x] (fun v w9 => (v = some (.int 1) ∧ ((z_qh s i).1 ≠ -1000 ∧ (z_qh s i).1 = x) ∧ w9 = w) ∨ (v = some (.int 0) ∧ ¬ ((z_qh s i).1 ≠ -1000 ∧ (z_qh s i).1 = x) ∧ ∃ s9, z_fm 56 w w9 ∧ z_mst w9 s9 ∧ z_key s9 = z_key s ∧ z_sx s s9 ∧ z_qh s9 i = ((z_qh s i).1, (z_qh s i).2.1 + 1, (z_qh s i).2.2.1 + x, x) ∧ (z_ql s9 i).2 = z_rec (z_ql s i).2 x ∧ ∀ j, j ≠ i → z_qh s9 j = z_qh s j ∧ z_ql s9 j = z_ql s j)) (fun _ _ => False) := by
  have ke0 : z_key s = z_key s := rfl
  refine z_body hl (by decide) rfl (Nat.le_of_ble_eq_true rfl) ?_
  show z_J G l mX10_refuses _ 0 [(0, _), (1, _)] [] _ 0 0
  refine j_aload_n dX10_refuses_0 rfl rfl ?_
  refine j_getf dX10_refuses_1 fX10_9 (h.hd (i := i) hi) rfl ?_
  refine j_sipush (v := (-1000)) dX10_refuses_4 (by decide) ?_
  refine j_icmp_eq (tgt := 20) dX10_refuses_7 (by decide) (fun c_7_5 => ?_) (fun c_7_5 => ?_)
  · refine j_aload_n dX10_refuses_20 rfl rfl ?_
    refine j_dup dX10_refuses_21 rfl ?_
    refine j_getf dX10_refuses_22 fX10_25 (h.hd (i := i) hi) rfl ?_
    refine j_iconst (v := 1) dX10_refuses_25 (by decide) ?_
    refine j_iadd dX10_refuses_26 ?_
    refine j_put (w' := _) dX10_refuses_27 fX10_25 tX10_1 (h.hd (i := i) hi) ⟨rfl, rfl⟩ rfl ?_
    refine j_seal (by omega) ?_
    intro w1 u1
    have fw1 := u1.fw (ρ := 49 + i) (by omega) (by omega)
    have h1 := h.up49 (i0 := i) hi fw1 u1.1
    have ke1 := z_ke h1 ke0 z_keH
    refine j_aload_n dX10_refuses_30 rfl rfl ?_
    refine j_dup dX10_refuses_31 rfl ?_
    refine j_getf dX10_refuses_32 fX10_28 (h1.hd (i := i) hi) rfl ?_
    refine j_iload_n dX10_refuses_35 rfl ?_
    refine j_iadd dX10_refuses_36 ?_
    refine j_put (w' := _) dX10_refuses_37 fX10_28 tX10_2 (h1.hd (i := i) hi) ⟨rfl, rfl⟩ rfl ?_
    refine j_seal (by omega) ?_
    intro w2 u2
    have fw2 := u2.fw (ρ := 49 + i) (by omega) (by omega)
    have h2 := h1.up49 (i0 := i) hi fw2 u2.1
    have ke2 := z_ke h2 ke1 z_keH
    refine j_aload_n dX10_refuses_40 rfl rfl ?_
    refine j_iload_n dX10_refuses_41 rfl ?_
    refine j_put (w' := _) dX10_refuses_42 fX10_15 tX10_3 (h2.hd (i := i) hi) ⟨rfl, rfl⟩ rfl ?_
    refine j_seal (by omega) ?_
    intro w3 u3
    have fw3 := u3.fw (ρ := 49 + i) (by omega) (by omega)
    have h3 := h2.up49 (i0 := i) hi fw3 u3.1
    have ke3 := z_ke h3 ke2 z_keH
    refine j_aload_n dX10_refuses_45 rfl rfl ?_
    refine j_getf dX10_refuses_46 fX10_21 (h3.hd (i := i) hi) rfl ?_
    refine j_iload_n dX10_refuses_49 rfl ?_
    refine j_callS dX10_refuses_50 kJ6_valueOf_2dffe lX10_31 stJ6_valueOf_2dffe (cl_val hl w3 _) (Nat.le_of_ble_eq_true rfl) ⟨(Nat.le_of_ble_eq_true rfl), (Nat.le_of_ble_eq_true rfl)⟩ rfl (Nat.le_of_ble_eq_true rfl) rfl rfl (fun _ _ h => h.elim) ?_
    rintro _ _ ⟨rfl, hw1⟩
    refine j_w w3 hw1 ?_
    obtain ⟨lv2, -, lg2⟩ := z_li.cell (h3.hl (i := i) hi).1
    refine j_callV (q := (RJx4a65c, TJx4a65c, 3)) dX10_refuses_53 kJx4a65c_add_9ea2d lX10_37 inJx4a65c_add_9ea2d seJx4a65c_add_9ea2d lg2 rfl (cl_add hl w3 (54 + i) (1014 + i) _ _ 10 _ (h3.hl hi).1 (by omega) h3.fn (by rw [z_bx_len]; exact (h3.hl hi).2) (by decide) z_bx_el z_elF) (Nat.le_of_ble_eq_true rfl) ⟨(Nat.le_of_ble_eq_true rfl), (Nat.le_of_ble_eq_true rfl)⟩ rfl (Nat.le_of_ble_eq_true rfl) rfl rfl (fun _ _ h => h.elim) ?_
    rintro _ w4 ⟨rfl, fw4, mo4, hr4⟩
    rw [z_bx_app] at hr4
    have g4_hh := fw4.g (Or.inr (by omega)) (h3.hd hi)
    have hlen4 : (z_ql s i).2.length ≤ 10 := (h3.hl hi).2
    refine j_pop dX10_refuses_56 rfl ?_
    refine j_aload_n dX10_refuses_57 rfl rfl ?_
    refine j_getf dX10_refuses_58 fX10_21 g4_hh rfl ?_
    obtain ⟨lv3, -, lg3⟩ := z_li.cell hr4
    refine j_callV (q := (RJx4a65c, TJx4a65c, 3)) dX10_refuses_61 kJx4a65c_size_8abf5 lX10_41 inJx4a65c_size_8abf5 seJx4a65c_size_8abf5 lg3 rfl (cl_sizeB hl w4 _ _ _ _ hr4) (Nat.le_of_ble_eq_true rfl) ⟨(Nat.le_of_ble_eq_true rfl), (Nat.le_of_ble_eq_true rfl)⟩ rfl (Nat.le_of_ble_eq_true rfl) rfl rfl (fun _ _ h => h.elim) ?_
    rintro _ _ ⟨⟨n4, rfl, hn4⟩, hw4⟩
    refine j_w w4 hw4 ?_
    rw [List.length_append] at hn4
    have hn4 : n4 = (z_ql s i).2.length + 1 := hn4
    refine j_bipush (v := 10) dX10_refuses_64 (by decide) ?_
    refine j_icmp_le (tgt := 78) dX10_refuses_66 (by decide) (fun c_66_58 => ?_) (fun c_66_58 => ?_)
    · have hb66 : n4 ≤ 10 := (nI_leI (a := n4) (b := 10) (by omega) (by omega)).mp c_66_58
      refine j_iconst (v := 0) dX10_refuses_78 (by decide) ?_
      refine j_iret dX10_refuses_79 rfl rfl ?_ (Nat.le_of_ble_eq_true rfl) (Nat.le_of_ble_eq_true rfl)
      have hB : (z_rec (z_ql s i).2 x).length ≤ 10 ∧ z_li w4 (54 + i) (1014 + i) mo4 (z_bx (z_rec (z_ql s i).2 x)) := by
        unfold z_rec
        have h9 := z_le10 (by omega) c_66_58
        rw [if_pos (by rw [List.length_append]; show _ + 1 ≤ 10; omega)]
        exact ⟨by rw [List.length_append]; show _ + 1 ≤ 10; omega, hr4⟩
      have h99 := h3.li54 hi fw4 hB.2 hB.1
      exact Or.inr ⟨rfl, (fun z => z.1 c_7_5), _, ((((fw1.fm (q := 56) (by omega)).tr (fw2.fm (q := 56) (by omega))).tr (fw3.fm (q := 56) (by omega))).tr (fw4.fm (q := 56) (by omega))), h99, z_ke h99 ke3 rfl, ⟨rfl, rfl, rfl, rfl, rfl, rfl, rfl, rfl⟩, by simp only [z_qh, z_ql, z_th, z_tl, z_fu_self], by simp only [z_qh, z_ql, z_th, z_tl, z_fu_self], fun j hj => ⟨by simp only [z_qh, z_ql, z_th, z_tl, z_fu_ne hj], by simp only [z_qh, z_ql, z_th, z_tl, z_fu_ne hj]⟩⟩
    · have hb66 : 10 < n4 := Nat.not_le.mp (fun z => c_66_58 ((nI_leI (a := n4) (b := 10) (by omega) (by omega)).mpr z))
      refine j_aload_n dX10_refuses_69 rfl rfl ?_
      refine j_getf dX10_refuses_70 fX10_21 g4_hh rfl ?_
      refine j_iconst (v := 0) dX10_refuses_73 (by decide) ?_
      obtain ⟨lv5, -, lg5⟩ := z_li.cell hr4
      refine j_callV (q := (RJx4a65c, TJx4a65c, 3)) dX10_refuses_74 kJx4a65c_remove_915e3 lX10_45 inJx4a65c_remove_915e3 seJx4a65c_remove_915e3 lg5 rfl (cl_rem hl w4 _ _ _ _ 0 _ hr4 (z_bx_get (by rw [List.length_append]; exact Nat.succ_pos _)) (fw4.2.1 h3.fn) z_bx_el) (Nat.le_of_ble_eq_true rfl) ⟨(Nat.le_of_ble_eq_true rfl), (Nat.le_of_ble_eq_true rfl)⟩ rfl (Nat.le_of_ble_eq_true rfl) rfl rfl (fun _ _ h => h.elim) ?_
      rintro _ w5 ⟨rfl, fw5, mo5, hr5⟩
      rw [z_bx_rem] at hr5
      refine j_pop dX10_refuses_77 rfl ?_
      refine j_iconst (v := 0) dX10_refuses_78 (by decide) ?_
      refine j_iret dX10_refuses_79 rfl rfl ?_ (Nat.le_of_ble_eq_true rfl) (Nat.le_of_ble_eq_true rfl)
      have hB : (z_rec (z_ql s i).2 x).length ≤ 10 ∧ z_li w5 (54 + i) (1014 + i) mo5 (z_bx (z_rec (z_ql s i).2 x)) := by
        unfold z_rec
        have h9 := z_gt10 (by omega) c_66_58
        rw [if_neg (by rw [List.length_append]; show ¬ _ + 1 ≤ 10; omega)]
        exact ⟨by rw [List.length_eraseIdx_of_lt (by rw [List.length_append]; exact Nat.succ_pos _), List.length_append]; show _ + 1 - 1 ≤ 10; omega, hr5⟩
      have h99 := h3.li54 hi (fw4.tr fw5) hB.2 hB.1
      exact Or.inr ⟨rfl, (fun z => z.1 c_7_5), _, ((((fw1.fm (q := 56) (by omega)).tr (fw2.fm (q := 56) (by omega))).tr (fw3.fm (q := 56) (by omega))).tr ((fw4.tr fw5).fm (q := 56) (by omega))), h99, z_ke h99 ke3 rfl, ⟨rfl, rfl, rfl, rfl, rfl, rfl, rfl, rfl⟩, by simp only [z_qh, z_ql, z_th, z_tl, z_fu_self], by simp only [z_qh, z_ql, z_th, z_tl, z_fu_self], fun j hj => ⟨by simp only [z_qh, z_ql, z_th, z_tl, z_fu_ne hj], by simp only [z_qh, z_ql, z_th, z_tl, z_fu_ne hj]⟩⟩
  · refine j_iload_n dX10_refuses_10 rfl ?_
    refine j_aload_n dX10_refuses_11 rfl rfl ?_
    refine j_getf dX10_refuses_12 fX10_9 (h.hd (i := i) hi) rfl ?_
    refine j_icmp_ne (tgt := 20) dX10_refuses_15 (by decide) (fun c_15_90 => ?_) (fun c_15_90 => ?_)
    · refine j_aload_n dX10_refuses_20 rfl rfl ?_
      refine j_dup dX10_refuses_21 rfl ?_
      refine j_getf dX10_refuses_22 fX10_25 (h.hd (i := i) hi) rfl ?_
      refine j_iconst (v := 1) dX10_refuses_25 (by decide) ?_
      refine j_iadd dX10_refuses_26 ?_
      refine j_put (w' := _) dX10_refuses_27 fX10_25 tX10_1 (h.hd (i := i) hi) ⟨rfl, rfl⟩ rfl ?_
      refine j_seal (by omega) ?_
      intro w6 u6
      have fw6 := u6.fw (ρ := 49 + i) (by omega) (by omega)
      have h6 := h.up49 (i0 := i) hi fw6 u6.1
      have ke6 := z_ke h6 ke0 z_keH
      refine j_aload_n dX10_refuses_30 rfl rfl ?_
      refine j_dup dX10_refuses_31 rfl ?_
      refine j_getf dX10_refuses_32 fX10_28 (h6.hd (i := i) hi) rfl ?_
      refine j_iload_n dX10_refuses_35 rfl ?_
      refine j_iadd dX10_refuses_36 ?_
      refine j_put (w' := _) dX10_refuses_37 fX10_28 tX10_2 (h6.hd (i := i) hi) ⟨rfl, rfl⟩ rfl ?_
      refine j_seal (by omega) ?_
      intro w7 u7
      have fw7 := u7.fw (ρ := 49 + i) (by omega) (by omega)
      have h7 := h6.up49 (i0 := i) hi fw7 u7.1
      have ke7 := z_ke h7 ke6 z_keH
      refine j_aload_n dX10_refuses_40 rfl rfl ?_
      refine j_iload_n dX10_refuses_41 rfl ?_
      refine j_put (w' := _) dX10_refuses_42 fX10_15 tX10_3 (h7.hd (i := i) hi) ⟨rfl, rfl⟩ rfl ?_
      refine j_seal (by omega) ?_
      intro w8 u8
      have fw8 := u8.fw (ρ := 49 + i) (by omega) (by omega)
      have h8 := h7.up49 (i0 := i) hi fw8 u8.1
      have ke8 := z_ke h8 ke7 z_keH
      refine j_aload_n dX10_refuses_45 rfl rfl ?_
      refine j_getf dX10_refuses_46 fX10_21 (h8.hd (i := i) hi) rfl ?_
      refine j_iload_n dX10_refuses_49 rfl ?_
      refine j_callS dX10_refuses_50 kJ6_valueOf_2dffe lX10_31 stJ6_valueOf_2dffe (cl_val hl w8 _) (Nat.le_of_ble_eq_true rfl) ⟨(Nat.le_of_ble_eq_true rfl), (Nat.le_of_ble_eq_true rfl)⟩ rfl (Nat.le_of_ble_eq_true rfl) rfl rfl (fun _ _ h => h.elim) ?_
      rintro _ _ ⟨rfl, hw6⟩
      refine j_w w8 hw6 ?_
      obtain ⟨lv7, -, lg7⟩ := z_li.cell (h8.hl (i := i) hi).1
      refine j_callV (q := (RJx4a65c, TJx4a65c, 3)) dX10_refuses_53 kJx4a65c_add_9ea2d lX10_37 inJx4a65c_add_9ea2d seJx4a65c_add_9ea2d lg7 rfl (cl_add hl w8 (54 + i) (1014 + i) _ _ 10 _ (h8.hl hi).1 (by omega) h8.fn (by rw [z_bx_len]; exact (h8.hl hi).2) (by decide) z_bx_el z_elF) (Nat.le_of_ble_eq_true rfl) ⟨(Nat.le_of_ble_eq_true rfl), (Nat.le_of_ble_eq_true rfl)⟩ rfl (Nat.le_of_ble_eq_true rfl) rfl rfl (fun _ _ h => h.elim) ?_
      rintro _ w9 ⟨rfl, fw9, mo9, hr9⟩
      rw [z_bx_app] at hr9
      have g9_hh := fw9.g (Or.inr (by omega)) (h8.hd hi)
      have hlen9 : (z_ql s i).2.length ≤ 10 := (h8.hl hi).2
      refine j_pop dX10_refuses_56 rfl ?_
      refine j_aload_n dX10_refuses_57 rfl rfl ?_
      refine j_getf dX10_refuses_58 fX10_21 g9_hh rfl ?_
      obtain ⟨lv8, -, lg8⟩ := z_li.cell hr9
      refine j_callV (q := (RJx4a65c, TJx4a65c, 3)) dX10_refuses_61 kJx4a65c_size_8abf5 lX10_41 inJx4a65c_size_8abf5 seJx4a65c_size_8abf5 lg8 rfl (cl_sizeB hl w9 _ _ _ _ hr9) (Nat.le_of_ble_eq_true rfl) ⟨(Nat.le_of_ble_eq_true rfl), (Nat.le_of_ble_eq_true rfl)⟩ rfl (Nat.le_of_ble_eq_true rfl) rfl rfl (fun _ _ h => h.elim) ?_
      rintro _ _ ⟨⟨n9, rfl, hn9⟩, hw9⟩
      refine j_w w9 hw9 ?_
      rw [List.length_append] at hn9
      have hn9 : n9 = (z_ql s i).2.length + 1 := hn9
      refine j_bipush (v := 10) dX10_refuses_64 (by decide) ?_
      refine j_icmp_le (tgt := 78) dX10_refuses_66 (by decide) (fun c_66_143 => ?_) (fun c_66_143 => ?_)
      · have hb66 : n9 ≤ 10 := (nI_leI (a := n9) (b := 10) (by omega) (by omega)).mp c_66_143
        refine j_iconst (v := 0) dX10_refuses_78 (by decide) ?_
        refine j_iret dX10_refuses_79 rfl rfl ?_ (Nat.le_of_ble_eq_true rfl) (Nat.le_of_ble_eq_true rfl)
        have hB : (z_rec (z_ql s i).2 x).length ≤ 10 ∧ z_li w9 (54 + i) (1014 + i) mo9 (z_bx (z_rec (z_ql s i).2 x)) := by
          unfold z_rec
          have h9 := z_le10 (by omega) c_66_143
          rw [if_pos (by rw [List.length_append]; show _ + 1 ≤ 10; omega)]
          exact ⟨by rw [List.length_append]; show _ + 1 ≤ 10; omega, hr9⟩
        have h99 := h8.li54 hi fw9 hB.2 hB.1
        exact Or.inr ⟨rfl, (fun z => c_15_90 z.2.symm), _, ((((fw6.fm (q := 56) (by omega)).tr (fw7.fm (q := 56) (by omega))).tr (fw8.fm (q := 56) (by omega))).tr (fw9.fm (q := 56) (by omega))), h99, z_ke h99 ke8 rfl, ⟨rfl, rfl, rfl, rfl, rfl, rfl, rfl, rfl⟩, by simp only [z_qh, z_ql, z_th, z_tl, z_fu_self], by simp only [z_qh, z_ql, z_th, z_tl, z_fu_self], fun j hj => ⟨by simp only [z_qh, z_ql, z_th, z_tl, z_fu_ne hj], by simp only [z_qh, z_ql, z_th, z_tl, z_fu_ne hj]⟩⟩
      · have hb66 : 10 < n9 := Nat.not_le.mp (fun z => c_66_143 ((nI_leI (a := n9) (b := 10) (by omega) (by omega)).mpr z))
        refine j_aload_n dX10_refuses_69 rfl rfl ?_
        refine j_getf dX10_refuses_70 fX10_21 g9_hh rfl ?_
        refine j_iconst (v := 0) dX10_refuses_73 (by decide) ?_
        obtain ⟨lv10, -, lg10⟩ := z_li.cell hr9
        refine j_callV (q := (RJx4a65c, TJx4a65c, 3)) dX10_refuses_74 kJx4a65c_remove_915e3 lX10_45 inJx4a65c_remove_915e3 seJx4a65c_remove_915e3 lg10 rfl (cl_rem hl w9 _ _ _ _ 0 _ hr9 (z_bx_get (by rw [List.length_append]; exact Nat.succ_pos _)) (fw9.2.1 h8.fn) z_bx_el) (Nat.le_of_ble_eq_true rfl) ⟨(Nat.le_of_ble_eq_true rfl), (Nat.le_of_ble_eq_true rfl)⟩ rfl (Nat.le_of_ble_eq_true rfl) rfl rfl (fun _ _ h => h.elim) ?_
        rintro _ w10 ⟨rfl, fw10, mo10, hr10⟩
        rw [z_bx_rem] at hr10
        refine j_pop dX10_refuses_77 rfl ?_
        refine j_iconst (v := 0) dX10_refuses_78 (by decide) ?_
        refine j_iret dX10_refuses_79 rfl rfl ?_ (Nat.le_of_ble_eq_true rfl) (Nat.le_of_ble_eq_true rfl)
        have hB : (z_rec (z_ql s i).2 x).length ≤ 10 ∧ z_li w10 (54 + i) (1014 + i) mo10 (z_bx (z_rec (z_ql s i).2 x)) := by
          unfold z_rec
          have h9 := z_gt10 (by omega) c_66_143
          rw [if_neg (by rw [List.length_append]; show ¬ _ + 1 ≤ 10; omega)]
          exact ⟨by rw [List.length_eraseIdx_of_lt (by rw [List.length_append]; exact Nat.succ_pos _), List.length_append]; show _ + 1 - 1 ≤ 10; omega, hr10⟩
        have h99 := h8.li54 hi (fw9.tr fw10) hB.2 hB.1
        exact Or.inr ⟨rfl, (fun z => c_15_90 z.2.symm), _, ((((fw6.fm (q := 56) (by omega)).tr (fw7.fm (q := 56) (by omega))).tr (fw8.fm (q := 56) (by omega))).tr ((fw9.tr fw10).fm (q := 56) (by omega))), h99, z_ke h99 ke8 rfl, ⟨rfl, rfl, rfl, rfl, rfl, rfl, rfl, rfl⟩, by simp only [z_qh, z_ql, z_th, z_tl, z_fu_self], by simp only [z_qh, z_ql, z_th, z_tl, z_fu_self], fun j hj => ⟨by simp only [z_qh, z_ql, z_th, z_tl, z_fu_ne hj], by simp only [z_qh, z_ql, z_th, z_tl, z_fu_ne hj]⟩⟩
    · refine j_iconst (v := 1) dX10_refuses_18 (by decide) ?_
      refine j_iret dX10_refuses_19 rfl rfl ?_ (Nat.le_of_ble_eq_true rfl) (Nat.le_of_ble_eq_true rfl)
      exact Or.inl ⟨rfl, ⟨c_7_5, (c_15_90).symm⟩, rfl⟩
set_option maxRecDepth 100000 in
set_option maxHeartbeats 8000000 in
theorem cm_forgetH (hl : l.stackTraces = false) (w : z_W) (s : z_Z) (i : Nat) (h : z_mst w s) (hi : i < 2) : z_Con G l mX10_forget 13 0 0 w [.ref (1009 + i)] (fun v w9 => v = none ∧ ∃ s9, z_fm 56 w w9 ∧ z_mst w9 s9 ∧ z_key s9 = z_key s ∧ z_sx s s9 ∧ z_qh s9 i = ((z_qh s i).1, 0, 0, -1) ∧ (z_ql s9 i).2 = [] ∧ ∀ j, j ≠ i → z_qh s9 j = z_qh s j ∧ z_ql s9 j = z_ql s j) (fun _ _ => False) := by
  have ke0 : z_key s = z_key s := rfl
  refine z_body hl (by decide) rfl (Nat.le_of_ble_eq_true rfl) ?_
  show z_J G l mX10_forget _ 0 [(0, _)] [] _ 0 0
  refine j_aload_n dX10_forget_0 rfl rfl ?_
  refine j_iconst (v := 0) dX10_forget_1 (by decide) ?_
  refine j_put (w' := _) dX10_forget_2 fX10_25 tX10_1 (h.hd (i := i) hi) ⟨rfl, rfl⟩ rfl ?_
  refine j_seal (by omega) ?_
  intro w1 u1
  have fw1 := u1.fw (ρ := 49 + i) (by omega) (by omega)
  have h1 := h.up49 (i0 := i) hi fw1 u1.1
  have ke1 := z_ke h1 ke0 z_keH
  refine j_aload_n dX10_forget_5 rfl rfl ?_
  refine j_iconst (v := 0) dX10_forget_6 (by decide) ?_
  refine j_put (w' := _) dX10_forget_7 fX10_28 tX10_2 (h1.hd (i := i) hi) ⟨rfl, rfl⟩ rfl ?_
  refine j_seal (by omega) ?_
  intro w2 u2
  have fw2 := u2.fw (ρ := 49 + i) (by omega) (by omega)
  have h2 := h1.up49 (i0 := i) hi fw2 u2.1
  have ke2 := z_ke h2 ke1 z_keH
  refine j_aload_n dX10_forget_10 rfl rfl ?_
  refine j_iconst (v := (-1)) dX10_forget_11 (by decide) ?_
  refine j_put (w' := _) dX10_forget_12 fX10_15 tX10_3 (h2.hd (i := i) hi) ⟨rfl, rfl⟩ rfl ?_
  refine j_seal (by omega) ?_
  intro w3 u3
  have fw3 := u3.fw (ρ := 49 + i) (by omega) (by omega)
  have h3 := h2.up49 (i0 := i) hi fw3 u3.1
  have ke3 := z_ke h3 ke2 z_keH
  refine j_aload_n dX10_forget_15 rfl rfl ?_
  refine j_getf dX10_forget_16 fX10_21 (h3.hd (i := i) hi) rfl ?_
  obtain ⟨lv11, -, lg11⟩ := z_li.cell (h3.hl (i := i) hi).1
  refine j_callV (q := (RJx4a65c, TJx4a65c, 3)) dX10_forget_19 kJx4a65c_clear_da8c8 lX10_49 inJx4a65c_clear_da8c8 seJx4a65c_clear_da8c8 lg11 rfl (cl_clear hl w3 _ _ _ _ (h3.hl hi).1 h3.fn) (Nat.le_of_ble_eq_true rfl) ⟨(Nat.le_of_ble_eq_true rfl), (Nat.le_of_ble_eq_true rfl)⟩ rfl (Nat.le_of_ble_eq_true rfl) rfl rfl (fun _ _ h => h.elim) ?_
  rintro _ w4 ⟨rfl, fw4, mo4, hr4⟩
  have fm4 := fw4.fm (q := 56) (by omega)
  have h4 := h3.li54 (B := []) hi fw4 hr4 (by decide)
  have ke4 := z_ke h4 ke3 rfl
  refine j_vret dX10_forget_22 rfl ?_ (Nat.le_of_ble_eq_true rfl) (Nat.le_of_ble_eq_true rfl)
  exact ⟨rfl, _, ((((fw1.fm (q := 56) (by omega)).tr (fw2.fm (q := 56) (by omega))).tr (fw3.fm (q := 56) (by omega))).tr (fm4.le (q' := 56) (by decide))), h4, ke4, ⟨rfl, rfl, rfl, rfl, rfl, rfl, rfl, rfl⟩, by simp only [z_qh, z_ql, z_th, z_tl, z_fu_self], by simp only [z_qh, z_ql, z_th, z_tl, z_fu_self], fun j hj => ⟨by simp only [z_qh, z_ql, z_th, z_tl, z_fu_ne hj], by simp only [z_qh, z_ql, z_th, z_tl, z_fu_ne hj]⟩⟩
end ZMp
end ZM19
section ZM20
section ZMs5
variable {G : z_G} {l : Launch}
set_option maxRecDepth 100000 in
set_option maxHeartbeats 8000000 in
theorem cm_place (hl : l.stackTraces = false) (w : z_W) (s : z_Z) (t : Nat) (y : Int32) (h : z_mst w s) (ht : t < 3) : z_Con G l mX11_place 14 0 0 w [.ref 1000, .int (nI t), .int y] (fun v w9 => ((∃ j p, v = some (.int (nI j)) ∧ (z_qp s t).2[j]? = some p ∧ z_qk s p 0 = y) ∨ (v = some (.int (-1)) ∧ ∀ p ∈ (z_qp s t).2, ¬ z_qk s p 0 = y)) ∧ w9 = w) (fun _ _ => False) := by
  refine z_body hl (by decide) rfl (Nat.le_of_ble_eq_true rfl) ?_
  show z_J G l mX11_place _ 0 [(0, _), (1, _), (2, _)] [] _ 0 0
  refine j_iconst (v := 0) dX11_place_0 (by decide) ?_
  refine j_istore_n (lo' := [(3, _), (0, _), (1, _), (2, _)]) dX11_place_1 (by decide) rfl ?_
  have loop2 : ∀ (n9 : Nat) (w1 : z_W) (j : Nat), (j ≤ 20) → (20 < j + n9) → (∀ q, q < j → ∀ p, (z_qp s t).2[q]? = some p → ¬ z_qk s p 0 = y) → (z_mst w1 s) → (w1 = w) → z_J G l mX11_place (14, 0, 0, w, (fun v w9 => ((∃ j p, v = some (.int (nI j)) ∧ (z_qp s t).2[j]? = some p ∧ z_qk s p 0 = y) ∨ (v = some (.int (-1)) ∧ ∀ p ∈ (z_qp s t).2, ¬ z_qk s p 0 = y)) ∧ w9 = w), (fun _ _ => False)) 2 [(0, .ref 1000), (1, .int (nI t)), (2, .int y), (3, .int (nI j))] [] w1 0 0 := by
    intro n9
    induction n9 with
    | zero => intro w1 j hj hf9 hno hm hW; exact absurd hf9 (by omega)
    | succ n9 ih =>
      intro w1 j hj hf9 hno hm hW
      refine j_iload_n dX11_place_2 rfl ?_
      refine j_aload_n dX11_place_3 rfl rfl ?_
      refine j_getf dX11_place_4 fX11_34 hm.m rfl ?_
      refine j_iload_n dX11_place_7 rfl ?_
      obtain ⟨lv361, -, lg361⟩ := z_li.cell hm.tabs
      refine j_callV (q := (RJx4a65c, TJx4a65c, 3)) dX11_place_8 kJx4a65c_get_915e3 lX11_82 inJx4a65c_get_915e3 seJx4a65c_get_915e3 lg361 rfl (cl_get hl w1 47 1007 _ _ (t) _ hm.tabs (z_thr3 (t := t) (by omega))) (Nat.le_of_ble_eq_true rfl) ⟨(Nat.le_of_ble_eq_true rfl), (Nat.le_of_ble_eq_true rfl)⟩ rfl (Nat.le_of_ble_eq_true rfl) rfl rfl (fun _ _ h => h.elim) ?_
      rintro _ _ ⟨rfl, hw362⟩
      refine j_w w1 hw362 ?_
      refine j_castS dX11_place_11 (z_w 1341 ((lwt_6_3 6).trans rfl) (by decide +kernel)) (z_li.is (hm.tb (t := t) (by omega))) ?_
      obtain ⟨lv364, -, lg364⟩ := z_li.cell (hm.tb (t := t) (by omega))
      refine j_callV (q := (RJx4a65c, TJx4a65c, 3)) dX11_place_14 kJx4a65c_size_8abf5 lX11_86 inJx4a65c_size_8abf5 seJx4a65c_size_8abf5 lg364 rfl (cl_sizeR hl w1 _ _ _ _ (hm.tb (t := t) (by omega))) (Nat.le_of_ble_eq_true rfl) ⟨(Nat.le_of_ble_eq_true rfl), (Nat.le_of_ble_eq_true rfl)⟩ rfl (Nat.le_of_ble_eq_true rfl) rfl rfl (fun _ _ h => h.elim) ?_
      rintro _ _ ⟨⟨n365, rfl, hn365⟩, hw365⟩
      refine j_w w1 hw365 ?_
      have hn365 : n365 = (z_qp s (t)).2.length := hn365
      have hz365 : (z_qp s (t)).2.length ≤ 20 := (hm.pr (t := t) (by omega)).len
      refine j_icmp_ge (tgt := 52) dX11_place_17 (by decide) (fun c_17_25 => ?_) (fun c_17_25 => ?_)
      · have hb17 : n365 ≤ j := (nI_leI (a := n365) (b := j) (by omega) (by omega)).mp c_17_25
        refine j_iconst (v := (-1)) dX11_place_52 (by decide) ?_
        refine j_iret dX11_place_53 rfl rfl ?_ (Nat.le_of_ble_eq_true rfl) (Nat.le_of_ble_eq_true rfl)
        exact ⟨Or.inr ⟨rfl, fun p hp => by obtain ⟨q, hq⟩ := List.getElem?_of_mem hp; exact hno q (by have := (List.getElem?_eq_some_iff.mp hq).1; omega) p hq⟩, hW⟩
      · have hb17 : j < n365 := Nat.not_le.mp (fun z => c_17_25 ((nI_leI (a := n365) (b := j) (by omega) (by omega)).mpr z))
        refine j_aload_n dX11_place_20 rfl rfl ?_
        refine j_getf dX11_place_21 fX11_34 hm.m rfl ?_
        refine j_iload_n dX11_place_24 rfl ?_
        obtain ⟨lv367, -, lg367⟩ := z_li.cell hm.tabs
        refine j_callV (q := (RJx4a65c, TJx4a65c, 3)) dX11_place_25 kJx4a65c_get_915e3 lX11_82 inJx4a65c_get_915e3 seJx4a65c_get_915e3 lg367 rfl (cl_get hl w1 47 1007 _ _ (t) _ hm.tabs (z_thr3 (t := t) (by omega))) (Nat.le_of_ble_eq_true rfl) ⟨(Nat.le_of_ble_eq_true rfl), (Nat.le_of_ble_eq_true rfl)⟩ rfl (Nat.le_of_ble_eq_true rfl) rfl rfl (fun _ _ h => h.elim) ?_
        rintro _ _ ⟨rfl, hw368⟩
        refine j_w w1 hw368 ?_
        refine j_castS dX11_place_28 (z_w 1341 ((lwt_6_3 6).trans rfl) (by decide +kernel)) (z_li.is (hm.tb (t := t) (by omega))) ?_
        refine j_iload_n dX11_place_31 rfl ?_
        obtain ⟨p370, hp370, hq370, hk370⟩ := z_rs_ex (P := (z_qp s (t)).2) (k := j) (by omega)
        obtain ⟨lv371, -, lg371⟩ := z_li.cell (hm.tb (t := t) (by omega))
        refine j_callV (q := (RJx4a65c, TJx4a65c, 3)) dX11_place_32 kJx4a65c_get_915e3 lX11_82 inJx4a65c_get_915e3 seJx4a65c_get_915e3 lg371 rfl (cl_get hl w1 _ _ _ _ (j) _ (hm.tb (t := t) (by omega)) hq370) (Nat.le_of_ble_eq_true rfl) ⟨(Nat.le_of_ble_eq_true rfl), (Nat.le_of_ble_eq_true rfl)⟩ rfl (Nat.le_of_ble_eq_true rfl) rfl rfl (fun _ _ h => h.elim) ?_
        rintro _ _ ⟨rfl, hw372⟩
        refine j_w w1 hw372 ?_
        refine j_castS dX11_place_35 (z_w 1663 ((lwt_7_5 28).trans rfl) (by decide +kernel)) (z_isA ((hm.pr (t := t) (by omega)).1 p370 hp370).2) ?_
        refine j_iconst (v := 0) dX11_place_38 (by decide) ?_
        refine j_ld dX11_place_39 ((hm.pr (t := t) (by omega)).1 p370 hp370).2 (vp_in_nI (n := 0) (by decide) (by decide)) ?_
        refine j_iload_n dX11_place_40 rfl ?_
        refine j_icmp_ne (tgt := 46) dX11_place_41 (by decide) (fun c_41_49 => ?_) (fun c_41_49 => ?_)
        · refine j_iinc (lo' := [(3, _), (0, _), (1, _), (2, _)]) dX11_place_46 rfl (z_inc _) (by decide) rfl ?_
          refine j_goto (tgt := 2) dX11_place_49 (by decide) ?_
          exact j_lo2 (ih w1 (j + 1) (by omega) (by omega) (fun q hq p hqp => by rcases Nat.lt_succ_iff_lt_or_eq.mp hq with z | z; exact hno q z p hqp; subst z; rw [hk370] at hqp; cases hqp; exact c_41_49) hm hW) (z_q1 rfl (z_q1 rfl (z_q1 rfl (z_q1 rfl z_q0))))
        · refine j_iload_n dX11_place_44 rfl ?_
          refine j_iret dX11_place_45 rfl rfl ?_ (Nat.le_of_ble_eq_true rfl) (Nat.le_of_ble_eq_true rfl)
          exact ⟨Or.inl ⟨j, _, rfl, hk370, c_41_49⟩, hW⟩
  exact j_lo2 (loop2 21 w 0 (by omega) (by omega) (fun q hq => absurd hq (Nat.not_lt_zero _)) h rfl) (z_q1 rfl (z_q1 rfl (z_q1 rfl (z_q1 rfl z_q0))))
end ZMs5
end ZM20
section ZM21
section ZMs9
variable {G : z_G} {l : Launch}
theorem j_mnew2 {y : z_M} {S : z_S} {pc : Nat} {lo : List (Nat × Value)} {st : List Value} {w : z_W} {kc ks : Nat} {idx a b c d : Nat} (hd : decode y.2.1 pc = .ok (.multianewarray idx 2, 4)) (hcl : Cond.classLink y.1.cls idx "[[I" ∈ z_tbl) (hov : Cond.arrayOver (.array .int) ∈ z_nst) (har : Cond.arrayClass .int ∈ z_tbl)
    (ha : 1000 ≤ a) (hb : 1000 ≤ b) (hc : 1000 ≤ c) (hd9 : 1000 ≤ d) (fa : z_g w a = none) (fb : z_g w b = none) (fc : z_g w c = none) (fd : z_g w d = none) (nab : b ≠ a) (nac : c ≠ a) (nad : d ≠ a) (nbc : c ≠ b) (nbd : d ≠ b) (ncd : d ≠ c)
    (hcs : kc + (1 + 3) ≤ S.2.1) (hss : ks + (3 + 3 * 7) ≤ S.2.2.1)
    (h : ∀ w', w'.1 = w.1 → (z_fn w → z_fn w') → (∀ m, m ≠ a → m ≠ b → m ≠ c → m ≠ d → z_g w' m = z_g w m) → (∃ f, z_g w' a = some (.inl (8, 3, f)) ∧ f 0 = .ref b ∧ f 1 = .ref c ∧ f 2 = .ref d) → z_g w' b = some (.inl (0, 7, fun _ => .int 0)) → z_g w' c = some (.inl (0, 7, fun _ => .int 0)) → z_g w' d = some (.inl (0, 7, fun _ => .int 0)) → z_J G l y S (pc + 4) lo (.ref a :: st) w' (kc + 4) (ks + 24)) : z_J G l y S pc lo (.int 7 :: .int 3 :: st) w kc ks := by
  refine j_mnew hd hcl hov har ha hb hc hd9 fa fb fc fd nab nac nad nbc nbd ncd hcs hss ?_
  obtain ⟨a1, a2, a3, a4⟩ := z_upS (w := w) (n := a) (e := .inl (8, 3, fun _ => .null)) ha
  generalize z_s w a (.inl (8, 3, fun _ => .null)) = w1 at *
  obtain ⟨b1, b2, b3, b4⟩ := z_upS (w := w1) (n := b) (e := .inl (0, 7, fun _ => .int 0)) hb
  generalize z_s w1 b (.inl (0, 7, fun _ => .int 0)) = w2 at *
  obtain ⟨c1, c2, c3, c4⟩ := z_upS (w := w2) (n := c) (e := .inl (0, 7, fun _ => .int 0)) hc
  generalize z_s w2 c (.inl (0, 7, fun _ => .int 0)) = w3 at *
  obtain ⟨d1, d2, d3, d4⟩ := z_upS (w := w3) (n := d) (e := .inl (0, 7, fun _ => .int 0)) hd9
  generalize z_s w3 d (.inl (0, 7, fun _ => .int 0)) = w4 at *
  obtain ⟨e1, e2, e3, e4⟩ := z_upS (w := w4) (n := a) (e := .inl (8, 3, z_u (z_u (z_u (fun _ => .null) 0 (.ref b)) 1 (.ref c)) 2 (.ref d))) ha
  generalize z_s w4 a (.inl (8, 3, z_u (z_u (z_u (fun _ => .null) 0 (.ref b)) 1 (.ref c)) 2 (.ref d))) = w5 at *
  exact h w5 (e3.trans (d3.trans (c3.trans (b3.trans a3)))) (fun z => e4 (d4 (c4 (b4 (a4 z))))) (fun m m1 m2 m3 m4 => (e2 m m1).trans ((d2 m m4).trans ((c2 m m3).trans ((b2 m m2).trans (a2 m m1))))) ⟨_, e1, rfl, rfl, rfl⟩ ((e2 b nab).trans ((d2 b (Ne.symm nbd)).trans ((c2 b (Ne.symm nbc)).trans b1))) ((e2 c nac).trans ((d2 c (Ne.symm ncd)).trans c1)) ((e2 d nad).trans d1)
theorem z_mem2 {P : Value → Prop} {L : List Value} {e : Value} (h : ∀ v ∈ L, P v) (he : P e) : ∀ v ∈ L ++ [e], P v := fun v hv => by
  rcases List.mem_append.mp hv with hv | hv
  · exact h v hv
  · rw [List.mem_singleton.mp hv]; exact he
set_option maxRecDepth 100000 in
set_option maxHeartbeats 8000000 in
theorem cm_init1009 (hl : l.stackTraces = false) (w : z_W)  (hfn : z_fn w) (hno : ∀ k, k = 1014 → z_g w k = none) (gh : z_g w 1009 = some (.inr (14, [.int 0, .int 0, .int 0, .int 0, .null]))) : z_Con G l mX10_init 14 1 3 w [.ref 1009] (fun v w9 => v = none ∧ w9.1 = w.1 ∧ z_fn w9 ∧ (∀ k, k < 1000 ∨ (k % 64 ≠ 49 ∧ k % 64 ≠ 54) → z_g w9 k = z_g w k) ∧ z_g w9 1009 = some (.inr (14, [.int (-1000), .int 0, .int 0, .int (-1), .ref 1014])) ∧ z_li w9 54 1014 0 []) (fun _ _ => False) := by
  have f_1014 : z_g w 1014 = none := hno 1014 (by decide)
  have b0 : w.1 = w.1 := rfl
  refine z_body hl (by decide) rfl (Nat.le_of_ble_eq_true rfl) ?_
  show z_J G l mX10_init _ 0 [(0, _)] [] _ 0 0
  refine j_aload_n dX10_init_0 rfl rfl ?_
  refine j_objI dX10_init_1 oX10_3 z_oi1 z_oi2 (Nat.le_of_ble_eq_true rfl) (Nat.le_of_ble_eq_true rfl) ?_
  refine j_aload_n dX10_init_4 rfl rfl ?_
  refine j_sipush (v := (-1000)) dX10_init_5 (by decide) ?_
  refine j_put (w' := _) dX10_init_8 fX10_9 tX10_0 gh ⟨rfl, rfl⟩ rfl ?_
  refine j_seal (n := 1009) (by decide) ?_
  intro w1 u1
  have fw1 := u1.fw (ρ := 49) (by decide) (by decide)
  have g1_1014 := (fw1.2.2 1014 (Or.inr (by decide))).trans f_1014
  have g1_1009 := u1.1
  have b1 := (fw1.1).trans b0
  have hf1 := fw1.2.1 hfn
  refine j_aload_n dX10_init_11 rfl rfl ?_
  refine j_iconst (v := (-1)) dX10_init_12 (by decide) ?_
  refine j_put (w' := _) dX10_init_13 fX10_15 tX10_3 g1_1009 ⟨rfl, rfl⟩ rfl ?_
  refine j_seal (n := 1009) (by decide) ?_
  intro w2 u2
  have fw2 := u2.fw (ρ := 49) (by decide) (by decide)
  have g2_1014 := (fw2.2.2 1014 (Or.inr (by decide))).trans g1_1014
  have g2_1009 := u2.1
  have b2 := (fw2.1).trans b1
  have hf2 := fw2.2.1 hf1
  refine j_aload_n dX10_init_16 rfl rfl ?_
  refine j_new (w' := _) (n := 1014) dX10_init_17 nX10_18 rfl (z_alW g2_1014 (by decide)) (Nat.le_of_ble_eq_true rfl) (Nat.le_of_ble_eq_true rfl) ?_
  refine j_seal (n := 1014) (by decide) ?_
  intro w3 u3
  have fw3 := u3.fw (ρ := 54) (by decide) (by decide)
  have g3_1009 := (fw3.2.2 1009 (Or.inr (by decide))).trans g2_1009
  have g3_1014 := u3.1
  have b3 := (fw3.1).trans b2
  have hf3 := fw3.2.1 hf2
  refine j_dup dX10_init_20 rfl ?_
  refine j_callI dX10_init_21 kJx4a65c_init_da8c8 rfl lX10_20 inJx4a65c_init_da8c8 rfl (cl_init hl w3 54 1014 (by decide) (by decide) g3_1014) (Nat.le_of_ble_eq_true rfl) ⟨(Nat.le_of_ble_eq_true rfl), (Nat.le_of_ble_eq_true rfl)⟩ rfl (Nat.le_of_ble_eq_true rfl) rfl rfl (fun _ _ h => h.elim) ?_
  rintro _ w4 ⟨rfl, fw4, hk4, l4_1014⟩
  have g4_1009 := (fw4.2.2 1009 (Or.inr (by decide))).trans g3_1009
  have b4 := (fw4.1).trans b3
  have hf4 := fw4.2.1 hf3
  refine j_putF (w' := _) dX10_init_24 fX10_21 tX10_4 rfl (z_dc rfl rfl (z_w 1389 ((lwt_6_4 24).trans rfl) (by decide +kernel))) g4_1009 (Or.inl ⟨_, rfl⟩) rfl ?_
  refine j_seal (n := 1009) (by decide) ?_
  intro w5 u5
  have fw5 := u5.fw (ρ := 49) (by decide) (by decide)
  have l5_1014 := l4_1014.fw fw5 (by decide)
  have g5_1009 := u5.1
  have b5 := (fw5.1).trans b4
  have hf5 := fw5.2.1 hf4
  refine j_vret dX10_init_27 rfl ?_ (Nat.le_of_ble_eq_true rfl) (Nat.le_of_ble_eq_true rfl)
  exact ⟨rfl, b5, hf5, fun k hk => by rw [fw5.2.2 k (by omega)]; rw [fw4.2.2 k (by omega)]; rw [fw3.2.2 k (by omega)]; rw [fw2.2.2 k (by omega)]; rw [fw1.2.2 k (by omega)], g5_1009, l5_1014⟩
set_option maxRecDepth 100000 in
set_option maxHeartbeats 8000000 in
theorem cm_init1010 (hl : l.stackTraces = false) (w : z_W)  (hfn : z_fn w) (hno : ∀ k, k = 1015 → z_g w k = none) (gh : z_g w 1010 = some (.inr (14, [.int 0, .int 0, .int 0, .int 0, .null]))) : z_Con G l mX10_init 14 1 3 w [.ref 1010] (fun v w9 => v = none ∧ w9.1 = w.1 ∧ z_fn w9 ∧ (∀ k, k < 1000 ∨ (k % 64 ≠ 50 ∧ k % 64 ≠ 55) → z_g w9 k = z_g w k) ∧ z_g w9 1010 = some (.inr (14, [.int (-1000), .int 0, .int 0, .int (-1), .ref 1015])) ∧ z_li w9 55 1015 0 []) (fun _ _ => False) := by
  have f_1015 : z_g w 1015 = none := hno 1015 (by decide)
  have b0 : w.1 = w.1 := rfl
  refine z_body hl (by decide) rfl (Nat.le_of_ble_eq_true rfl) ?_
  show z_J G l mX10_init _ 0 [(0, _)] [] _ 0 0
  refine j_aload_n dX10_init_0 rfl rfl ?_
  refine j_objI dX10_init_1 oX10_3 z_oi1 z_oi2 (Nat.le_of_ble_eq_true rfl) (Nat.le_of_ble_eq_true rfl) ?_
  refine j_aload_n dX10_init_4 rfl rfl ?_
  refine j_sipush (v := (-1000)) dX10_init_5 (by decide) ?_
  refine j_put (w' := _) dX10_init_8 fX10_9 tX10_0 gh ⟨rfl, rfl⟩ rfl ?_
  refine j_seal (n := 1010) (by decide) ?_
  intro w1 u1
  have fw1 := u1.fw (ρ := 50) (by decide) (by decide)
  have g1_1015 := (fw1.2.2 1015 (Or.inr (by decide))).trans f_1015
  have g1_1010 := u1.1
  have b1 := (fw1.1).trans b0
  have hf1 := fw1.2.1 hfn
  refine j_aload_n dX10_init_11 rfl rfl ?_
  refine j_iconst (v := (-1)) dX10_init_12 (by decide) ?_
  refine j_put (w' := _) dX10_init_13 fX10_15 tX10_3 g1_1010 ⟨rfl, rfl⟩ rfl ?_
  refine j_seal (n := 1010) (by decide) ?_
  intro w2 u2
  have fw2 := u2.fw (ρ := 50) (by decide) (by decide)
  have g2_1015 := (fw2.2.2 1015 (Or.inr (by decide))).trans g1_1015
  have g2_1010 := u2.1
  have b2 := (fw2.1).trans b1
  have hf2 := fw2.2.1 hf1
  refine j_aload_n dX10_init_16 rfl rfl ?_
  refine j_new (w' := _) (n := 1015) dX10_init_17 nX10_18 rfl (z_alW g2_1015 (by decide)) (Nat.le_of_ble_eq_true rfl) (Nat.le_of_ble_eq_true rfl) ?_
  refine j_seal (n := 1015) (by decide) ?_
  intro w3 u3
  have fw3 := u3.fw (ρ := 55) (by decide) (by decide)
  have g3_1010 := (fw3.2.2 1010 (Or.inr (by decide))).trans g2_1010
  have g3_1015 := u3.1
  have b3 := (fw3.1).trans b2
  have hf3 := fw3.2.1 hf2
  refine j_dup dX10_init_20 rfl ?_
  refine j_callI dX10_init_21 kJx4a65c_init_da8c8 rfl lX10_20 inJx4a65c_init_da8c8 rfl (cl_init hl w3 55 1015 (by decide) (by decide) g3_1015) (Nat.le_of_ble_eq_true rfl) ⟨(Nat.le_of_ble_eq_true rfl), (Nat.le_of_ble_eq_true rfl)⟩ rfl (Nat.le_of_ble_eq_true rfl) rfl rfl (fun _ _ h => h.elim) ?_
  rintro _ w4 ⟨rfl, fw4, hk4, l4_1015⟩
  have g4_1010 := (fw4.2.2 1010 (Or.inr (by decide))).trans g3_1010
  have b4 := (fw4.1).trans b3
  have hf4 := fw4.2.1 hf3
  refine j_putF (w' := _) dX10_init_24 fX10_21 tX10_4 rfl (z_dc rfl rfl (z_w 1389 ((lwt_6_4 24).trans rfl) (by decide +kernel))) g4_1010 (Or.inl ⟨_, rfl⟩) rfl ?_
  refine j_seal (n := 1010) (by decide) ?_
  intro w5 u5
  have fw5 := u5.fw (ρ := 50) (by decide) (by decide)
  have l5_1015 := l4_1015.fw fw5 (by decide)
  have g5_1010 := u5.1
  have b5 := (fw5.1).trans b4
  have hf5 := fw5.2.1 hf4
  refine j_vret dX10_init_27 rfl ?_ (Nat.le_of_ble_eq_true rfl) (Nat.le_of_ble_eq_true rfl)
  exact ⟨rfl, b5, hf5, fun k hk => by rw [fw5.2.2 k (by omega)]; rw [fw4.2.2 k (by omega)]; rw [fw3.2.2 k (by omega)]; rw [fw2.2.2 k (by omega)]; rw [fw1.2.2 k (by omega)], g5_1010, l5_1015⟩
end ZMs9
end ZM21
section ZM22
section ZSb0
variable {G : z_G} {l : Launch} {y : z_M} {S : z_S} {pc : Nat} {lo : List (Nat × Value)} {st : List Value} {w w' : z_W} {kc ks : Nat}
def z_by (f : Nat → Value) : Prop := ∀ j, ∃ x, f j = .int x ∧ fits .byte (.int x) = true
theorem j_clone {idx a n N : Nat} {f : Nat → Value} (hd : decode y.2.1 pc = .ok (.invokevirtual idx, 3)) (hl : Cond.methodLink y.1.cls idx ⟨"[B", "clone", "()Ljava/lang/Object;"⟩ ∈ z_tbl) (hsm : Cond.sameMethod "[B" "java/lang/Object" "clone" "()Ljava/lang/Object;" ∈ z_tbl)
    (hnat : Cond.native ⟨"java/lang/Object", "clone", "()Ljava/lang/Object;"⟩ ∈ z_tbl) (hinst : Cond.instanceMethod ⟨"java/lang/Object", "clone", "()Ljava/lang/Object;"⟩ ∈ z_tbl) (hsel : Cond.selects "[B" ⟨"[B", "clone", "()Ljava/lang/Object;"⟩ ⟨"java/lang/Object", "clone", "()Ljava/lang/Object;"⟩ ∈ z_tbl) (hcl : Cond.castable "[B" "java/lang/Cloneable" ∈ z_nst)
    (hg : z_g w a = some (.inl (2, N, f))) (hf : z_by f) (hw : z_g w n = none ∧ z_al w n (.inl (2, N, f)) w') (hrk : 1 ≤ S.1) (hW : z_cat st ≤ 8) (hc : kc + 1 ≤ S.2.1) (hs : ks + N ≤ S.2.2.1)
    (h : z_J G l y S (pc + 3) lo (.ref n :: st) w' (kc + 1) (ks + N)) : z_J G l y S pc lo (.ref a :: st) w kc ks := by
  intro p e s m args below meth c R0 hok R H locs ls cst hat hlo hst
  obtain ⟨c0, cs0, rfl, ⟨-, h0⟩, hst1⟩ := z_Lc hst
  subst h0
  obtain ⟨z, z1, z2⟩ := (hat.1.1 a _ hg).1
  have hz : ∀ j, j < N → ∃ x, z j = .int x ∧ f j = .int x ∧ fits .byte (.int x) = true := fun j hj => by
    obtain ⟨x, ex, hx⟩ := hf j
    have h9 : z_V G R w (f j) (z j) := z2 j hj
    rw [ex] at h9
    exact ⟨x, h9, ex, hx⟩
  have hok2 := hok
  obtain ⟨hx, hb, -, -, -, hown, hts, henv, -, hbs, -⟩ := hok2
  obtain ⟨hA, hRA⟩ := henv.2.1 2 _ rfl
  have hnm : s.vm.findClass "[B" = some (z_dA G 2) := va_nm_byte hRA
  obtain ⟨c9, t9, f1, f2, f3⟩ := Cond.castable_spec (va_Nw.use (A := args) rfl (henv.2.2.1 _ hcl))
  cases hnm.symm.trans f1
  have hsz := hlo.choose_spec.1.1
  have h8 : (cs0.map fun v => v.category).sum ≤ 8 := by rw [z_Lcs hst1]; exact hW
  have h40 : 40 ≤ (z_rm S.1 S.2.1 S.2.2.1).locals := by show 40 ≤ 40 * S.1; omega
  have hX : z_X G ((fun m => if m = n then H.size else R.1 m), R.2) w' (.inl (2, N, f)) H.size (H.push (arrV (z_dA G 2) N z)) := ⟨z, Array.getElem?_push_size, fun j hj => by
    obtain ⟨x, e1, e2, -⟩ := hz j hj
    show z_V G _ w' (f j) (z j)
    rw [e1, e2]
    exact rfl⟩
  have hV := z_Va (G := G) (R := R) (q := H.size) hw.1 hw.2
  have hat' := z_alloc hbs hat hw.1 hw.2 (H' := H.push (arrV (z_dA G 2) N z)) (Array.size_push _) (fun q hq => by rw [Array.getElem?_push, if_neg (Nat.ne_of_lt hq)]) hX
  have hr : z_V G ((fun m => if m = n then H.size else R.1 m), R.2) w' (.ref n) (.ref H.size) := ⟨⟨_, hw.2.1⟩, by show Value.ref H.size = .ref (if n = n then H.size else R.1 n); rw [if_pos rfl]⟩
  have kk := h p e s m args below meth c R0 hok _ _ locs ls (.ref H.size :: cs0) hat' (z_lom hV hlo) ⟨hr, z_Lm hV hst1⟩
  intro T hT X
  obtain ⟨-, kA, hkA, comp, hkind⟩ := State.isArrayOf_alike X.warmed.alike (hA 0 (fun _ => .null))
  obtain ⟨-, kS, hkS, compS, hkindS⟩ := hA 0 (fun _ => .null)
  obtain ⟨vm', X', st9⟩ := X.cloneArray hx hown (hts _ hl) (hts _ hsm) (hts _ hnat) (hts _ hinst) (hts _ hsel) (a := R.1 a) (cell := arrV (z_dA G 2) N z) (by rw [hT]; exact z1) (fun k h => by cases h) (fun h => by cases h) hnm f2 f3
    (fun i v hv => by
      have hk' : T.vm.classes[z_dA G 2]? = some kA := hkA
      have h7 : fits .byte v = true := va_fit (F := z) (n := N) (cA := z_dA G 2) (fun i hi => by obtain ⟨x, e1, -, e3⟩ := hz i hi; rw [e1]; exact e3) i v hv
      have h6 : (arrV (z_dA G 2) N z).cls = z_dA G 2 := rfl
      rw [h6]
      simpa [State.fitsSlot, State.slotType?, hk', hkind] using h7)
    (g := F0 m pc ls (.ref (R.1 a) :: cs0)) rfl (by rw [← hsz]) (rest := cs0) rfl (by rw [hb]; exact hd) hrk (by show 2 * 0 + _ + 14 ≤ _; omega) hc (by rw [arrV_size]; exact hs) (hloader := Vm.clonesLoader_of_array hkS hkindS)
  rw [arrV_size] at X'
  obtain ⟨t, b1, b2⟩ := kk ((T.setVm vm').pushCell (arrV (z_dA G 2) N z)) (by rw [← hT]; rfl) X'
  refine ⟨t, st9 t ?_, b2⟩
  rw [hT]
  exact b1
theorem j_callVK {i idx np rk' mc' ms' : Nat} {y' : z_M} {as rest : List Value} {Q' : Option Value → z_W → Prop} {X' : String → z_W → Prop} {t : String × Nat × String} (hd : decode y.2.1 pc = .ok (.invokevirtual idx, 3)) (hm : z_okm y' np) (hl : Cond.methodLink y.1.cls idx y'.1 ∈ z_tbl) (hi : Cond.instanceMethod y'.1 ∈ z_tbl) (hse : Cond.selects "java/lang/String" y'.1 y'.1 ∈ z_tbl) (hi9 : z_strs[i]? = some t) (ht9 : t.1 = "LoopdefaultsModel" ∨ t.1 = "LoopdefaultsModel$Hearer") (hc : z_Con G l y' rk' mc' ms' w (.retAddr (10 + i) :: as) Q' X') (hrk : rk' + 1 ≤ S.1) (hcs : kc + mc' ≤ S.2.1 ∧ ks + ms' ≤ S.2.2.1) (hstk : st = as.reverse ++ .retAddr (10 + i) :: rest) (hW : z_cat rest ≤ 8) (hn : as.length = np) (ht : y.2.2.2.2 = []) (hx : ∀ E w', X' E w' → S.2.2.2.2.2 E w') (kk : ∀ v w', Q' v w' → z_J G l y S (pc + 3) lo (v.toList ++ rest) w' (kc + mc') (ks + ms')) : z_J G l y S pc lo st w kc ks := by
  intro p e s m args below meth c R0 hok R H locs ls cst hat hlo hst
  subst hstk
  obtain ⟨b1, c2, rfl, hb1, hst⟩ := z_Lapp hst
  obtain ⟨c1, crest, rfl, h1, hrest⟩ := z_Lc hst
  have h1' := h1
  obtain ⟨a, h2, hq1⟩ := h1'
  subst h2
  obtain ⟨a2, bq, ha, hbq, -, hO⟩ := (z_okc hok).2.2.2.2.2.2.2.2.1 i t hi9 ht9
  have e9 := (z_okc hok).1 _ _ _ hq1 ha
  subst e9
  obtain ⟨cell, o1, o2, o3, o4⟩ := hO
  have o1' : H[a]? = some cell := by rw [(z_fS hok hat).2.1 a (Array.getElem?_eq_some_iff.mp o1).1 ((z_okc hok).2.1 _ _ (Or.inr (by omega)) hq1)]; exact o1
  have hcell : ∃ cell : Cell, H[a]? = some cell ∧ cell.vm.isStatics = false ∧ s.vm.findClass "java/lang/String" = some cell.cls := ⟨cell, o1', o3.1, by rw [o2]; exact (hok.2.2.2.2.2.2.2.1.1 0 _ rfl).2.1⟩
  have hAs := z_Lrev hb1
  rw [List.reverse_reverse] at hAs
  exact z_run hok hat hlo hrest ht (vx_runV (C := "java/lang/String") (As := b1.reverse) ⟨hok.1, hok.2.1, rfl, hok.2.2.2.2.2.1, hok.2.2.2.2.2.2.1⟩ (hc R) ⟨z_CB hok.2.2.2.2.2.2.1 hm hrk hl, hok.2.2.2.2.2.2.1 _ hi, hok.2.2.2.2.2.2.1 _ hse⟩ ⟨z_Pc_blind, hcell, fun U hU hW9 => z_pre hok hat (av := .retAddr (10 + i) :: as) (cav := .ref a :: b1.reverse) ⟨h1, hAs⟩ U hU hW9⟩ rfl (by rw [z_Ll hAs]; exact hn) hlo.choose_spec.1.1 (by rw [List.reverse_reverse]) (lv_room (by rw [z_Lcs hrest]; exact hW)) hd hcs) hcs hx kk
theorem z_up.tr {n : Nat} {e e' : z_E} {w1 : z_W} (h : z_up w n e w1) (h2 : z_up w1 n e' w') : z_up w n e' w' := ⟨h2.1, fun m hm => (h2.2.1 m hm).trans (h.2.1 m hm), h2.2.2.1.trans h.2.2.1, fun z => h2.2.2.2 (h.2.2.2 z)⟩
theorem z_by0 : z_by (fun _ => .int 0) := fun _ => ⟨0, rfl, by decide⟩
theorem z_byU {f : Nat → Value} {k : Nat} {x : Int32} (h : z_by f) (hx : fits .byte (.int x) = true) : z_by (z_u f k (.int x)) := fun j => by
  by_cases hj : j = k
  · subst hj; rw [z_u_self]; exact ⟨x, rfl, hx⟩
  · rw [z_u_ne hj]; exact h j
theorem z_byC {f g : Nat → Value} {a b n : Nat} (h : ∀ j, a ≤ j → j < a + n → ∃ x, f j = .int x ∧ fits .byte (.int x) = true) (hg : z_by g) : z_by (va_cpy f g a b n) := fun j => by
  unfold va_cpy
  by_cases hj : b ≤ j ∧ j < b + n
  · rw [if_pos hj]; exact h _ (by omega) (by omega)
  · rw [if_neg hj]; exact hg j
def z_gr (N m : Nat) : Nat := if m ≤ N then N else 2 * N + 2
def z_sbA (w : z_W) (ρ a n N m : Nat) (f : Nat → Value) (ml : Int32) : Prop := 1000 ≤ m ∧ m % 64 = ρ ∧ m ≠ a ∧ z_g w a = some (.inr (1, [.ref m, .int 0, .int ml, .int (nI n)])) ∧ z_g w m = some (.inl (2, N, f)) ∧ z_by f
def z_sb (w : z_W) (ρ a n N : Nat) : Prop := 1000 ≤ a ∧ a % 64 = ρ ∧ n ≤ N ∧ 16 ≤ N ∧ N ≤ 5000 ∧ ∃ m f ml, z_sbA w ρ a n N m f ml
theorem z_gr_le {N m : Nat} : N ≤ z_gr N m := by unfold z_gr; split <;> omega
theorem z_gr_ge {N m : Nat} (h : m ≤ 2 * N + 2) : m ≤ z_gr N m := by unfold z_gr; split <;> omega
theorem z_gr_mx {N m M : Nat} (hN : N ≤ 2 * M + 16) (hm : m ≤ M) : z_gr N m ≤ 2 * M + 16 := by unfold z_gr; split <;> omega
theorem z_sb.fw {ρ σ a n N : Nat} (h : z_sb w ρ a n N) (hw : z_fw σ w w') (hne : ρ ≠ σ) : z_sb w' ρ a n N := by
  obtain ⟨h1, h2, h3, h4, h5, m, f, ml, a1, a2, a3, a4, a5, a6⟩ := h
  exact ⟨h1, h2, h3, h4, h5, m, f, ml, a1, a2, a3, hw.g (Or.inr (by omega)) a4, hw.g (Or.inr (by omega)) a5, a6⟩
theorem z_sb.m {ρ a n N : Nat} (h : z_sb w ρ a n N) (hw : ∀ k, 1000 ≤ k → k % 64 = ρ → z_g w' k = z_g w k) : z_sb w' ρ a n N := by
  obtain ⟨h1, h2, h3, h4, h5, m, f, ml, a1, a2, a3, a4, a5, a6⟩ := h
  exact ⟨h1, h2, h3, h4, h5, m, f, ml, a1, a2, a3, (hw a h1 h2).trans a4, (hw m a1 a2).trans a5, a6⟩
theorem z_nmx {n : Nat} (h : n < 2147483647) : ¬ nI n = 2147483647 := fun z => by
  have := nI_inj (a := n) (b := 2147483647) z (by omega) (by decide)
  omega
def z_dg (w : Nat) : Nat := if w < 10 then 1 else if w < 100 then 2 else if w < 1000 then 3 else if w < 10000 then 4 else if w < 100000 then 5 else if w < 1000000 then 6 else if w < 10000000 then 7 else if w < 100000000 then 8 else if w < 1000000000 then 9 else 10
def z_sz (x : Int32) : Nat := (if x < 0 then 1 else 0) + z_dg x.toInt.natAbs
theorem z_dg_in (w : Nat) : 1 ≤ z_dg w ∧ z_dg w ≤ 10 := by unfold z_dg; (repeat' split) <;> omega
theorem z_sz_in (x : Int32) : 1 ≤ z_sz x ∧ z_sz x ≤ 11 := by
  have := z_dg_in x.toInt.natAbs
  unfold z_sz
  split <;> omega
theorem z_dg100 {w : Nat} (h : 100 ≤ w) (h2 : w ≤ 2147483648) : z_dg w = z_dg (w / 100) + 2 := by
  unfold z_dg
  rw [if_neg (show ¬ w < 10 by omega), if_neg (show ¬ w < 100 by omega)]
  by_cases c3 : w < 1000
  · rw [if_pos c3, if_pos (show w / 100 < 10 by omega)]
  rw [if_neg c3, if_neg (show ¬ w / 100 < 10 by omega)]
  by_cases c4 : w < 10000
  · rw [if_pos c4, if_pos (show w / 100 < 100 by omega)]
  rw [if_neg c4, if_neg (show ¬ w / 100 < 100 by omega)]
  by_cases c5 : w < 100000
  · rw [if_pos c5, if_pos (show w / 100 < 1000 by omega)]
  rw [if_neg c5, if_neg (show ¬ w / 100 < 1000 by omega)]
  by_cases c6 : w < 1000000
  · rw [if_pos c6, if_pos (show w / 100 < 10000 by omega)]
  rw [if_neg c6, if_neg (show ¬ w / 100 < 10000 by omega)]
  by_cases c7 : w < 10000000
  · rw [if_pos c7, if_pos (show w / 100 < 100000 by omega)]
  rw [if_neg c7, if_neg (show ¬ w / 100 < 100000 by omega)]
  by_cases c8 : w < 100000000
  · rw [if_pos c8, if_pos (show w / 100 < 1000000 by omega)]
  rw [if_neg c8, if_neg (show ¬ w / 100 < 1000000 by omega)]
  by_cases c9 : w < 1000000000
  · rw [if_pos c9, if_pos (show w / 100 < 10000000 by omega)]
  rw [if_neg c9, if_neg (show ¬ w / 100 < 10000000 by omega)]
  rw [if_pos (show w / 100 < 100000000 by omega)]
theorem z_dgL {w k : Nat} (h : (k = 1 ∨ 10 ^ (k - 1) ≤ w) ∧ w < 10 ^ k) (hk : 1 ≤ k ∧ k ≤ 9) : z_dg w = k := by
  obtain ⟨k1, k2⟩ := hk
  obtain ⟨h1, h2⟩ := h
  rcases (by omega : k = 1 ∨ k = 2 ∨ k = 3 ∨ k = 4 ∨ k = 5 ∨ k = 6 ∨ k = 7 ∨ k = 8 ∨ k = 9) with rfl | rfl | rfl | rfl | rfl | rfl | rfl | rfl | rfl <;> simp at h1 h2 <;> unfold z_dg
  · rw [if_pos (show w < 10 by omega)]
  · rw [if_neg (show ¬ w < 10 by omega), if_pos (show w < 100 by omega)]
  · rw [if_neg (show ¬ w < 10 by omega), if_neg (show ¬ w < 100 by omega), if_pos (show w < 1000 by omega)]
  · rw [if_neg (show ¬ w < 10 by omega), if_neg (show ¬ w < 100 by omega), if_neg (show ¬ w < 1000 by omega), if_pos (show w < 10000 by omega)]
  · rw [if_neg (show ¬ w < 10 by omega), if_neg (show ¬ w < 100 by omega), if_neg (show ¬ w < 1000 by omega), if_neg (show ¬ w < 10000 by omega), if_pos (show w < 100000 by omega)]
  · rw [if_neg (show ¬ w < 10 by omega), if_neg (show ¬ w < 100 by omega), if_neg (show ¬ w < 1000 by omega), if_neg (show ¬ w < 10000 by omega), if_neg (show ¬ w < 100000 by omega), if_pos (show w < 1000000 by omega)]
  · rw [if_neg (show ¬ w < 10 by omega), if_neg (show ¬ w < 100 by omega), if_neg (show ¬ w < 1000 by omega), if_neg (show ¬ w < 10000 by omega), if_neg (show ¬ w < 100000 by omega), if_neg (show ¬ w < 1000000 by omega), if_pos (show w < 10000000 by omega)]
  · rw [if_neg (show ¬ w < 10 by omega), if_neg (show ¬ w < 100 by omega), if_neg (show ¬ w < 1000 by omega), if_neg (show ¬ w < 10000 by omega), if_neg (show ¬ w < 100000 by omega), if_neg (show ¬ w < 1000000 by omega), if_neg (show ¬ w < 10000000 by omega), if_pos (show w < 100000000 by omega)]
  · rw [if_neg (show ¬ w < 10 by omega), if_neg (show ¬ w < 100 by omega), if_neg (show ¬ w < 1000 by omega), if_neg (show ¬ w < 10000 by omega), if_neg (show ¬ w < 100000 by omega), if_neg (show ¬ w < 1000000 by omega), if_neg (show ¬ w < 10000000 by omega), if_neg (show ¬ w < 100000000 by omega), if_pos (show w < 1000000000 by omega)]
theorem z_ngI {x : Int32} (h : ¬ x < 0) : (-x).toInt = -(x.toInt.natAbs : Int) := by
  have h0 : ¬ x.toInt < 0 := fun z => h (Int32.lt_iff_toInt_lt.mpr z)
  have h1 := Int32.toInt_lt x
  rw [Int32.toInt_neg, Int.bmod_eq_of_le (by omega) (by omega)]
  omega
theorem z_poI {x : Int32} (h : x < 0) : x.toInt = -(x.toInt.natAbs : Int) := by
  have h0 : x.toInt < 0 := Int32.lt_iff_toInt_lt.mp h
  omega
theorem z_leI {a b : Int32} {p q : Int} (hc : a ≤ b) (ha : a.toInt = p) (hb : b.toInt = q) : p ≤ q := by rw [← ha, ← hb]; exact Int32.le_iff_toInt_le.mp hc
theorem z_nleI {a b : Int32} {p q : Int} (hc : ¬ a ≤ b) (ha : a.toInt = p) (hb : b.toInt = q) : q < p := by
  have h9 : ¬ a.toInt ≤ b.toInt := fun z => hc (Int32.le_iff_toInt_le.mpr z)
  rw [ha, hb] at h9
  omega
theorem z_divI {i : Int32} {w : Nat} (hi : i.toInt = -(w : Int)) (hw : w ≤ 2147483648) : (i / 100).toInt = -((w / 100 : Nat) : Int) := by
  rw [Int32.toInt_div, hi, show (100 : Int32).toInt = 100 from rfl, Int.neg_tdiv, show (w : Int).tdiv 100 = ((w / 100 : Nat) : Int) from rfl, Int.bmod_eq_of_le (by omega) (by omega)]
theorem z_remI {i : Int32} {w : Nat} (hi : i.toInt = -(w : Int)) (hw : w ≤ 2147483648) : (i / 100 * 100 - i).toInt = ((w % 100 : Nat) : Int) := by
  have h1 := z_divI hi hw
  have e1 : (i / 100 * 100).toInt = -((w / 100 * 100 : Nat) : Int) := by
    rw [Int32.toInt_mul, h1, show (100 : Int32).toInt = 100 from rfl, Int.bmod_eq_of_le (by omega) (by omega)]
    omega
  rw [Int32.toInt_sub, e1, hi, Int.bmod_eq_of_le (by omega) (by omega)]
  omega
theorem z_negI {i : Int32} {w : Nat} (hi : i.toInt = -(w : Int)) (hw : w < 2147483648) : (-i).toInt = (w : Int) := by
  rw [Int32.toInt_neg, hi, Int.bmod_eq_of_le (by omega) (by omega)]
  omega
theorem z_vpin {x : Int32} {k n : Nat} (h : x.toInt = (k : Int)) (hk : k < n) : vp_in x n := vp_in_iff.mpr ⟨by omega, by omega⟩
theorem j_bastW {a n : Nat} {f : Nat → Value} {i x : Int32} (hd : decode y.2.1 pc = .ok (.bastore, 1)) (hg : z_g w a = some (.inl (2, n, f))) (hin : vp_in i n) (hw : z_s w a (.inl (2, n, z_u f i.toNatClampNeg (.int x.toInt8.toInt32))) = w') (h : z_J G l y S (pc + 1) lo st w' kc ks) : z_J G l y S pc lo (.int x :: .int i :: .ref a :: st) w kc ks := by
  intro p e s m args below meth c R0 hok R H locs ls cst hat hlo hst
  obtain ⟨c9, cs9, rfl, h9, hst1⟩ := z_Lc hst
  obtain ⟨c0, cs0, rfl, h0, hst2⟩ := z_Lc hst1
  obtain ⟨c1, cs1, rfl, ⟨-, h1⟩, hst3⟩ := z_Lc hst2
  have h9 : c9 = .int x := h9
  have h0 : c0 = .int i := h0
  subst h9
  subst h0
  subst h1
  subst hw
  obtain ⟨z, z1, z2⟩ := (hat.1.1 a _ hg).1
  have hok2 := hok
  obtain ⟨hx, hb, -, -, -, hown, hts, henv, -⟩ := hok2
  refine W.bast hx hb z1 ((henv.2.1 2 .byte rfl).1 n z) (fun q => by cases q) (by show ¬ (i < 0 ∨ (arrV _ _ _).slots.size ≤ _); rw [arrV_size]; exact hin) rfl rfl hd ?_
  intro H' e1 e2 e3
  have hnr : narrow .byte (.int x) = .int x.toInt8.toInt32 := rfl
  rw [hnr] at e1
  exact h p e s m args below meth c R0 hok R H' _ ls cs1 (z_write hat hg e2 e3 (z_Xu (z_Vs hg) z2 rfl e1)) (z_lom (z_Vs hg) hlo) (z_Lm (z_Vs hg) hst3)
end ZSb0
end ZM22
section ZM23
section ZSb1
variable {G : z_G} {l : Launch} {y : z_M} {S : z_S} {pc : Nat} {lo : List (Nat × Value)} {st : List Value} {w w' : z_W} {kc ks : Nat}
theorem z_selP {C : String} {x y : MethodName} {s : State} {args : Array Value} (hx : (Cond.selects C x x).before args s = true) (hxy : x.cls = y.cls) (hpriv : (Cond.privateMethod y).before args s = true) (hy : y.cls ≠ "java/lang/invoke/MethodHandle" ∧ y.cls ≠ "java/lang/invoke/VarHandle") (hinst : (Cond.instanceMethod y).before args s = true) : (Cond.selects C y y).before args s = true := by
  obtain ⟨mk, methM, hnamed, hmethM, -, -⟩ := Cond.instanceMethod_spec hinst
  have hfound : s.methodFound? y.cls y.name y.desc = some mk := State.methodFound?_of_named hnamed hy
  simp only [Cond.before, Cond.holds, Cond.value] at hx
  cases h1 : s.vm.findClass C with
  | none => rw [h1] at hx; simp at hx
  | some c =>
    cases h2 : s.methodFound? x.cls x.name x.desc with
    | none => rw [h1, h2] at hx; simp at hx
    | some r =>
      cases h3 : s.methodNamed? x with
      | none => rw [h1, h2, h3] at hx; simp at hx
      | some m =>
        have hcl : m.cls = mk.cls := by
          have e1 := findClass_of_methodNamed h3
          have e2 := findClass_of_methodNamed hnamed
          rw [hxy] at e1
          exact Option.some.inj (e1.symm.trans e2)
        have hsel : selectMethod {} s.vm c mk = .method mk := selectMethod_private hmethM (Cond.privateMethod_at hpriv mk methM hnamed hmethM)
        simp only [h1, h2, h3, hcl] at hx
        simp only [Cond.before, Cond.holds, Cond.value, h1, hfound, hnamed, hsel]
        cases h4 : selectMethod {} s.vm c r with
        | method m' => rw [h4] at hx; simp at hx; simpa using hx.2
        | _ => rw [h4] at hx; simp at hx
theorem j_callP {idx np rk' mc' ms' : Nat} {y' : z_M} {as rest : List Value} {Q' : Option Value → z_W → Prop} {X' : String → z_W → Prop} {x : MethodName} {a ci : Nat} {fs : List Value} {q : vw_C} (hd : decode y.2.1 pc = .ok (.invokevirtual idx, 3)) (hm : z_okm y' np) (hl : Cond.methodLink y.1.cls idx y'.1 ∈ z_tbl) (hi : Cond.instanceMethod y'.1 ∈ z_tbl) (hse : Cond.selects q.1 x x ∈ z_tbl ∧ x.cls = y'.1.cls ∧ Cond.privateMethod y'.1 ∈ z_nst) (hg : z_g w a = some (.inr (ci, fs))) (hq : z_cls[ci]? = some q) (hc : z_Con G l y' rk' mc' ms' w (.ref a :: as) Q' X') (hrk : rk' + 1 ≤ S.1) (hcs : kc + mc' ≤ S.2.1 ∧ ks + ms' ≤ S.2.2.1) (hstk : st = as.reverse ++ .ref a :: rest) (hW : z_cat rest ≤ 8) (hn : as.length = np) (ht : y.2.2.2.2 = []) (hx : ∀ E w', X' E w' → S.2.2.2.2.2 E w') (kk : ∀ v w', Q' v w' → z_J G l y S (pc + 3) lo (v.toList ++ rest) w' (kc + mc') (ks + ms')) : z_J G l y S pc lo st w kc ks := by
  intro p e s m args below meth c R0 hok R H locs ls cst hat hlo hst
  subst hstk
  obtain ⟨b1, c2, rfl, hb1, hst⟩ := z_Lapp hst
  obtain ⟨c1, crest, rfl, h1, hrest⟩ := z_Lc hst
  have h1' := h1.2
  subst h1'
  have hAs := z_Lrev hb1
  rw [List.reverse_reverse] at hAs
  have hts := hok.2.2.2.2.2.2.1
  have hy := hm.2.2.2.1
  exact z_run hok hat hlo hrest ht (vx_runV (C := q.1) (As := b1.reverse) ⟨hok.1, hok.2.1, rfl, hok.2.2.2.2.2.1, hok.2.2.2.2.2.2.1⟩ (hc R) ⟨z_CB hts hm hrk hl, hts _ hi, z_selP (hts _ hse.1) hse.2.1 (va_Nw.use rfl (hok.2.2.2.2.2.2.2.1.2.2.1 _ hse.2.2)) hy (hts _ hi)⟩ ⟨z_Pc_blind, z_recv hok hat hg hq, fun U hU hW9 => z_pre hok hat (av := .ref a :: as) (cav := .ref (R.1 a) :: b1.reverse) ⟨h1, hAs⟩ U hU hW9⟩ rfl (by rw [z_Ll hAs]; exact hn) hlo.choose_spec.1.1 (by rw [List.reverse_reverse]) (lv_room (by rw [z_Lcs hrest]; exact hW)) hd hcs) hcs hx kk
theorem j_callUd {y0 : z_M} {idx np rk' mc' ms' : Nat} {y' : z_M} {as rest : List Value} {Q' : Option Value → z_W → Prop} {X' : String → z_W → Prop} {x : MethodName} {a ci : Nat} {fs : List Value} {q : vw_C} (hd : decode y.2.1 pc = .ok (.invokevirtual idx, 3)) (hm : z_okm y' np) (hl : Cond.methodLink y.1.cls idx x ∈ z_tbl) (hsm : Cond.sameMethod x.cls x.cls x.name x.desc ∈ z_tbl) (h0 : y0.1 = x ∧ y0.2.2.2.2 = [] ∧ z_code y0 ∈ z_tbl ∧ Cond.instanceMethod y0.1 ∈ z_tbl) (hse : Cond.selects q.1 x y'.1 ∈ z_tbl) (hi : Cond.instanceMethod y'.1 ∈ z_tbl) (ho : x.cls ≠ "java/lang/invoke/MethodHandle" ∧ x.cls ≠ "java/lang/invoke/VarHandle") (hde : x.desc = y'.1.desc) (hg : z_g w a = some (.inr (ci, fs))) (hq : z_cls[ci]? = some q) (hc : z_Con G l y' rk' mc' ms' w (.ref a :: as) Q' X') (hrk : rk' + 1 ≤ S.1) (hcs : kc + mc' ≤ S.2.1 ∧ ks + ms' ≤ S.2.2.1) (hstk : st = as.reverse ++ .ref a :: rest) (hW : z_cat rest ≤ 8) (hn : as.length = np) (ht : y.2.2.2.2 = []) (hx : ∀ E w', X' E w' → S.2.2.2.2.2 E w') (kk : ∀ v w', Q' v w' → z_J G l y S (pc + 3) lo (v.toList ++ rest) w' (kc + mc') (ks + ms')) : z_J G l y S pc lo st w kc ks := by
  intro p e s m args below meth c R0 hok R H locs ls cst hat hlo hst
  subst hstk
  obtain ⟨b1, c2, rfl, hb1, hst⟩ := z_Lapp hst
  obtain ⟨c1, crest, rfl, h1, hrest⟩ := z_Lc hst
  have h1' := h1.2
  subst h1'
  have hAs := z_Lrev hb1
  rw [List.reverse_reverse] at hAs
  have hts := hok.2.2.2.2.2.2.1
  obtain ⟨m1, m2, m3, m4, m5, m6⟩ := hm
  have ecd := z_cd m1
  obtain ⟨z1, z2, z3, z4⟩ := h0
  have ec0 := z_cd z2
  have cw : va_CU (z_rm S.1 S.2.1 S.2.2.1) s args y.1.cls q.1 x.cls idx x y'.1 y'.2.1 y'.2.2.1 y'.2.2.2.1 (z_ws y') (z_rm rk' mc' ms') mc' ms' np := by
    refine ⟨⟨rfl, rfl, (z_rmle hrk m6).1, (z_rmle hrk m6).2, z_pay hts m2, by rw [← ecd]; exact List.mem_cons_self⟩, by rw [← ecd]; exact hts _ m2, hts _ m3, ho, ?_, hts _ hl, hts _ hsm, ?_, hts _ hse, hts _ hi⟩
    · rw [hde]; exact z_np m5
    · show va_Decl s x
      rw [← z1]; exact va_Decl.of (hts _ z4) (by rw [← ec0]; exact hts _ z3)
  exact z_run hok hat hlo hrest ht (vx_runU (C := q.1) (As := b1.reverse) ⟨hok.1, hok.2.1, rfl, hok.2.2.2.2.2.1, hok.2.2.2.2.2.2.1⟩ (hc R) cw ⟨z_Pc_blind, z_recv hok hat hg hq, fun U hU hW9 => z_pre hok hat (av := .ref a :: as) (cav := .ref (R.1 a) :: b1.reverse) ⟨h1, hAs⟩ U hU hW9⟩ rfl (by rw [z_Ll hAs]; exact hn) hlo.choose_spec.1.1 (by rw [List.reverse_reverse]) (lv_room (by rw [z_Lcs hrest]; exact hW)) hd hcs) hcs hx kk
theorem z_fB (x : Int32) : fits .byte (.int x.toInt8.toInt32) = true := by
  have h1 : (-128 : Int32) ≤ x.toInt8.toInt32 := by
    rw [Int32.le_iff_toInt_le, Int8.toInt_toInt32]
    have := Int8.le_toInt x.toInt8
    show (-128 : Int) ≤ _
    omega
  have h2 : x.toInt8.toInt32 ≤ (127 : Int32) := by
    rw [Int32.le_iff_toInt_le, Int8.toInt_toInt32]
    have := Int8.toInt_lt x.toInt8
    show _ ≤ (127 : Int)
    omega
  simp [fits, h1, h2]
theorem z_dcI {p : Nat} (h : 1 ≤ p) : nI p + Int32.ofInt (-1) = nI (p - 1) := z_decr1 h
theorem z_sble {q N : Nat} (hq : q < 2 ^ 30) (hN : N < 2 ^ 30) : nI q - nI N ≤ 0 ↔ q ≤ N := by
  rw [Int32.le_iff_toInt_le, pk_sub_toInt hq hN, Int32.toInt_zero]
  omega
theorem nI_mxle {k p : Nat} (h : k ≤ p) (hp : p < 2147483648) : (if nI k < nI p then nI p else nI k) = nI p := by
  by_cases e : k = p
  · subst e
    split <;> rfl
  · rw [if_pos (nI_lt (by omega) hp)]
theorem z_grT {N q : Nat} (h : q ≤ N) : z_gr N q = N := by unfold z_gr; rw [if_pos h]
theorem z_grF {N q : Nat} (h : ¬ q ≤ N) : z_gr N q = 2 * N + 2 := by unfold z_gr; rw [if_neg h]
set_option maxRecDepth 100000 in
set_option maxHeartbeats 8000000 in
theorem sb_lat (hl : l.stackTraces = false) (w : z_W) (a : Nat) (v0 : Value) (ml c : Int32) (ga : z_g w a = some (.inr (1, [v0, .int 0, .int ml, .int c]))) : z_Con G l mJ5_isLatin1_aae02 10 0 0 w [.ref a] (fun v w9 => v = some (.int 1) ∧ w9 = w) (fun _ _ => False) := by
  refine z_body hl (by decide) rfl (Nat.le_of_ble_eq_true rfl) ?_
  show z_J G l mJ5_isLatin1_aae02 _ 0 [(0, _)] [] _ 0 0
  refine j_gets dJ5_isLatin1_aae02_0 (List.mem_of_getElem? (i := 0) rfl) rfl (z_w 573 ((lwt_3_1 18).trans rfl) (by decide +kernel)) ?_
  refine j_if_eq (tgt := 17) dJ5_isLatin1_aae02_3 (by decide) (fun c_3_3 => ?_) (fun c_3_3 => ?_)
  · exact absurd c_3_3 (by decide)
  · refine j_aload_n dJ5_isLatin1_aae02_6 rfl rfl ?_
    refine j_getf dJ5_isLatin1_aae02_7 fJ5_22 ga rfl ?_
    refine j_if_ne (tgt := 17) dJ5_isLatin1_aae02_10 (by decide) (fun c_10_7 => ?_) (fun c_10_7 => ?_)
    · exact absurd rfl c_10_7
    · refine j_iconst (v := 1) dJ5_isLatin1_aae02_13 (by decide) ?_
      refine j_goto (tgt := 18) dJ5_isLatin1_aae02_14 (by decide) ?_
      refine j_iret dJ5_isLatin1_aae02_18 rfl rfl ?_ (Nat.le_of_ble_eq_true rfl) (Nat.le_of_ble_eq_true rfl)
      exact ⟨rfl, rfl⟩
set_option maxRecDepth 100000 in
set_option maxHeartbeats 8000000 in
theorem sb_can (hl : l.stackTraces = false) (w : z_W) (c : Int32) (hc : ¬ (255 : Int32) < c) : z_Con G l mJ1_canEncode_fc78d 10 0 0 w [.int c] (fun v w9 => v = some (.int 1) ∧ w9 = w) (fun _ _ => False) := by
  refine z_body hl (by decide) rfl (Nat.le_of_ble_eq_true rfl) ?_
  show z_J G l mJ1_canEncode_fc78d _ 0 [(0, _)] [] _ 0 0
  refine j_iload_n dJ1_canEncode_fc78d_0 rfl ?_
  refine j_sipush (v := 255) dJ1_canEncode_fc78d_1 (by decide) ?_
  refine j_icmp_gt (tgt := 11) dJ1_canEncode_fc78d_4 (by decide) (fun c_4_4 => ?_) (fun c_4_4 => ?_)
  · exact absurd c_4_4 hc
  · refine j_iconst (v := 1) dJ1_canEncode_fc78d_7 (by decide) ?_
    refine j_goto (tgt := 12) dJ1_canEncode_fc78d_8 (by decide) ?_
    refine j_iret dJ1_canEncode_fc78d_12 rfl rfl ?_ (Nat.le_of_ble_eq_true rfl) (Nat.le_of_ble_eq_true rfl)
    exact ⟨rfl, rfl⟩
set_option maxRecDepth 100000 in
set_option maxHeartbeats 8000000 in
theorem sb_newL (hl : l.stackTraces = false) (w : z_W) (N k p : Nat) (hk : k ≤ p) (hp : N + p ≤ 20000) (h0 : 0 < N + p) : z_Con G l mJ8_newLength_cabcc 11 0 0 w [.int (nI N), .int (nI k), .int (nI p)] (fun v w9 => v = some (.int (nI (N + p))) ∧ w9 = w) (fun _ _ => False) := by
  refine z_body hl (by decide) rfl (Nat.le_of_ble_eq_true rfl) ?_
  show z_J G l mJ8_newLength_cabcc _ 0 [(0, _), (1, _), (2, _)] [] _ 0 0
  refine j_iload_n dJ8_newLength_cabcc_0 rfl ?_
  refine j_iload_n dJ8_newLength_cabcc_1 rfl ?_
  refine j_iload_n dJ8_newLength_cabcc_2 rfl ?_
  refine j_mmax dJ8_newLength_cabcc_3 lJ8_194 (Nat.le_of_ble_eq_true rfl) (Nat.le_of_ble_eq_true rfl) (Nat.le_of_ble_eq_true rfl) (Nat.le_of_ble_eq_true rfl) ?_
  refine j_top (congrArg Value.int (nI_mxle hk (by omega))) ?_
  refine j_iadd dJ8_newLength_cabcc_6 ?_
  refine j_top (congrArg Value.int (nI_add N p)) ?_
  refine j_istore_n (lo' := [(3, _), (0, _), (1, _), (2, _)]) dJ8_newLength_cabcc_7 (by decide) rfl ?_
  refine j_iconst (v := 0) dJ8_newLength_cabcc_8 (by decide) ?_
  refine j_iload_n dJ8_newLength_cabcc_9 rfl ?_
  refine j_icmp_ge (tgt := 21) dJ8_newLength_cabcc_10 (by decide) (fun c_10_12 => ?_) (fun c_10_12 => ?_)
  · exact absurd ((nI_leI (a := N + p) (b := 0) (by omega) (by omega)).mp (nI_o0 ▸ c_10_12)) (by omega)
  · refine j_iload_n dJ8_newLength_cabcc_13 rfl ?_
    refine j_ldc dJ8_newLength_cabcc_14 kcJ8_200 ?_
    refine j_icmp_gt (tgt := 21) dJ8_newLength_cabcc_16 (by decide) (fun c_16_16 => ?_) (fun c_16_16 => ?_)
    · exact absurd c_16_16 (Int32.not_lt.mpr (Int32.le_trans ((nI_leI (a := N + p) (b := 20000) (by omega) (by omega)).mpr hp) (by decide)))
    · refine j_iload_n dJ8_newLength_cabcc_19 rfl ?_
      refine j_iret dJ8_newLength_cabcc_20 rfl rfl ?_ (Nat.le_of_ble_eq_true rfl) (Nat.le_of_ble_eq_true rfl)
      exact ⟨rfl, rfl⟩
set_option maxRecDepth 100000 in
set_option maxHeartbeats 8000000 in
theorem sb_newC (hl : l.stackTraces = false) (w : z_W) (ρ a n N q : Nat) (h : z_sb w ρ a n N) (hq : N < q) (hq2 : q ≤ 2 * N + 2) : z_Con G l mJ5_newCapacity_0f7a4 12 0 0 w [.ref a, .int (nI q)] (fun v w9 => v = some (.int (nI (2 * N + 2))) ∧ w9 = w) (fun _ _ => False) := by
  obtain ⟨h1, h2, h3, h4, h5, m, f, ml, a1, a2, a3, ga, gm, a6⟩ := id h
  refine z_body hl (by decide) rfl (Nat.le_of_ble_eq_true rfl) ?_
  show z_J G l mJ5_newCapacity_0f7a4 _ 0 [(0, _), (1, _)] [] _ 0 0
  refine j_aload_n dJ5_newCapacity_0f7a4_0 rfl rfl ?_
  refine j_getf dJ5_newCapacity_0f7a4_1 fJ5_15 ga rfl ?_
  refine j_alen dJ5_newCapacity_0f7a4_4 gm rfl rfl ?_
  refine j_istore_n (lo' := [(2, _), (0, _), (1, _)]) dJ5_newCapacity_0f7a4_5 (by decide) rfl ?_
  refine j_iload_n dJ5_newCapacity_0f7a4_6 rfl ?_
  refine j_aload_n dJ5_newCapacity_0f7a4_7 rfl rfl ?_
  refine j_getf dJ5_newCapacity_0f7a4_8 fJ5_22 ga rfl ?_
  refine j_ishl dJ5_newCapacity_0f7a4_11 ?_
  refine j_top (congrArg Value.int (sb_shl0 (nI q))) ?_
  refine j_istore_n (lo' := [(3, _), (2, _), (0, _), (1, _)]) dJ5_newCapacity_0f7a4_12 (by decide) rfl ?_
  refine j_iload_n dJ5_newCapacity_0f7a4_13 rfl ?_
  refine j_iload_n dJ5_newCapacity_0f7a4_14 rfl ?_
  refine j_isub dJ5_newCapacity_0f7a4_15 ?_
  refine j_top (congrArg Value.int (show nI q - nI N = nI (q - N) from pk_sub (by omega))) ?_
  refine j_istore (lo' := [(4, _), (3, _), (2, _), (0, _), (1, _)]) dJ5_newCapacity_0f7a4_16 (by decide) rfl ?_
  refine j_iload_n dJ5_newCapacity_0f7a4_18 rfl ?_
  refine j_iload dJ5_newCapacity_0f7a4_19 rfl ?_
  refine j_iload_n dJ5_newCapacity_0f7a4_21 rfl ?_
  refine j_iconst (v := 2) dJ5_newCapacity_0f7a4_22 (by decide) ?_
  refine j_aload_n dJ5_newCapacity_0f7a4_23 rfl rfl ?_
  refine j_getf dJ5_newCapacity_0f7a4_24 fJ5_22 ga rfl ?_
  refine j_ishl dJ5_newCapacity_0f7a4_27 ?_
  refine j_top (congrArg Value.int (sb_shl0 2)) ?_
  refine j_iadd dJ5_newCapacity_0f7a4_28 ?_
  refine j_top (congrArg Value.int (show nI N + (2 : Int32) = nI (N + 2) from nI_add N 2)) ?_
  refine j_callS dJ5_newCapacity_0f7a4_29 kJ8_newLength_cabcc lJ5_114 stJ8_newLength_cabcc (sb_newL hl w N (q - N) (N + 2) (by omega) (by omega) (by omega)) (Nat.le_of_ble_eq_true rfl) ⟨(Nat.le_of_ble_eq_true rfl), (Nat.le_of_ble_eq_true rfl)⟩ rfl (Nat.le_of_ble_eq_true rfl) rfl rfl (fun _ _ h => h.elim) ?_
  rintro _ _ ⟨rfl, hw1⟩
  refine j_w w hw1 ?_
  refine j_istore (lo' := [(5, _), (4, _), (3, _), (2, _), (0, _), (1, _)]) dJ5_newCapacity_0f7a4_32 (by decide) rfl ?_
  refine j_iload dJ5_newCapacity_0f7a4_34 rfl ?_
  refine j_ldc dJ5_newCapacity_0f7a4_36 kcJ5_39 ?_
  refine j_icmp_ne (tgt := 51) dJ5_newCapacity_0f7a4_38 (by decide) (fun c_38_33 => ?_) (fun c_38_33 => ?_)
  · refine j_iload dJ5_newCapacity_0f7a4_51 rfl ?_
    refine j_aload_n dJ5_newCapacity_0f7a4_53 rfl rfl ?_
    refine j_getf dJ5_newCapacity_0f7a4_54 fJ5_22 ga rfl ?_
    refine j_ishr dJ5_newCapacity_0f7a4_57 ?_
    refine j_top (congrArg Value.int (sb_shr0 _)) ?_
    refine j_iret dJ5_newCapacity_0f7a4_58 rfl rfl ?_ (Nat.le_of_ble_eq_true rfl) (Nat.le_of_ble_eq_true rfl)
    exact ⟨congrArg (fun z => some (Value.int (nI z))) (by omega), rfl⟩
  · exact absurd c_38_33 (z_nmx (by omega))
set_option maxRecDepth 100000 in
set_option maxHeartbeats 8000000 in
theorem sb_cpO (hl : l.stackTraces = false) (w : z_W) (ρ m N q : Nat) (f : Nat → Value) (hρ : ρ < 64) (hf : z_fn w) (gm : z_g w m = some (.inl (2, N, f))) (hby : z_by f) (hq : N < q) (hq2 : q ≤ 20000) : z_Con G l mJ7_copyOf_9075b 12 1 q w [.ref m, .int (nI q)] (fun v w9 => ∃ (m9 : Nat) (g : Nat → Value), v = some (.ref m9) ∧ z_fw ρ w w9 ∧ 1000 ≤ m9 ∧ m9 % 64 = ρ ∧ (∀ k e, z_g w k = some e → k ≠ m9) ∧ z_g w9 m9 = some (.inl (2, q, g)) ∧ (∀ k e, z_g w k = some e → z_g w9 k = some e) ∧ z_by g) (fun _ _ => False) := by
  refine z_body hl (by decide) rfl (Nat.le_of_ble_eq_true rfl) ?_
  show z_J G l mJ7_copyOf_9075b _ 0 [(0, _), (1, _)] [] _ 0 0
  refine j_iload_n dJ7_copyOf_9075b_0 rfl ?_
  refine j_aload_n dJ7_copyOf_9075b_1 rfl rfl ?_
  refine j_alen dJ7_copyOf_9075b_2 gm rfl rfl ?_
  refine j_icmp_ne (tgt := 14) dJ7_copyOf_9075b_3 (by decide) (fun c_3_5 => ?_) (fun c_3_5 => ?_)
  · refine j_iload_n dJ7_copyOf_9075b_14 rfl ?_
    obtain ⟨x1, hx1a, hx1b, hx1c⟩ := z_fresh (ρ) hρ hf
    have n_m_x1 := z_neF hx1c gm
    refine j_newa (kd := 2) (N := q) (w' := _) (n := x1) dJ7_copyOf_9075b_15 rfl rfl arc_byte ⟨rfl, fun _ _ h => h⟩ (nI_pos (by omega)) (z_cla (by omega)) (by show q * 1 ≤ _; omega) rfl (z_alW hx1c hx1a) (Nat.le_of_ble_eq_true rfl) (by show _ ≤ q; omega) ?_
    refine j_seal hx1a ?_
    intro w1 u1
    have g1_m := (u1.2.1 _ n_m_x1).trans gm
    have g1_x1 := u1.1
    have hf1 := u1.2.2.2 hf
    refine j_astore_n (lo' := [(2, _), (0, _), (1, _)]) dJ7_copyOf_9075b_17 rfl (by decide) rfl ?_
    refine j_aload_n dJ7_copyOf_9075b_18 rfl rfl ?_
    refine j_iconst (v := 0) dJ7_copyOf_9075b_19 (by decide) ?_
    refine j_aload_n dJ7_copyOf_9075b_20 rfl rfl ?_
    refine j_iconst (v := 0) dJ7_copyOf_9075b_21 (by decide) ?_
    refine j_aload_n dJ7_copyOf_9075b_22 rfl rfl ?_
    refine j_alen dJ7_copyOf_9075b_23 g1_m rfl rfl ?_
    refine j_iload_n dJ7_copyOf_9075b_24 rfl ?_
    refine j_mmin dJ7_copyOf_9075b_25 lJ7_304 (Nat.le_of_ble_eq_true rfl) (Nat.le_of_ble_eq_true rfl) (Nat.le_of_ble_eq_true rfl) (by show _ ≤ q; omega) ?_
    refine j_top (congrArg Value.int (nI_mn (a := N) (b := q) (by omega) (by omega))) ?_
    refine j_acopy (w' := _) dJ7_copyOf_9075b_28 lJ7_150 ac_n ac_s ac_i g1_m g1_x1 rfl (by decide) (by decide) (nI_pos (by omega)) (by rw [z_cla (by omega)]; show 0 + _ ≤ N; omega) (by rw [z_cla (by omega)]; show 0 + _ ≤ q; omega) (fun i _ => Or.inl (hby _)) (Nat.le_of_ble_eq_true rfl) (Nat.le_of_ble_eq_true rfl) rfl ?_
    refine j_seal hx1a ?_
    intro w2 u2
    have g2_m := (u2.2.1 _ n_m_x1).trans g1_m
    have g2_x1 := u2.1
    have hf2 := u2.2.2.2 hf1
    refine j_aload_n dJ7_copyOf_9075b_31 rfl rfl ?_
    refine j_aret dJ7_copyOf_9075b_32 rfl (Or.inr ⟨_, rfl⟩) rfl ?_ (Nat.le_of_ble_eq_true rfl) (by show _ ≤ q; omega)
    exact ⟨x1, _, rfl, ((u1.fw hx1a hx1b).tr (u2.fw hx1a hx1b)), hx1a, hx1b, fun k e hk => z_neF hx1c hk, g2_x1, fun k e hk => (u2.2.1 k (z_neF hx1c hk)).trans ((u1.2.1 k (z_neF hx1c hk)).trans hk), z_byC (fun j _ _ => hby j) z_by0⟩
  · exact absurd (nI_inj c_3_5 (by omega) (by omega)) (by omega)
set_option maxRecDepth 100000 in
set_option maxHeartbeats 8000000 in
theorem sb_ens (hl : l.stackTraces = false) (w : z_W) (ρ a n N q : Nat) (h : z_sb w ρ a n N) (hq : q ≤ 2 * N + 2) (hN : z_gr N q ≤ 5000) (hρ : ρ < 64) (hf : z_fn w) : z_Con G l mJ5_ensureCapacityInternal_d00df 14 (z_gr N q / 16 - N / 16) (2 * (z_gr N q - N)) w [.ref a, .int (nI q)] (fun v w9 => v = none ∧ z_fw ρ w w9 ∧ z_sb w9 ρ a n (z_gr N q)) (fun _ _ => False) := by
  obtain ⟨h1, h2, h3, h4, h5, m, f, ml, a1, a2, a3, ga, gm, a6⟩ := id h
  refine z_body hl (by decide) rfl (Nat.le_of_ble_eq_true rfl) ?_
  show z_J G l mJ5_ensureCapacityInternal_d00df _ 0 [(0, _), (1, _)] [] _ 0 0
  refine j_aload_n dJ5_ensureCapacityInternal_d00df_0 rfl rfl ?_
  refine j_getf dJ5_ensureCapacityInternal_d00df_1 fJ5_15 ga rfl ?_
  refine j_alen dJ5_ensureCapacityInternal_d00df_4 gm rfl rfl ?_
  refine j_aload_n dJ5_ensureCapacityInternal_d00df_5 rfl rfl ?_
  refine j_getf dJ5_ensureCapacityInternal_d00df_6 fJ5_22 ga rfl ?_
  refine j_ishr dJ5_ensureCapacityInternal_d00df_9 ?_
  refine j_top (congrArg Value.int (sb_shr0 (nI N))) ?_
  refine j_istore_n (lo' := [(2, _), (0, _), (1, _)]) dJ5_ensureCapacityInternal_d00df_10 (by decide) rfl ?_
  refine j_iload_n dJ5_ensureCapacityInternal_d00df_11 rfl ?_
  refine j_iload_n dJ5_ensureCapacityInternal_d00df_12 rfl ?_
  refine j_isub dJ5_ensureCapacityInternal_d00df_13 ?_
  refine j_if_le (tgt := 38) dJ5_ensureCapacityInternal_d00df_14 (by decide) (fun c_14_13 => ?_) (fun c_14_13 => ?_)
  · have hgr := z_grT ((z_sble (q := q) (N := N) (by omega) (by omega)).mp c_14_13)
    refine j_vret dJ5_ensureCapacityInternal_d00df_38 rfl ?_ (by show _ ≤ z_gr N q / 16 - N / 16; omega) (by show _ ≤ 2 * (z_gr N q - N); omega)
    rw [hgr]
    exact ⟨rfl, z_fw.rf, h⟩
  · have hqN : ¬ q ≤ N := fun z => c_14_13 ((z_sble (q := q) (N := N) (by omega) (by omega)).mpr z)
    have hgr := z_grF hqN
    refine j_aload_n dJ5_ensureCapacityInternal_d00df_17 rfl rfl ?_
    refine j_aload_n dJ5_ensureCapacityInternal_d00df_18 rfl rfl ?_
    refine j_getf dJ5_ensureCapacityInternal_d00df_19 fJ5_15 ga rfl ?_
    refine j_aload_n dJ5_ensureCapacityInternal_d00df_22 rfl rfl ?_
    refine j_iload_n dJ5_ensureCapacityInternal_d00df_23 rfl ?_
    refine j_callP (x := yJ5_isLatin1_aae02) (q := (RJ4, TJ4, 4)) dJ5_ensureCapacityInternal_d00df_24 kJ5_newCapacity_0f7a4 lJ5_104 inJ5_newCapacity_0f7a4 ⟨(z_w 640 ((lwt_3_3 25).trans rfl) (by decide +kernel)), rfl, (z_wn 607 ((lwt_3_2 22).trans rfl) (by decide +kernel))⟩ ga rfl (sb_newC hl w ρ a n N q h (by omega) hq) (Nat.le_of_ble_eq_true rfl) ⟨(by show _ ≤ z_gr N q / 16 - N / 16; omega), (by show _ ≤ 2 * (z_gr N q - N); omega)⟩ rfl (Nat.le_of_ble_eq_true rfl) rfl rfl (fun _ _ h => h.elim) ?_
    rintro _ _ ⟨rfl, hw2⟩
    refine j_w w hw2 ?_
    refine j_aload_n dJ5_ensureCapacityInternal_d00df_27 rfl rfl ?_
    refine j_getf dJ5_ensureCapacityInternal_d00df_28 fJ5_22 ga rfl ?_
    refine j_ishl dJ5_ensureCapacityInternal_d00df_31 ?_
    refine j_top (congrArg Value.int (sb_shl0 _)) ?_
    refine j_callS dJ5_ensureCapacityInternal_d00df_32 kJ7_copyOf_9075b lJ5_108 stJ7_copyOf_9075b (sb_cpO hl w ρ m N (2 * N + 2) f hρ hf gm a6 (by omega) (by omega)) (Nat.le_of_ble_eq_true rfl) ⟨(by show _ ≤ z_gr N q / 16 - N / 16; omega), (by show _ ≤ 2 * (z_gr N q - N); omega)⟩ rfl (Nat.le_of_ble_eq_true rfl) rfl rfl (fun _ _ h => h.elim) ?_
    rintro _ w1 ⟨m9, g9, rfl, fw1, c1, c2, c3, c4, c5, c6⟩
    have hf1 := fw1.2.1 hf
    have g1_a := c5 a _ ga
    refine j_put (w' := _) dJ5_ensureCapacityInternal_d00df_35 fJ5_15 tJ4_0 g1_a (Or.inr ⟨_, rfl⟩) rfl ?_
    refine j_seal h1 ?_
    intro w2 u2
    have g2_m2 := (u2.2.1 _ (Ne.symm (c3 a _ ga))).trans c4
    have g2_a := u2.1
    have hf2 := u2.2.2.2 hf1
    refine j_vret dJ5_ensureCapacityInternal_d00df_38 rfl ?_ (by show _ ≤ z_gr N q / 16 - N / 16; omega) (by show _ ≤ 2 * (z_gr N q - N); omega)
    rw [hgr]
    exact ⟨rfl, (fw1.tr (u2.fw h1 h2)), h1, h2, by omega, by omega, by omega, m9, _, ml, c1, c2, (Ne.symm (c3 a _ ga)), g2_a, g2_m2, c6⟩
set_option maxRecDepth 100000 in
set_option maxHeartbeats 8000000 in
theorem sb_ini0 (hl : l.stackTraces = false) (w : z_W) (ρ a : Nat) (h1 : 1000 ≤ a) (h2 : a % 64 = ρ) (hρ : ρ < 64) (hf : z_fn w) (ga : z_g w a = some (.inr (1, [.null, .int 0, .int 0, .int 0]))) : z_Con G l mJ5_init_d00df 12 1 16 w [.ref a, .int 16] (fun v w9 => v = none ∧ z_fw ρ w w9 ∧ z_sb w9 ρ a 0 16) (fun _ _ => False) := by
  refine z_body hl (by decide) rfl (Nat.le_of_ble_eq_true rfl) ?_
  show z_J G l mJ5_init_d00df _ 0 [(0, _), (1, _)] [] _ 0 0
  refine j_aload_n dJ5_init_d00df_0 rfl rfl ?_
  refine j_objI dJ5_init_d00df_1 oJ5_3 z_oi1 z_oi2 (Nat.le_of_ble_eq_true rfl) (Nat.le_of_ble_eq_true rfl) ?_
  refine j_gets dJ5_init_d00df_4 (List.mem_of_getElem? (i := 0) rfl) rfl (z_w 573 ((lwt_3_1 18).trans rfl) (by decide +kernel)) ?_
  refine j_if_eq (tgt := 25) dJ5_init_d00df_7 (by decide) (fun c_7_5 => ?_) (fun c_7_5 => ?_)
  · exact absurd c_7_5 (by decide)
  · refine j_aload_n dJ5_init_d00df_10 rfl rfl ?_
    refine j_iload_n dJ5_init_d00df_11 rfl ?_
    obtain ⟨x1, hx1a, hx1b, hx1c⟩ := z_fresh (ρ) hρ hf
    have n_a_x1 := z_neF hx1c ga
    refine j_newa (kd := 2) (N := 16) (w' := _) (n := x1) dJ5_init_d00df_12 rfl rfl arc_byte ⟨rfl, fun _ _ h => h⟩ (by decide) rfl (by decide) rfl (z_alW hx1c hx1a) (Nat.le_of_ble_eq_true rfl) (Nat.le_of_ble_eq_true rfl) ?_
    refine j_seal hx1a ?_
    intro w1 u1
    have g1_a := (u1.2.1 _ n_a_x1).trans ga
    have g1_x1 := u1.1
    have hf1 := u1.2.2.2 hf
    refine j_put (w' := _) dJ5_init_d00df_14 fJ5_15 tJ4_0 g1_a (Or.inr ⟨_, rfl⟩) rfl ?_
    refine j_seal h1 ?_
    intro w2 u2
    have g2_x1 := (u2.2.1 _ (Ne.symm n_a_x1)).trans g1_x1
    have g2_a := u2.1
    have hf2 := u2.2.2.2 hf1
    refine j_aload_n dJ5_init_d00df_17 rfl rfl ?_
    refine j_iconst (v := 0) dJ5_init_d00df_18 (by decide) ?_
    refine j_put (w' := _) dJ5_init_d00df_19 fJ5_22 tJ4_1 g2_a ⟨rfl, rfl⟩ rfl ?_
    refine j_seal h1 ?_
    intro w3 u3
    have g3_x1 := (u3.2.1 _ (Ne.symm n_a_x1)).trans g2_x1
    have g3_a := u3.1
    have hf3 := u3.2.2.2 hf2
    refine j_goto (tgt := 38) dJ5_init_d00df_22 (by decide) ?_
    refine j_vret dJ5_init_d00df_38 rfl ?_ (Nat.le_of_ble_eq_true rfl) (Nat.le_of_ble_eq_true rfl)
    exact ⟨rfl, (((u1.fw hx1a hx1b).tr (u2.fw h1 h2)).tr (u3.fw h1 h2)), h1, h2, by omega, by omega, by omega, x1, _, 0, hx1a, hx1b, Ne.symm n_a_x1, g3_a, g3_x1, z_by0⟩
set_option maxRecDepth 100000 in
set_option maxHeartbeats 8000000 in
theorem sb_ini (hl : l.stackTraces = false) (w : z_W) (ρ a : Nat) (h1 : 1000 ≤ a) (h2 : a % 64 = ρ) (hρ : ρ < 64) (hf : z_fn w) (ga : z_g w a = some (.inr (1, [.null, .int 0, .int 0, .int 0]))) : z_Con G l mJ4_init_da8c8 13 1 16 w [.ref a] (fun v w9 => v = none ∧ z_fw ρ w w9 ∧ z_sb w9 ρ a 0 16) (fun _ _ => False) := by
  refine z_body hl (by decide) rfl (Nat.le_of_ble_eq_true rfl) ?_
  show z_J G l mJ4_init_da8c8 _ 0 [(0, _)] [] _ 0 0
  refine j_aload_n dJ4_init_da8c8_0 rfl rfl ?_
  refine j_bipush (v := 16) dJ4_init_da8c8_1 (by decide) ?_
  refine j_callI dJ4_init_da8c8_3 kJ5_init_d00df rfl lJ4_1 inJ5_init_d00df rfl (sb_ini0 hl w ρ a h1 h2 hρ hf ga) (Nat.le_of_ble_eq_true rfl) ⟨(Nat.le_of_ble_eq_true rfl), (Nat.le_of_ble_eq_true rfl)⟩ rfl (Nat.le_of_ble_eq_true rfl) rfl rfl (fun _ _ h => h.elim) ?_
  rintro _ w1 ⟨rfl, fw1, hs1⟩
  have hf1 := fw1.2.1 hf
  refine j_vret dJ4_init_da8c8_6 rfl ?_ (Nat.le_of_ble_eq_true rfl) (Nat.le_of_ble_eq_true rfl)
  exact ⟨rfl, fw1, hs1⟩
set_option maxRecDepth 100000 in
set_option maxHeartbeats 8000000 in
theorem sb_apC0 (hl : l.stackTraces = false) (w : z_W) (ρ a n N : Nat) (c : Int32) (h : z_sb w ρ a n N) (hq : n + 1 ≤ 2 * N + 2) (hN : z_gr N (n + 1) ≤ 5000) (hρ : ρ < 64) (hf : z_fn w) (hc : ¬ (255 : Int32) < c) : z_Con G l mJ5_append_3fe6f 15 (z_gr N (n + 1) / 16 - N / 16) (2 * (z_gr N (n + 1) - N)) w [.ref a, .int c] (fun v w9 => v = some (.ref a) ∧ z_fw ρ w w9 ∧ z_sb w9 ρ a (n + 1) (z_gr N (n + 1))) (fun _ _ => False) := by
  obtain ⟨h1, h2, h3, h4, h5, m, f, ml, a1, a2, a3, ga, gm, a6⟩ := id h
  have hge := z_gr_ge hq
  have hle := z_gr_le (N := N) (m := n + 1)
  refine z_body hl (by decide) rfl (Nat.le_of_ble_eq_true rfl) ?_
  show z_J G l mJ5_append_3fe6f _ 0 [(0, _), (1, _)] [] _ 0 0
  refine j_aload_n dJ5_append_3fe6f_0 rfl rfl ?_
  refine j_aload_n dJ5_append_3fe6f_1 rfl rfl ?_
  refine j_getf dJ5_append_3fe6f_2 fJ5_79 ga rfl ?_
  refine j_iconst (v := 1) dJ5_append_3fe6f_5 (by decide) ?_
  refine j_iadd dJ5_append_3fe6f_6 ?_
  refine j_top (congrArg Value.int (nI_1 n)) ?_
  refine j_callP (x := yJ5_isLatin1_aae02) (q := (RJ4, TJ4, 4)) dJ5_append_3fe6f_7 kJ5_ensureCapacityInternal_d00df lJ5_100 inJ5_ensureCapacityInternal_d00df ⟨(z_w 640 ((lwt_3_3 25).trans rfl) (by decide +kernel)), rfl, (z_wn 603 ((lwt_3_2 18).trans rfl) (by decide +kernel))⟩ ga rfl (sb_ens hl w ρ a n N (n + 1) h (by omega) (by omega) hρ hf) (Nat.le_of_ble_eq_true rfl) ⟨(by show _ ≤ z_gr N (n + 1) / 16 - N / 16; omega), (by show _ ≤ 2 * (z_gr N (n + 1) - N); omega)⟩ rfl (Nat.le_of_ble_eq_true rfl) rfl rfl (fun _ _ h => h.elim) ?_
  rintro _ w1 ⟨rfl, fw1, hs1⟩
  have hf1 := fw1.2.1 hf
  obtain ⟨-, -, h3_1, h4_1, h5_1, m_1, f_1, ml_1, a1_1, a2_1, a3_1, ga_1, gm_1, a6_1⟩ := id hs1
  refine j_aload_n dJ5_append_3fe6f_10 rfl rfl ?_
  refine j_callU (q := (RJ4, TJ4, 4)) dJ5_append_3fe6f_11 kJ5_isLatin1_aae02 cuJ5_83_J4 ga_1 rfl (sb_lat hl w1 _ _ _ _ ga_1) (Nat.le_of_ble_eq_true rfl) ⟨(by show _ ≤ z_gr N (n + 1) / 16 - N / 16; omega), (by show _ ≤ 2 * (z_gr N (n + 1) - N); omega)⟩ rfl (Nat.le_of_ble_eq_true rfl) rfl rfl (fun _ _ h => h.elim) ?_
  rintro _ _ ⟨rfl, hw3⟩
  refine j_w w1 hw3 ?_
  refine j_if_eq (tgt := 45) dJ5_append_3fe6f_14 (by decide) (fun c_14_16 => ?_) (fun c_14_16 => ?_)
  · exact absurd c_14_16 (by decide)
  · refine j_iload_n dJ5_append_3fe6f_17 rfl ?_
    refine j_callS dJ5_append_3fe6f_18 kJ1_canEncode_fc78d lJ5_191 stJ1_canEncode_fc78d (sb_can hl w1 c hc) (Nat.le_of_ble_eq_true rfl) ⟨(by show _ ≤ z_gr N (n + 1) / 16 - N / 16; omega), (by show _ ≤ 2 * (z_gr N (n + 1) - N); omega)⟩ rfl (Nat.le_of_ble_eq_true rfl) rfl rfl (fun _ _ h => h.elim) ?_
    rintro _ _ ⟨rfl, hw4⟩
    refine j_w w1 hw4 ?_
    refine j_if_eq (tgt := 45) dJ5_append_3fe6f_21 (by decide) (fun c_21_22 => ?_) (fun c_21_22 => ?_)
    · exact absurd c_21_22 (by decide)
    · refine j_aload_n dJ5_append_3fe6f_24 rfl rfl ?_
      refine j_getf dJ5_append_3fe6f_25 fJ5_15 ga_1 rfl ?_
      refine j_aload_n dJ5_append_3fe6f_28 rfl rfl ?_
      refine j_dup dJ5_append_3fe6f_29 rfl ?_
      refine j_getf dJ5_append_3fe6f_30 fJ5_79 ga_1 rfl ?_
      refine j_dup_x1 dJ5_append_3fe6f_33 rfl rfl ?_
      refine j_iconst (v := 1) dJ5_append_3fe6f_34 (by decide) ?_
      refine j_iadd dJ5_append_3fe6f_35 ?_
      refine j_top (congrArg Value.int (nI_1 n)) ?_
      refine j_put (w' := _) dJ5_append_3fe6f_36 fJ5_79 tJ4_3 ga_1 ⟨rfl, rfl⟩ rfl ?_
      refine j_seal h1 ?_
      intro w2 u2
      have g2_m := (u2.2.1 _ a3_1).trans gm_1
      have g2_a := u2.1
      have hf2 := u2.2.2.2 hf1
      refine j_iload_n dJ5_append_3fe6f_39 rfl ?_
      refine j_i2b dJ5_append_3fe6f_40 ?_
      refine j_bastW (w' := _) dJ5_append_3fe6f_41 g2_m (vp_in_nI (by omega) (by omega)) rfl ?_
      refine j_seal a1_1 ?_
      intro w3 u3
      have g3_a := (u3.2.1 _ (Ne.symm a3_1)).trans g2_a
      have g3_m := u3.1
      have hf3 := u3.2.2.2 hf2
      refine j_goto (tgt := 75) dJ5_append_3fe6f_42 (by decide) ?_
      refine j_aload_n dJ5_append_3fe6f_75 rfl rfl ?_
      refine j_aret dJ5_append_3fe6f_76 rfl (Or.inl ⟨_, rfl⟩) rfl ?_ (by show _ ≤ z_gr N (n + 1) / 16 - N / 16; omega) (by show _ ≤ 2 * (z_gr N (n + 1) - N); omega)
      exact ⟨rfl, ((fw1.tr (u2.fw h1 h2)).tr (u3.fw a1_1 a2_1)), h1, h2, hge, by omega, hN, m_1, _, ml_1, a1_1, a2_1, a3_1, g3_a, g3_m, z_byU a6_1 (z_fB _)⟩
set_option maxRecDepth 100000 in
set_option maxHeartbeats 8000000 in
theorem sb_apC (hl : l.stackTraces = false) (w : z_W) (ρ a n N : Nat) (c : Int32) (h : z_sb w ρ a n N) (hq : n + 1 ≤ 2 * N + 2) (hN : z_gr N (n + 1) ≤ 5000) (hρ : ρ < 64) (hf : z_fn w) (hc : ¬ (255 : Int32) < c) : z_Con G l mJ4_append_cf468 16 (z_gr N (n + 1) / 16 - N / 16) (2 * (z_gr N (n + 1) - N)) w [.ref a, .int c] (fun v w9 => v = some (.ref a) ∧ z_fw ρ w w9 ∧ z_sb w9 ρ a (n + 1) (z_gr N (n + 1))) (fun _ _ => False) := by
  obtain ⟨h1, h2, h3, h4, h5, m, f, ml, a1, a2, a3, ga, gm, a6⟩ := id h
  refine z_body hl (by decide) rfl (Nat.le_of_ble_eq_true rfl) ?_
  show z_J G l mJ4_append_cf468 _ 0 [(0, _), (1, _)] [] _ 0 0
  refine j_aload_n dJ4_append_cf468_0 rfl rfl ?_
  refine j_iload_n dJ4_append_cf468_1 rfl ?_
  refine j_callSu (q := (RJ4, TJ4, 4)) dJ4_append_cf468_2 kJ5_append_3fe6f ⟨lJ4_50, (z_w 1974 ((lwg_9 9).trans rfl) (by decide +kernel)), (z_w 594 ((lwt_3_2 9).trans rfl) (by decide +kernel)), inJ5_append_3fe6f, (by decide)⟩ ga rfl (sb_apC0 hl w ρ a n N c h hq hN hρ hf hc) (Nat.le_of_ble_eq_true rfl) ⟨(by show _ ≤ z_gr N (n + 1) / 16 - N / 16; omega), (by show _ ≤ 2 * (z_gr N (n + 1) - N); omega)⟩ rfl (Nat.le_of_ble_eq_true rfl) rfl rfl (fun _ _ h => h.elim) ?_
  rintro _ w1 ⟨rfl, fw1, hs1⟩
  have hf1 := fw1.2.1 hf
  refine j_pop dJ4_append_cf468_5 rfl ?_
  refine j_aload_n dJ4_append_cf468_6 rfl rfl ?_
  refine j_aret dJ4_append_cf468_7 rfl (Or.inl ⟨_, rfl⟩) rfl ?_ (by show _ ≤ z_gr N (n + 1) / 16 - N / 16; omega) (by show _ ≤ 2 * (z_gr N (n + 1) - N); omega)
  exact ⟨rfl, fw1, hs1⟩
set_option maxRecDepth 100000 in
set_option maxHeartbeats 8000000 in
theorem sb_len0 (hl : l.stackTraces = false) (w : z_W) (ρ a n N : Nat) (h : z_sb w ρ a n N) : z_Con G l mJ5_length_8abf5 10 0 0 w [.ref a] (fun v w9 => v = some (.int (nI n)) ∧ w9 = w) (fun _ _ => False) := by
  obtain ⟨h1, h2, h3, h4, h5, m, f, ml, a1, a2, a3, ga, gm, a6⟩ := id h
  refine z_body hl (by decide) rfl (Nat.le_of_ble_eq_true rfl) ?_
  show z_J G l mJ5_length_8abf5 _ 0 [(0, _)] [] _ 0 0
  refine j_aload_n dJ5_length_8abf5_0 rfl rfl ?_
  refine j_getf dJ5_length_8abf5_1 fJ5_79 ga rfl ?_
  refine j_iret dJ5_length_8abf5_4 rfl rfl ?_ (Nat.le_of_ble_eq_true rfl) (Nat.le_of_ble_eq_true rfl)
  exact ⟨rfl, rfl⟩
set_option maxRecDepth 100000 in
set_option maxHeartbeats 8000000 in
theorem sb_len (hl : l.stackTraces = false) (w : z_W) (ρ a n N : Nat) (h : z_sb w ρ a n N) : z_Con G l mJ4_length_8abf5 11 0 0 w [.ref a] (fun v w9 => v = some (.int (nI n)) ∧ w9 = w) (fun _ _ => False) := by
  obtain ⟨h1, h2, h3, h4, h5, m, f, ml, a1, a2, a3, ga, gm, a6⟩ := id h
  refine z_body hl (by decide) rfl (Nat.le_of_ble_eq_true rfl) ?_
  show z_J G l mJ4_length_8abf5 _ 0 [(0, _)] [] _ 0 0
  refine j_aload_n dJ4_length_8abf5_0 rfl rfl ?_
  refine j_callSu (q := (RJ4, TJ4, 4)) dJ4_length_8abf5_1 kJ5_length_8abf5 ⟨lJ4_343, (z_w 744 ((lwt_3_7 9).trans rfl) (by decide +kernel)), (z_w 594 ((lwt_3_2 9).trans rfl) (by decide +kernel)), inJ5_length_8abf5, (by decide)⟩ ga rfl (sb_len0 hl w ρ a n N h) (Nat.le_of_ble_eq_true rfl) ⟨(Nat.le_of_ble_eq_true rfl), (Nat.le_of_ble_eq_true rfl)⟩ rfl (Nat.le_of_ble_eq_true rfl) rfl rfl (fun _ _ h => h.elim) ?_
  rintro _ _ ⟨rfl, hw5⟩
  refine j_w w hw5 ?_
  refine j_iret dJ4_length_8abf5_4 rfl rfl ?_ (Nat.le_of_ble_eq_true rfl) (Nat.le_of_ble_eq_true rfl)
  exact ⟨rfl, rfl⟩
end ZSb1
end ZM23
section ZM24
section ZSb2
variable {G : z_G} {l : Launch}
set_option maxRecDepth 100000 in
set_option maxHeartbeats 8000000 in
theorem sb_size (hl : l.stackTraces = false) (w : z_W) (x : Int32)  : z_Con G l mJ6_stringSize_0f7a4 10 0 0 w [.int x] (fun v w9 => v = some (.int (nI (z_sz x))) ∧ w9 = w) (fun _ _ => False) := by
  refine z_body hl (by decide) rfl (Nat.le_of_ble_eq_true rfl) ?_
  show z_J G l mJ6_stringSize_0f7a4 _ 0 [(0, _)] [] _ 0 0
  refine j_iconst (v := 1) dJ6_stringSize_0f7a4_0 (by decide) ?_
  refine j_istore_n (lo' := [(1, _), (0, _)]) dJ6_stringSize_0f7a4_1 (by decide) rfl ?_
  refine j_iload_n dJ6_stringSize_0f7a4_2 rfl ?_
  refine j_if_lt (tgt := 11) dJ6_stringSize_0f7a4_3 (by decide) (fun c_3_5 => ?_) (fun c_3_5 => ?_)
  · have hx : x < 0 := c_3_5
    have hi : (x).toInt = -(x.toInt.natAbs : Int) := z_poI hx
    refine j_bipush (v := (-10)) dJ6_stringSize_0f7a4_11 (by decide) ?_
    refine j_istore_n (lo' := [(2, _), (1, _), (0, _)]) dJ6_stringSize_0f7a4_13 (by decide) rfl ?_
    refine j_iconst (v := 1) dJ6_stringSize_0f7a4_14 (by decide) ?_
    refine j_istore_n (lo' := [(3, _), (2, _), (1, _), (0, _)]) dJ6_stringSize_0f7a4_15 (by decide) rfl ?_
    refine j_iload_n dJ6_stringSize_0f7a4_16 rfl ?_
    refine j_bipush (v := 10) dJ6_stringSize_0f7a4_17 (by decide) ?_
    refine j_icmp_ge (tgt := 42) dJ6_stringSize_0f7a4_19 (by decide) (fun c_19_14 => ?_) (fun c_19_14 => ?_)
    · exact absurd c_19_14 (by decide)
    · refine j_iload_n dJ6_stringSize_0f7a4_22 rfl ?_
      refine j_iload_n dJ6_stringSize_0f7a4_23 rfl ?_
      refine j_icmp_le (tgt := 31) dJ6_stringSize_0f7a4_24 (by decide) (fun c_24_18 => ?_) (fun c_24_18 => ?_)
      · have hl1 : 10 ≤ x.toInt.natAbs := by have := z_leI c_24_18 hi (show (-10 : Int32).toInt = -10 by decide); omega
        refine j_bipush (v := 10) dJ6_stringSize_0f7a4_31 (by decide) ?_
        refine j_iload_n dJ6_stringSize_0f7a4_33 rfl ?_
        refine j_imul dJ6_stringSize_0f7a4_34 ?_
        refine j_top (congrArg Value.int (show (10 : Int32) * (-10) = (-100) by decide)) ?_
        refine j_istore_n (lo' := [(2, _), (3, _), (1, _), (0, _)]) dJ6_stringSize_0f7a4_35 (by decide) rfl ?_
        refine j_iinc (v := 2) (lo' := [(3, _), (2, _), (1, _), (0, _)]) dJ6_stringSize_0f7a4_36 rfl (by decide) (by decide) rfl ?_
        refine j_goto (tgt := 16) dJ6_stringSize_0f7a4_39 (by decide) ?_
        refine j_iload_n dJ6_stringSize_0f7a4_16 rfl ?_
        refine j_bipush (v := 10) dJ6_stringSize_0f7a4_17 (by decide) ?_
        refine j_icmp_ge (tgt := 42) dJ6_stringSize_0f7a4_19 (by decide) (fun c_19_29 => ?_) (fun c_19_29 => ?_)
        · exact absurd c_19_29 (by decide)
        · refine j_iload_n dJ6_stringSize_0f7a4_22 rfl ?_
          refine j_iload_n dJ6_stringSize_0f7a4_23 rfl ?_
          refine j_icmp_le (tgt := 31) dJ6_stringSize_0f7a4_24 (by decide) (fun c_24_33 => ?_) (fun c_24_33 => ?_)
          · have hl2 : 100 ≤ x.toInt.natAbs := by have := z_leI c_24_33 hi (show (-100 : Int32).toInt = -100 by decide); omega
            refine j_bipush (v := 10) dJ6_stringSize_0f7a4_31 (by decide) ?_
            refine j_iload_n dJ6_stringSize_0f7a4_33 rfl ?_
            refine j_imul dJ6_stringSize_0f7a4_34 ?_
            refine j_top (congrArg Value.int (show (10 : Int32) * (-100) = (-1000) by decide)) ?_
            refine j_istore_n (lo' := [(2, _), (3, _), (1, _), (0, _)]) dJ6_stringSize_0f7a4_35 (by decide) rfl ?_
            refine j_iinc (v := 3) (lo' := [(3, _), (2, _), (1, _), (0, _)]) dJ6_stringSize_0f7a4_36 rfl (by decide) (by decide) rfl ?_
            refine j_goto (tgt := 16) dJ6_stringSize_0f7a4_39 (by decide) ?_
            refine j_iload_n dJ6_stringSize_0f7a4_16 rfl ?_
            refine j_bipush (v := 10) dJ6_stringSize_0f7a4_17 (by decide) ?_
            refine j_icmp_ge (tgt := 42) dJ6_stringSize_0f7a4_19 (by decide) (fun c_19_44 => ?_) (fun c_19_44 => ?_)
            · exact absurd c_19_44 (by decide)
            · refine j_iload_n dJ6_stringSize_0f7a4_22 rfl ?_
              refine j_iload_n dJ6_stringSize_0f7a4_23 rfl ?_
              refine j_icmp_le (tgt := 31) dJ6_stringSize_0f7a4_24 (by decide) (fun c_24_48 => ?_) (fun c_24_48 => ?_)
              · have hl3 : 1000 ≤ x.toInt.natAbs := by have := z_leI c_24_48 hi (show (-1000 : Int32).toInt = -1000 by decide); omega
                refine j_bipush (v := 10) dJ6_stringSize_0f7a4_31 (by decide) ?_
                refine j_iload_n dJ6_stringSize_0f7a4_33 rfl ?_
                refine j_imul dJ6_stringSize_0f7a4_34 ?_
                refine j_top (congrArg Value.int (show (10 : Int32) * (-1000) = (-10000) by decide)) ?_
                refine j_istore_n (lo' := [(2, _), (3, _), (1, _), (0, _)]) dJ6_stringSize_0f7a4_35 (by decide) rfl ?_
                refine j_iinc (v := 4) (lo' := [(3, _), (2, _), (1, _), (0, _)]) dJ6_stringSize_0f7a4_36 rfl (by decide) (by decide) rfl ?_
                refine j_goto (tgt := 16) dJ6_stringSize_0f7a4_39 (by decide) ?_
                refine j_iload_n dJ6_stringSize_0f7a4_16 rfl ?_
                refine j_bipush (v := 10) dJ6_stringSize_0f7a4_17 (by decide) ?_
                refine j_icmp_ge (tgt := 42) dJ6_stringSize_0f7a4_19 (by decide) (fun c_19_59 => ?_) (fun c_19_59 => ?_)
                · exact absurd c_19_59 (by decide)
                · refine j_iload_n dJ6_stringSize_0f7a4_22 rfl ?_
                  refine j_iload_n dJ6_stringSize_0f7a4_23 rfl ?_
                  refine j_icmp_le (tgt := 31) dJ6_stringSize_0f7a4_24 (by decide) (fun c_24_63 => ?_) (fun c_24_63 => ?_)
                  · have hl4 : 10000 ≤ x.toInt.natAbs := by have := z_leI c_24_63 hi (show (-10000 : Int32).toInt = -10000 by decide); omega
                    refine j_bipush (v := 10) dJ6_stringSize_0f7a4_31 (by decide) ?_
                    refine j_iload_n dJ6_stringSize_0f7a4_33 rfl ?_
                    refine j_imul dJ6_stringSize_0f7a4_34 ?_
                    refine j_top (congrArg Value.int (show (10 : Int32) * (-10000) = (-100000) by decide)) ?_
                    refine j_istore_n (lo' := [(2, _), (3, _), (1, _), (0, _)]) dJ6_stringSize_0f7a4_35 (by decide) rfl ?_
                    refine j_iinc (v := 5) (lo' := [(3, _), (2, _), (1, _), (0, _)]) dJ6_stringSize_0f7a4_36 rfl (by decide) (by decide) rfl ?_
                    refine j_goto (tgt := 16) dJ6_stringSize_0f7a4_39 (by decide) ?_
                    refine j_iload_n dJ6_stringSize_0f7a4_16 rfl ?_
                    refine j_bipush (v := 10) dJ6_stringSize_0f7a4_17 (by decide) ?_
                    refine j_icmp_ge (tgt := 42) dJ6_stringSize_0f7a4_19 (by decide) (fun c_19_74 => ?_) (fun c_19_74 => ?_)
                    · exact absurd c_19_74 (by decide)
                    · refine j_iload_n dJ6_stringSize_0f7a4_22 rfl ?_
                      refine j_iload_n dJ6_stringSize_0f7a4_23 rfl ?_
                      refine j_icmp_le (tgt := 31) dJ6_stringSize_0f7a4_24 (by decide) (fun c_24_78 => ?_) (fun c_24_78 => ?_)
                      · have hl5 : 100000 ≤ x.toInt.natAbs := by have := z_leI c_24_78 hi (show (-100000 : Int32).toInt = -100000 by decide); omega
                        refine j_bipush (v := 10) dJ6_stringSize_0f7a4_31 (by decide) ?_
                        refine j_iload_n dJ6_stringSize_0f7a4_33 rfl ?_
                        refine j_imul dJ6_stringSize_0f7a4_34 ?_
                        refine j_top (congrArg Value.int (show (10 : Int32) * (-100000) = (-1000000) by decide)) ?_
                        refine j_istore_n (lo' := [(2, _), (3, _), (1, _), (0, _)]) dJ6_stringSize_0f7a4_35 (by decide) rfl ?_
                        refine j_iinc (v := 6) (lo' := [(3, _), (2, _), (1, _), (0, _)]) dJ6_stringSize_0f7a4_36 rfl (by decide) (by decide) rfl ?_
                        refine j_goto (tgt := 16) dJ6_stringSize_0f7a4_39 (by decide) ?_
                        refine j_iload_n dJ6_stringSize_0f7a4_16 rfl ?_
                        refine j_bipush (v := 10) dJ6_stringSize_0f7a4_17 (by decide) ?_
                        refine j_icmp_ge (tgt := 42) dJ6_stringSize_0f7a4_19 (by decide) (fun c_19_89 => ?_) (fun c_19_89 => ?_)
                        · exact absurd c_19_89 (by decide)
                        · refine j_iload_n dJ6_stringSize_0f7a4_22 rfl ?_
                          refine j_iload_n dJ6_stringSize_0f7a4_23 rfl ?_
                          refine j_icmp_le (tgt := 31) dJ6_stringSize_0f7a4_24 (by decide) (fun c_24_93 => ?_) (fun c_24_93 => ?_)
                          · have hl6 : 1000000 ≤ x.toInt.natAbs := by have := z_leI c_24_93 hi (show (-1000000 : Int32).toInt = -1000000 by decide); omega
                            refine j_bipush (v := 10) dJ6_stringSize_0f7a4_31 (by decide) ?_
                            refine j_iload_n dJ6_stringSize_0f7a4_33 rfl ?_
                            refine j_imul dJ6_stringSize_0f7a4_34 ?_
                            refine j_top (congrArg Value.int (show (10 : Int32) * (-1000000) = (-10000000) by decide)) ?_
                            refine j_istore_n (lo' := [(2, _), (3, _), (1, _), (0, _)]) dJ6_stringSize_0f7a4_35 (by decide) rfl ?_
                            refine j_iinc (v := 7) (lo' := [(3, _), (2, _), (1, _), (0, _)]) dJ6_stringSize_0f7a4_36 rfl (by decide) (by decide) rfl ?_
                            refine j_goto (tgt := 16) dJ6_stringSize_0f7a4_39 (by decide) ?_
                            refine j_iload_n dJ6_stringSize_0f7a4_16 rfl ?_
                            refine j_bipush (v := 10) dJ6_stringSize_0f7a4_17 (by decide) ?_
                            refine j_icmp_ge (tgt := 42) dJ6_stringSize_0f7a4_19 (by decide) (fun c_19_104 => ?_) (fun c_19_104 => ?_)
                            · exact absurd c_19_104 (by decide)
                            · refine j_iload_n dJ6_stringSize_0f7a4_22 rfl ?_
                              refine j_iload_n dJ6_stringSize_0f7a4_23 rfl ?_
                              refine j_icmp_le (tgt := 31) dJ6_stringSize_0f7a4_24 (by decide) (fun c_24_108 => ?_) (fun c_24_108 => ?_)
                              · have hl7 : 10000000 ≤ x.toInt.natAbs := by have := z_leI c_24_108 hi (show (-10000000 : Int32).toInt = -10000000 by decide); omega
                                refine j_bipush (v := 10) dJ6_stringSize_0f7a4_31 (by decide) ?_
                                refine j_iload_n dJ6_stringSize_0f7a4_33 rfl ?_
                                refine j_imul dJ6_stringSize_0f7a4_34 ?_
                                refine j_top (congrArg Value.int (show (10 : Int32) * (-10000000) = (-100000000) by decide)) ?_
                                refine j_istore_n (lo' := [(2, _), (3, _), (1, _), (0, _)]) dJ6_stringSize_0f7a4_35 (by decide) rfl ?_
                                refine j_iinc (v := 8) (lo' := [(3, _), (2, _), (1, _), (0, _)]) dJ6_stringSize_0f7a4_36 rfl (by decide) (by decide) rfl ?_
                                refine j_goto (tgt := 16) dJ6_stringSize_0f7a4_39 (by decide) ?_
                                refine j_iload_n dJ6_stringSize_0f7a4_16 rfl ?_
                                refine j_bipush (v := 10) dJ6_stringSize_0f7a4_17 (by decide) ?_
                                refine j_icmp_ge (tgt := 42) dJ6_stringSize_0f7a4_19 (by decide) (fun c_19_119 => ?_) (fun c_19_119 => ?_)
                                · exact absurd c_19_119 (by decide)
                                · refine j_iload_n dJ6_stringSize_0f7a4_22 rfl ?_
                                  refine j_iload_n dJ6_stringSize_0f7a4_23 rfl ?_
                                  refine j_icmp_le (tgt := 31) dJ6_stringSize_0f7a4_24 (by decide) (fun c_24_123 => ?_) (fun c_24_123 => ?_)
                                  · have hl8 : 100000000 ≤ x.toInt.natAbs := by have := z_leI c_24_123 hi (show (-100000000 : Int32).toInt = -100000000 by decide); omega
                                    refine j_bipush (v := 10) dJ6_stringSize_0f7a4_31 (by decide) ?_
                                    refine j_iload_n dJ6_stringSize_0f7a4_33 rfl ?_
                                    refine j_imul dJ6_stringSize_0f7a4_34 ?_
                                    refine j_top (congrArg Value.int (show (10 : Int32) * (-100000000) = (-1000000000) by decide)) ?_
                                    refine j_istore_n (lo' := [(2, _), (3, _), (1, _), (0, _)]) dJ6_stringSize_0f7a4_35 (by decide) rfl ?_
                                    refine j_iinc (v := 9) (lo' := [(3, _), (2, _), (1, _), (0, _)]) dJ6_stringSize_0f7a4_36 rfl (by decide) (by decide) rfl ?_
                                    refine j_goto (tgt := 16) dJ6_stringSize_0f7a4_39 (by decide) ?_
                                    refine j_iload_n dJ6_stringSize_0f7a4_16 rfl ?_
                                    refine j_bipush (v := 10) dJ6_stringSize_0f7a4_17 (by decide) ?_
                                    refine j_icmp_ge (tgt := 42) dJ6_stringSize_0f7a4_19 (by decide) (fun c_19_134 => ?_) (fun c_19_134 => ?_)
                                    · exact absurd c_19_134 (by decide)
                                    · refine j_iload_n dJ6_stringSize_0f7a4_22 rfl ?_
                                      refine j_iload_n dJ6_stringSize_0f7a4_23 rfl ?_
                                      refine j_icmp_le (tgt := 31) dJ6_stringSize_0f7a4_24 (by decide) (fun c_24_138 => ?_) (fun c_24_138 => ?_)
                                      · have hl9 : 1000000000 ≤ x.toInt.natAbs := by have := z_leI c_24_138 hi (show (-1000000000 : Int32).toInt = -1000000000 by decide); omega
                                        refine j_bipush (v := 10) dJ6_stringSize_0f7a4_31 (by decide) ?_
                                        refine j_iload_n dJ6_stringSize_0f7a4_33 rfl ?_
                                        refine j_imul dJ6_stringSize_0f7a4_34 ?_
                                        refine j_top (congrArg Value.int (show (10 : Int32) * (-1000000000) = (-1410065408) by decide)) ?_
                                        refine j_istore_n (lo' := [(2, _), (3, _), (1, _), (0, _)]) dJ6_stringSize_0f7a4_35 (by decide) rfl ?_
                                        refine j_iinc (v := 10) (lo' := [(3, _), (2, _), (1, _), (0, _)]) dJ6_stringSize_0f7a4_36 rfl (by decide) (by decide) rfl ?_
                                        refine j_goto (tgt := 16) dJ6_stringSize_0f7a4_39 (by decide) ?_
                                        refine j_iload_n dJ6_stringSize_0f7a4_16 rfl ?_
                                        refine j_bipush (v := 10) dJ6_stringSize_0f7a4_17 (by decide) ?_
                                        refine j_icmp_ge (tgt := 42) dJ6_stringSize_0f7a4_19 (by decide) (fun c_19_149 => ?_) (fun c_19_149 => ?_)
                                        · refine j_bipush (v := 10) dJ6_stringSize_0f7a4_42 (by decide) ?_
                                          refine j_iload_n dJ6_stringSize_0f7a4_44 rfl ?_
                                          refine j_iadd dJ6_stringSize_0f7a4_45 ?_
                                          refine j_iret dJ6_stringSize_0f7a4_46 rfl rfl ?_ (Nat.le_of_ble_eq_true rfl) (Nat.le_of_ble_eq_true rfl)
                                          have hd : z_dg x.toInt.natAbs = 10 := by unfold z_dg; rw [if_neg (show ¬ x.toInt.natAbs < 10 by omega), if_neg (show ¬ x.toInt.natAbs < 100 by omega), if_neg (show ¬ x.toInt.natAbs < 1000 by omega), if_neg (show ¬ x.toInt.natAbs < 10000 by omega), if_neg (show ¬ x.toInt.natAbs < 100000 by omega), if_neg (show ¬ x.toInt.natAbs < 1000000 by omega), if_neg (show ¬ x.toInt.natAbs < 10000000 by omega), if_neg (show ¬ x.toInt.natAbs < 100000000 by omega), if_neg (show ¬ x.toInt.natAbs < 1000000000 by omega)]
                                          have hz : z_sz x = 11 := by unfold z_sz; rw [if_pos hx, hd]
                                          rw [hz]
                                          exact ⟨rfl, rfl⟩
                                        · exact absurd (by decide) c_19_149
                                      · have hu : x.toInt.natAbs < 1000000000 := by have := z_nleI c_24_138 hi (show (-1000000000 : Int32).toInt = -1000000000 by decide); omega
                                        refine j_iload_n dJ6_stringSize_0f7a4_27 rfl ?_
                                        refine j_iload_n dJ6_stringSize_0f7a4_28 rfl ?_
                                        refine j_iadd dJ6_stringSize_0f7a4_29 ?_
                                        refine j_iret dJ6_stringSize_0f7a4_30 rfl rfl ?_ (Nat.le_of_ble_eq_true rfl) (Nat.le_of_ble_eq_true rfl)
                                        have hd : z_dg x.toInt.natAbs = 9 := z_dgL (k := 9) ⟨Or.inr hl8, hu⟩ (by omega)
                                        have hz : z_sz x = 10 := by unfold z_sz; rw [if_pos hx, hd]
                                        rw [hz]
                                        exact ⟨rfl, rfl⟩
                                  · have hu : x.toInt.natAbs < 100000000 := by have := z_nleI c_24_123 hi (show (-100000000 : Int32).toInt = -100000000 by decide); omega
                                    refine j_iload_n dJ6_stringSize_0f7a4_27 rfl ?_
                                    refine j_iload_n dJ6_stringSize_0f7a4_28 rfl ?_
                                    refine j_iadd dJ6_stringSize_0f7a4_29 ?_
                                    refine j_iret dJ6_stringSize_0f7a4_30 rfl rfl ?_ (Nat.le_of_ble_eq_true rfl) (Nat.le_of_ble_eq_true rfl)
                                    have hd : z_dg x.toInt.natAbs = 8 := z_dgL (k := 8) ⟨Or.inr hl7, hu⟩ (by omega)
                                    have hz : z_sz x = 9 := by unfold z_sz; rw [if_pos hx, hd]
                                    rw [hz]
                                    exact ⟨rfl, rfl⟩
                              · have hu : x.toInt.natAbs < 10000000 := by have := z_nleI c_24_108 hi (show (-10000000 : Int32).toInt = -10000000 by decide); omega
                                refine j_iload_n dJ6_stringSize_0f7a4_27 rfl ?_
                                refine j_iload_n dJ6_stringSize_0f7a4_28 rfl ?_
                                refine j_iadd dJ6_stringSize_0f7a4_29 ?_
                                refine j_iret dJ6_stringSize_0f7a4_30 rfl rfl ?_ (Nat.le_of_ble_eq_true rfl) (Nat.le_of_ble_eq_true rfl)
                                have hd : z_dg x.toInt.natAbs = 7 := z_dgL (k := 7) ⟨Or.inr hl6, hu⟩ (by omega)
                                have hz : z_sz x = 8 := by unfold z_sz; rw [if_pos hx, hd]
                                rw [hz]
                                exact ⟨rfl, rfl⟩
                          · have hu : x.toInt.natAbs < 1000000 := by have := z_nleI c_24_93 hi (show (-1000000 : Int32).toInt = -1000000 by decide); omega
                            refine j_iload_n dJ6_stringSize_0f7a4_27 rfl ?_
                            refine j_iload_n dJ6_stringSize_0f7a4_28 rfl ?_
                            refine j_iadd dJ6_stringSize_0f7a4_29 ?_
                            refine j_iret dJ6_stringSize_0f7a4_30 rfl rfl ?_ (Nat.le_of_ble_eq_true rfl) (Nat.le_of_ble_eq_true rfl)
                            have hd : z_dg x.toInt.natAbs = 6 := z_dgL (k := 6) ⟨Or.inr hl5, hu⟩ (by omega)
                            have hz : z_sz x = 7 := by unfold z_sz; rw [if_pos hx, hd]
                            rw [hz]
                            exact ⟨rfl, rfl⟩
                      · have hu : x.toInt.natAbs < 100000 := by have := z_nleI c_24_78 hi (show (-100000 : Int32).toInt = -100000 by decide); omega
                        refine j_iload_n dJ6_stringSize_0f7a4_27 rfl ?_
                        refine j_iload_n dJ6_stringSize_0f7a4_28 rfl ?_
                        refine j_iadd dJ6_stringSize_0f7a4_29 ?_
                        refine j_iret dJ6_stringSize_0f7a4_30 rfl rfl ?_ (Nat.le_of_ble_eq_true rfl) (Nat.le_of_ble_eq_true rfl)
                        have hd : z_dg x.toInt.natAbs = 5 := z_dgL (k := 5) ⟨Or.inr hl4, hu⟩ (by omega)
                        have hz : z_sz x = 6 := by unfold z_sz; rw [if_pos hx, hd]
                        rw [hz]
                        exact ⟨rfl, rfl⟩
                  · have hu : x.toInt.natAbs < 10000 := by have := z_nleI c_24_63 hi (show (-10000 : Int32).toInt = -10000 by decide); omega
                    refine j_iload_n dJ6_stringSize_0f7a4_27 rfl ?_
                    refine j_iload_n dJ6_stringSize_0f7a4_28 rfl ?_
                    refine j_iadd dJ6_stringSize_0f7a4_29 ?_
                    refine j_iret dJ6_stringSize_0f7a4_30 rfl rfl ?_ (Nat.le_of_ble_eq_true rfl) (Nat.le_of_ble_eq_true rfl)
                    have hd : z_dg x.toInt.natAbs = 4 := z_dgL (k := 4) ⟨Or.inr hl3, hu⟩ (by omega)
                    have hz : z_sz x = 5 := by unfold z_sz; rw [if_pos hx, hd]
                    rw [hz]
                    exact ⟨rfl, rfl⟩
              · have hu : x.toInt.natAbs < 1000 := by have := z_nleI c_24_48 hi (show (-1000 : Int32).toInt = -1000 by decide); omega
                refine j_iload_n dJ6_stringSize_0f7a4_27 rfl ?_
                refine j_iload_n dJ6_stringSize_0f7a4_28 rfl ?_
                refine j_iadd dJ6_stringSize_0f7a4_29 ?_
                refine j_iret dJ6_stringSize_0f7a4_30 rfl rfl ?_ (Nat.le_of_ble_eq_true rfl) (Nat.le_of_ble_eq_true rfl)
                have hd : z_dg x.toInt.natAbs = 3 := z_dgL (k := 3) ⟨Or.inr hl2, hu⟩ (by omega)
                have hz : z_sz x = 4 := by unfold z_sz; rw [if_pos hx, hd]
                rw [hz]
                exact ⟨rfl, rfl⟩
          · have hu : x.toInt.natAbs < 100 := by have := z_nleI c_24_33 hi (show (-100 : Int32).toInt = -100 by decide); omega
            refine j_iload_n dJ6_stringSize_0f7a4_27 rfl ?_
            refine j_iload_n dJ6_stringSize_0f7a4_28 rfl ?_
            refine j_iadd dJ6_stringSize_0f7a4_29 ?_
            refine j_iret dJ6_stringSize_0f7a4_30 rfl rfl ?_ (Nat.le_of_ble_eq_true rfl) (Nat.le_of_ble_eq_true rfl)
            have hd : z_dg x.toInt.natAbs = 2 := z_dgL (k := 2) ⟨Or.inr hl1, hu⟩ (by omega)
            have hz : z_sz x = 3 := by unfold z_sz; rw [if_pos hx, hd]
            rw [hz]
            exact ⟨rfl, rfl⟩
      · have hu : x.toInt.natAbs < 10 := by have := z_nleI c_24_18 hi (show (-10 : Int32).toInt = -10 by decide); omega
        refine j_iload_n dJ6_stringSize_0f7a4_27 rfl ?_
        refine j_iload_n dJ6_stringSize_0f7a4_28 rfl ?_
        refine j_iadd dJ6_stringSize_0f7a4_29 ?_
        refine j_iret dJ6_stringSize_0f7a4_30 rfl rfl ?_ (Nat.le_of_ble_eq_true rfl) (Nat.le_of_ble_eq_true rfl)
        have hd : z_dg x.toInt.natAbs = 1 := z_dgL (k := 1) ⟨Or.inl rfl, hu⟩ (by omega)
        have hz : z_sz x = 2 := by unfold z_sz; rw [if_pos hx, hd]
        rw [hz]
        exact ⟨rfl, rfl⟩
  · have hx : ¬ x < 0 := c_3_5
    have hi : (-x).toInt = -(x.toInt.natAbs : Int) := z_ngI hx
    refine j_iconst (v := 0) dJ6_stringSize_0f7a4_6 (by decide) ?_
    refine j_istore_n (lo' := [(1, _), (0, _)]) dJ6_stringSize_0f7a4_7 (by decide) rfl ?_
    refine j_iload_n dJ6_stringSize_0f7a4_8 rfl ?_
    refine j_ineg dJ6_stringSize_0f7a4_9 ?_
    refine j_istore_n (lo' := [(0, _), (1, _)]) dJ6_stringSize_0f7a4_10 (by decide) rfl ?_
    refine j_bipush (v := (-10)) dJ6_stringSize_0f7a4_11 (by decide) ?_
    refine j_istore_n (lo' := [(2, _), (0, _), (1, _)]) dJ6_stringSize_0f7a4_13 (by decide) rfl ?_
    refine j_iconst (v := 1) dJ6_stringSize_0f7a4_14 (by decide) ?_
    refine j_istore_n (lo' := [(3, _), (2, _), (0, _), (1, _)]) dJ6_stringSize_0f7a4_15 (by decide) rfl ?_
    refine j_iload_n dJ6_stringSize_0f7a4_16 rfl ?_
    refine j_bipush (v := 10) dJ6_stringSize_0f7a4_17 (by decide) ?_
    refine j_icmp_ge (tgt := 42) dJ6_stringSize_0f7a4_19 (by decide) (fun c_19_253 => ?_) (fun c_19_253 => ?_)
    · exact absurd c_19_253 (by decide)
    · refine j_iload_n dJ6_stringSize_0f7a4_22 rfl ?_
      refine j_iload_n dJ6_stringSize_0f7a4_23 rfl ?_
      refine j_icmp_le (tgt := 31) dJ6_stringSize_0f7a4_24 (by decide) (fun c_24_257 => ?_) (fun c_24_257 => ?_)
      · have hl1 : 10 ≤ x.toInt.natAbs := by have := z_leI c_24_257 hi (show (-10 : Int32).toInt = -10 by decide); omega
        refine j_bipush (v := 10) dJ6_stringSize_0f7a4_31 (by decide) ?_
        refine j_iload_n dJ6_stringSize_0f7a4_33 rfl ?_
        refine j_imul dJ6_stringSize_0f7a4_34 ?_
        refine j_top (congrArg Value.int (show (10 : Int32) * (-10) = (-100) by decide)) ?_
        refine j_istore_n (lo' := [(2, _), (3, _), (0, _), (1, _)]) dJ6_stringSize_0f7a4_35 (by decide) rfl ?_
        refine j_iinc (v := 2) (lo' := [(3, _), (2, _), (0, _), (1, _)]) dJ6_stringSize_0f7a4_36 rfl (by decide) (by decide) rfl ?_
        refine j_goto (tgt := 16) dJ6_stringSize_0f7a4_39 (by decide) ?_
        refine j_iload_n dJ6_stringSize_0f7a4_16 rfl ?_
        refine j_bipush (v := 10) dJ6_stringSize_0f7a4_17 (by decide) ?_
        refine j_icmp_ge (tgt := 42) dJ6_stringSize_0f7a4_19 (by decide) (fun c_19_268 => ?_) (fun c_19_268 => ?_)
        · exact absurd c_19_268 (by decide)
        · refine j_iload_n dJ6_stringSize_0f7a4_22 rfl ?_
          refine j_iload_n dJ6_stringSize_0f7a4_23 rfl ?_
          refine j_icmp_le (tgt := 31) dJ6_stringSize_0f7a4_24 (by decide) (fun c_24_272 => ?_) (fun c_24_272 => ?_)
          · have hl2 : 100 ≤ x.toInt.natAbs := by have := z_leI c_24_272 hi (show (-100 : Int32).toInt = -100 by decide); omega
            refine j_bipush (v := 10) dJ6_stringSize_0f7a4_31 (by decide) ?_
            refine j_iload_n dJ6_stringSize_0f7a4_33 rfl ?_
            refine j_imul dJ6_stringSize_0f7a4_34 ?_
            refine j_top (congrArg Value.int (show (10 : Int32) * (-100) = (-1000) by decide)) ?_
            refine j_istore_n (lo' := [(2, _), (3, _), (0, _), (1, _)]) dJ6_stringSize_0f7a4_35 (by decide) rfl ?_
            refine j_iinc (v := 3) (lo' := [(3, _), (2, _), (0, _), (1, _)]) dJ6_stringSize_0f7a4_36 rfl (by decide) (by decide) rfl ?_
            refine j_goto (tgt := 16) dJ6_stringSize_0f7a4_39 (by decide) ?_
            refine j_iload_n dJ6_stringSize_0f7a4_16 rfl ?_
            refine j_bipush (v := 10) dJ6_stringSize_0f7a4_17 (by decide) ?_
            refine j_icmp_ge (tgt := 42) dJ6_stringSize_0f7a4_19 (by decide) (fun c_19_283 => ?_) (fun c_19_283 => ?_)
            · exact absurd c_19_283 (by decide)
            · refine j_iload_n dJ6_stringSize_0f7a4_22 rfl ?_
              refine j_iload_n dJ6_stringSize_0f7a4_23 rfl ?_
              refine j_icmp_le (tgt := 31) dJ6_stringSize_0f7a4_24 (by decide) (fun c_24_287 => ?_) (fun c_24_287 => ?_)
              · have hl3 : 1000 ≤ x.toInt.natAbs := by have := z_leI c_24_287 hi (show (-1000 : Int32).toInt = -1000 by decide); omega
                refine j_bipush (v := 10) dJ6_stringSize_0f7a4_31 (by decide) ?_
                refine j_iload_n dJ6_stringSize_0f7a4_33 rfl ?_
                refine j_imul dJ6_stringSize_0f7a4_34 ?_
                refine j_top (congrArg Value.int (show (10 : Int32) * (-1000) = (-10000) by decide)) ?_
                refine j_istore_n (lo' := [(2, _), (3, _), (0, _), (1, _)]) dJ6_stringSize_0f7a4_35 (by decide) rfl ?_
                refine j_iinc (v := 4) (lo' := [(3, _), (2, _), (0, _), (1, _)]) dJ6_stringSize_0f7a4_36 rfl (by decide) (by decide) rfl ?_
                refine j_goto (tgt := 16) dJ6_stringSize_0f7a4_39 (by decide) ?_
                refine j_iload_n dJ6_stringSize_0f7a4_16 rfl ?_
                refine j_bipush (v := 10) dJ6_stringSize_0f7a4_17 (by decide) ?_
                refine j_icmp_ge (tgt := 42) dJ6_stringSize_0f7a4_19 (by decide) (fun c_19_298 => ?_) (fun c_19_298 => ?_)
                · exact absurd c_19_298 (by decide)
                · refine j_iload_n dJ6_stringSize_0f7a4_22 rfl ?_
                  refine j_iload_n dJ6_stringSize_0f7a4_23 rfl ?_
                  refine j_icmp_le (tgt := 31) dJ6_stringSize_0f7a4_24 (by decide) (fun c_24_302 => ?_) (fun c_24_302 => ?_)
                  · have hl4 : 10000 ≤ x.toInt.natAbs := by have := z_leI c_24_302 hi (show (-10000 : Int32).toInt = -10000 by decide); omega
                    refine j_bipush (v := 10) dJ6_stringSize_0f7a4_31 (by decide) ?_
                    refine j_iload_n dJ6_stringSize_0f7a4_33 rfl ?_
                    refine j_imul dJ6_stringSize_0f7a4_34 ?_
                    refine j_top (congrArg Value.int (show (10 : Int32) * (-10000) = (-100000) by decide)) ?_
                    refine j_istore_n (lo' := [(2, _), (3, _), (0, _), (1, _)]) dJ6_stringSize_0f7a4_35 (by decide) rfl ?_
                    refine j_iinc (v := 5) (lo' := [(3, _), (2, _), (0, _), (1, _)]) dJ6_stringSize_0f7a4_36 rfl (by decide) (by decide) rfl ?_
                    refine j_goto (tgt := 16) dJ6_stringSize_0f7a4_39 (by decide) ?_
                    refine j_iload_n dJ6_stringSize_0f7a4_16 rfl ?_
                    refine j_bipush (v := 10) dJ6_stringSize_0f7a4_17 (by decide) ?_
                    refine j_icmp_ge (tgt := 42) dJ6_stringSize_0f7a4_19 (by decide) (fun c_19_313 => ?_) (fun c_19_313 => ?_)
                    · exact absurd c_19_313 (by decide)
                    · refine j_iload_n dJ6_stringSize_0f7a4_22 rfl ?_
                      refine j_iload_n dJ6_stringSize_0f7a4_23 rfl ?_
                      refine j_icmp_le (tgt := 31) dJ6_stringSize_0f7a4_24 (by decide) (fun c_24_317 => ?_) (fun c_24_317 => ?_)
                      · have hl5 : 100000 ≤ x.toInt.natAbs := by have := z_leI c_24_317 hi (show (-100000 : Int32).toInt = -100000 by decide); omega
                        refine j_bipush (v := 10) dJ6_stringSize_0f7a4_31 (by decide) ?_
                        refine j_iload_n dJ6_stringSize_0f7a4_33 rfl ?_
                        refine j_imul dJ6_stringSize_0f7a4_34 ?_
                        refine j_top (congrArg Value.int (show (10 : Int32) * (-100000) = (-1000000) by decide)) ?_
                        refine j_istore_n (lo' := [(2, _), (3, _), (0, _), (1, _)]) dJ6_stringSize_0f7a4_35 (by decide) rfl ?_
                        refine j_iinc (v := 6) (lo' := [(3, _), (2, _), (0, _), (1, _)]) dJ6_stringSize_0f7a4_36 rfl (by decide) (by decide) rfl ?_
                        refine j_goto (tgt := 16) dJ6_stringSize_0f7a4_39 (by decide) ?_
                        refine j_iload_n dJ6_stringSize_0f7a4_16 rfl ?_
                        refine j_bipush (v := 10) dJ6_stringSize_0f7a4_17 (by decide) ?_
                        refine j_icmp_ge (tgt := 42) dJ6_stringSize_0f7a4_19 (by decide) (fun c_19_328 => ?_) (fun c_19_328 => ?_)
                        · exact absurd c_19_328 (by decide)
                        · refine j_iload_n dJ6_stringSize_0f7a4_22 rfl ?_
                          refine j_iload_n dJ6_stringSize_0f7a4_23 rfl ?_
                          refine j_icmp_le (tgt := 31) dJ6_stringSize_0f7a4_24 (by decide) (fun c_24_332 => ?_) (fun c_24_332 => ?_)
                          · have hl6 : 1000000 ≤ x.toInt.natAbs := by have := z_leI c_24_332 hi (show (-1000000 : Int32).toInt = -1000000 by decide); omega
                            refine j_bipush (v := 10) dJ6_stringSize_0f7a4_31 (by decide) ?_
                            refine j_iload_n dJ6_stringSize_0f7a4_33 rfl ?_
                            refine j_imul dJ6_stringSize_0f7a4_34 ?_
                            refine j_top (congrArg Value.int (show (10 : Int32) * (-1000000) = (-10000000) by decide)) ?_
                            refine j_istore_n (lo' := [(2, _), (3, _), (0, _), (1, _)]) dJ6_stringSize_0f7a4_35 (by decide) rfl ?_
                            refine j_iinc (v := 7) (lo' := [(3, _), (2, _), (0, _), (1, _)]) dJ6_stringSize_0f7a4_36 rfl (by decide) (by decide) rfl ?_
                            refine j_goto (tgt := 16) dJ6_stringSize_0f7a4_39 (by decide) ?_
                            refine j_iload_n dJ6_stringSize_0f7a4_16 rfl ?_
                            refine j_bipush (v := 10) dJ6_stringSize_0f7a4_17 (by decide) ?_
                            refine j_icmp_ge (tgt := 42) dJ6_stringSize_0f7a4_19 (by decide) (fun c_19_343 => ?_) (fun c_19_343 => ?_)
                            · exact absurd c_19_343 (by decide)
                            · refine j_iload_n dJ6_stringSize_0f7a4_22 rfl ?_
                              refine j_iload_n dJ6_stringSize_0f7a4_23 rfl ?_
                              refine j_icmp_le (tgt := 31) dJ6_stringSize_0f7a4_24 (by decide) (fun c_24_347 => ?_) (fun c_24_347 => ?_)
                              · have hl7 : 10000000 ≤ x.toInt.natAbs := by have := z_leI c_24_347 hi (show (-10000000 : Int32).toInt = -10000000 by decide); omega
                                refine j_bipush (v := 10) dJ6_stringSize_0f7a4_31 (by decide) ?_
                                refine j_iload_n dJ6_stringSize_0f7a4_33 rfl ?_
                                refine j_imul dJ6_stringSize_0f7a4_34 ?_
                                refine j_top (congrArg Value.int (show (10 : Int32) * (-10000000) = (-100000000) by decide)) ?_
                                refine j_istore_n (lo' := [(2, _), (3, _), (0, _), (1, _)]) dJ6_stringSize_0f7a4_35 (by decide) rfl ?_
                                refine j_iinc (v := 8) (lo' := [(3, _), (2, _), (0, _), (1, _)]) dJ6_stringSize_0f7a4_36 rfl (by decide) (by decide) rfl ?_
                                refine j_goto (tgt := 16) dJ6_stringSize_0f7a4_39 (by decide) ?_
                                refine j_iload_n dJ6_stringSize_0f7a4_16 rfl ?_
                                refine j_bipush (v := 10) dJ6_stringSize_0f7a4_17 (by decide) ?_
                                refine j_icmp_ge (tgt := 42) dJ6_stringSize_0f7a4_19 (by decide) (fun c_19_358 => ?_) (fun c_19_358 => ?_)
                                · exact absurd c_19_358 (by decide)
                                · refine j_iload_n dJ6_stringSize_0f7a4_22 rfl ?_
                                  refine j_iload_n dJ6_stringSize_0f7a4_23 rfl ?_
                                  refine j_icmp_le (tgt := 31) dJ6_stringSize_0f7a4_24 (by decide) (fun c_24_362 => ?_) (fun c_24_362 => ?_)
                                  · have hl8 : 100000000 ≤ x.toInt.natAbs := by have := z_leI c_24_362 hi (show (-100000000 : Int32).toInt = -100000000 by decide); omega
                                    refine j_bipush (v := 10) dJ6_stringSize_0f7a4_31 (by decide) ?_
                                    refine j_iload_n dJ6_stringSize_0f7a4_33 rfl ?_
                                    refine j_imul dJ6_stringSize_0f7a4_34 ?_
                                    refine j_top (congrArg Value.int (show (10 : Int32) * (-100000000) = (-1000000000) by decide)) ?_
                                    refine j_istore_n (lo' := [(2, _), (3, _), (0, _), (1, _)]) dJ6_stringSize_0f7a4_35 (by decide) rfl ?_
                                    refine j_iinc (v := 9) (lo' := [(3, _), (2, _), (0, _), (1, _)]) dJ6_stringSize_0f7a4_36 rfl (by decide) (by decide) rfl ?_
                                    refine j_goto (tgt := 16) dJ6_stringSize_0f7a4_39 (by decide) ?_
                                    refine j_iload_n dJ6_stringSize_0f7a4_16 rfl ?_
                                    refine j_bipush (v := 10) dJ6_stringSize_0f7a4_17 (by decide) ?_
                                    refine j_icmp_ge (tgt := 42) dJ6_stringSize_0f7a4_19 (by decide) (fun c_19_373 => ?_) (fun c_19_373 => ?_)
                                    · exact absurd c_19_373 (by decide)
                                    · refine j_iload_n dJ6_stringSize_0f7a4_22 rfl ?_
                                      refine j_iload_n dJ6_stringSize_0f7a4_23 rfl ?_
                                      refine j_icmp_le (tgt := 31) dJ6_stringSize_0f7a4_24 (by decide) (fun c_24_377 => ?_) (fun c_24_377 => ?_)
                                      · have hl9 : 1000000000 ≤ x.toInt.natAbs := by have := z_leI c_24_377 hi (show (-1000000000 : Int32).toInt = -1000000000 by decide); omega
                                        refine j_bipush (v := 10) dJ6_stringSize_0f7a4_31 (by decide) ?_
                                        refine j_iload_n dJ6_stringSize_0f7a4_33 rfl ?_
                                        refine j_imul dJ6_stringSize_0f7a4_34 ?_
                                        refine j_top (congrArg Value.int (show (10 : Int32) * (-1000000000) = (-1410065408) by decide)) ?_
                                        refine j_istore_n (lo' := [(2, _), (3, _), (0, _), (1, _)]) dJ6_stringSize_0f7a4_35 (by decide) rfl ?_
                                        refine j_iinc (v := 10) (lo' := [(3, _), (2, _), (0, _), (1, _)]) dJ6_stringSize_0f7a4_36 rfl (by decide) (by decide) rfl ?_
                                        refine j_goto (tgt := 16) dJ6_stringSize_0f7a4_39 (by decide) ?_
                                        refine j_iload_n dJ6_stringSize_0f7a4_16 rfl ?_
                                        refine j_bipush (v := 10) dJ6_stringSize_0f7a4_17 (by decide) ?_
                                        refine j_icmp_ge (tgt := 42) dJ6_stringSize_0f7a4_19 (by decide) (fun c_19_388 => ?_) (fun c_19_388 => ?_)
                                        · refine j_bipush (v := 10) dJ6_stringSize_0f7a4_42 (by decide) ?_
                                          refine j_iload_n dJ6_stringSize_0f7a4_44 rfl ?_
                                          refine j_iadd dJ6_stringSize_0f7a4_45 ?_
                                          refine j_iret dJ6_stringSize_0f7a4_46 rfl rfl ?_ (Nat.le_of_ble_eq_true rfl) (Nat.le_of_ble_eq_true rfl)
                                          have hd : z_dg x.toInt.natAbs = 10 := by unfold z_dg; rw [if_neg (show ¬ x.toInt.natAbs < 10 by omega), if_neg (show ¬ x.toInt.natAbs < 100 by omega), if_neg (show ¬ x.toInt.natAbs < 1000 by omega), if_neg (show ¬ x.toInt.natAbs < 10000 by omega), if_neg (show ¬ x.toInt.natAbs < 100000 by omega), if_neg (show ¬ x.toInt.natAbs < 1000000 by omega), if_neg (show ¬ x.toInt.natAbs < 10000000 by omega), if_neg (show ¬ x.toInt.natAbs < 100000000 by omega), if_neg (show ¬ x.toInt.natAbs < 1000000000 by omega)]
                                          have hz : z_sz x = 10 := by unfold z_sz; rw [if_neg hx, hd]
                                          rw [hz]
                                          exact ⟨rfl, rfl⟩
                                        · exact absurd (by decide) c_19_388
                                      · have hu : x.toInt.natAbs < 1000000000 := by have := z_nleI c_24_377 hi (show (-1000000000 : Int32).toInt = -1000000000 by decide); omega
                                        refine j_iload_n dJ6_stringSize_0f7a4_27 rfl ?_
                                        refine j_iload_n dJ6_stringSize_0f7a4_28 rfl ?_
                                        refine j_iadd dJ6_stringSize_0f7a4_29 ?_
                                        refine j_iret dJ6_stringSize_0f7a4_30 rfl rfl ?_ (Nat.le_of_ble_eq_true rfl) (Nat.le_of_ble_eq_true rfl)
                                        have hd : z_dg x.toInt.natAbs = 9 := z_dgL (k := 9) ⟨Or.inr hl8, hu⟩ (by omega)
                                        have hz : z_sz x = 9 := by unfold z_sz; rw [if_neg hx, hd]
                                        rw [hz]
                                        exact ⟨rfl, rfl⟩
                                  · have hu : x.toInt.natAbs < 100000000 := by have := z_nleI c_24_362 hi (show (-100000000 : Int32).toInt = -100000000 by decide); omega
                                    refine j_iload_n dJ6_stringSize_0f7a4_27 rfl ?_
                                    refine j_iload_n dJ6_stringSize_0f7a4_28 rfl ?_
                                    refine j_iadd dJ6_stringSize_0f7a4_29 ?_
                                    refine j_iret dJ6_stringSize_0f7a4_30 rfl rfl ?_ (Nat.le_of_ble_eq_true rfl) (Nat.le_of_ble_eq_true rfl)
                                    have hd : z_dg x.toInt.natAbs = 8 := z_dgL (k := 8) ⟨Or.inr hl7, hu⟩ (by omega)
                                    have hz : z_sz x = 8 := by unfold z_sz; rw [if_neg hx, hd]
                                    rw [hz]
                                    exact ⟨rfl, rfl⟩
                              · have hu : x.toInt.natAbs < 10000000 := by have := z_nleI c_24_347 hi (show (-10000000 : Int32).toInt = -10000000 by decide); omega
                                refine j_iload_n dJ6_stringSize_0f7a4_27 rfl ?_
                                refine j_iload_n dJ6_stringSize_0f7a4_28 rfl ?_
                                refine j_iadd dJ6_stringSize_0f7a4_29 ?_
                                refine j_iret dJ6_stringSize_0f7a4_30 rfl rfl ?_ (Nat.le_of_ble_eq_true rfl) (Nat.le_of_ble_eq_true rfl)
                                have hd : z_dg x.toInt.natAbs = 7 := z_dgL (k := 7) ⟨Or.inr hl6, hu⟩ (by omega)
                                have hz : z_sz x = 7 := by unfold z_sz; rw [if_neg hx, hd]
                                rw [hz]
                                exact ⟨rfl, rfl⟩
                          · have hu : x.toInt.natAbs < 1000000 := by have := z_nleI c_24_332 hi (show (-1000000 : Int32).toInt = -1000000 by decide); omega
                            refine j_iload_n dJ6_stringSize_0f7a4_27 rfl ?_
                            refine j_iload_n dJ6_stringSize_0f7a4_28 rfl ?_
                            refine j_iadd dJ6_stringSize_0f7a4_29 ?_
                            refine j_iret dJ6_stringSize_0f7a4_30 rfl rfl ?_ (Nat.le_of_ble_eq_true rfl) (Nat.le_of_ble_eq_true rfl)
                            have hd : z_dg x.toInt.natAbs = 6 := z_dgL (k := 6) ⟨Or.inr hl5, hu⟩ (by omega)
                            have hz : z_sz x = 6 := by unfold z_sz; rw [if_neg hx, hd]
                            rw [hz]
                            exact ⟨rfl, rfl⟩
                      · have hu : x.toInt.natAbs < 100000 := by have := z_nleI c_24_317 hi (show (-100000 : Int32).toInt = -100000 by decide); omega
                        refine j_iload_n dJ6_stringSize_0f7a4_27 rfl ?_
                        refine j_iload_n dJ6_stringSize_0f7a4_28 rfl ?_
                        refine j_iadd dJ6_stringSize_0f7a4_29 ?_
                        refine j_iret dJ6_stringSize_0f7a4_30 rfl rfl ?_ (Nat.le_of_ble_eq_true rfl) (Nat.le_of_ble_eq_true rfl)
                        have hd : z_dg x.toInt.natAbs = 5 := z_dgL (k := 5) ⟨Or.inr hl4, hu⟩ (by omega)
                        have hz : z_sz x = 5 := by unfold z_sz; rw [if_neg hx, hd]
                        rw [hz]
                        exact ⟨rfl, rfl⟩
                  · have hu : x.toInt.natAbs < 10000 := by have := z_nleI c_24_302 hi (show (-10000 : Int32).toInt = -10000 by decide); omega
                    refine j_iload_n dJ6_stringSize_0f7a4_27 rfl ?_
                    refine j_iload_n dJ6_stringSize_0f7a4_28 rfl ?_
                    refine j_iadd dJ6_stringSize_0f7a4_29 ?_
                    refine j_iret dJ6_stringSize_0f7a4_30 rfl rfl ?_ (Nat.le_of_ble_eq_true rfl) (Nat.le_of_ble_eq_true rfl)
                    have hd : z_dg x.toInt.natAbs = 4 := z_dgL (k := 4) ⟨Or.inr hl3, hu⟩ (by omega)
                    have hz : z_sz x = 4 := by unfold z_sz; rw [if_neg hx, hd]
                    rw [hz]
                    exact ⟨rfl, rfl⟩
              · have hu : x.toInt.natAbs < 1000 := by have := z_nleI c_24_287 hi (show (-1000 : Int32).toInt = -1000 by decide); omega
                refine j_iload_n dJ6_stringSize_0f7a4_27 rfl ?_
                refine j_iload_n dJ6_stringSize_0f7a4_28 rfl ?_
                refine j_iadd dJ6_stringSize_0f7a4_29 ?_
                refine j_iret dJ6_stringSize_0f7a4_30 rfl rfl ?_ (Nat.le_of_ble_eq_true rfl) (Nat.le_of_ble_eq_true rfl)
                have hd : z_dg x.toInt.natAbs = 3 := z_dgL (k := 3) ⟨Or.inr hl2, hu⟩ (by omega)
                have hz : z_sz x = 3 := by unfold z_sz; rw [if_neg hx, hd]
                rw [hz]
                exact ⟨rfl, rfl⟩
          · have hu : x.toInt.natAbs < 100 := by have := z_nleI c_24_272 hi (show (-100 : Int32).toInt = -100 by decide); omega
            refine j_iload_n dJ6_stringSize_0f7a4_27 rfl ?_
            refine j_iload_n dJ6_stringSize_0f7a4_28 rfl ?_
            refine j_iadd dJ6_stringSize_0f7a4_29 ?_
            refine j_iret dJ6_stringSize_0f7a4_30 rfl rfl ?_ (Nat.le_of_ble_eq_true rfl) (Nat.le_of_ble_eq_true rfl)
            have hd : z_dg x.toInt.natAbs = 2 := z_dgL (k := 2) ⟨Or.inr hl1, hu⟩ (by omega)
            have hz : z_sz x = 2 := by unfold z_sz; rw [if_neg hx, hd]
            rw [hz]
            exact ⟨rfl, rfl⟩
      · have hu : x.toInt.natAbs < 10 := by have := z_nleI c_24_257 hi (show (-10 : Int32).toInt = -10 by decide); omega
        refine j_iload_n dJ6_stringSize_0f7a4_27 rfl ?_
        refine j_iload_n dJ6_stringSize_0f7a4_28 rfl ?_
        refine j_iadd dJ6_stringSize_0f7a4_29 ?_
        refine j_iret dJ6_stringSize_0f7a4_30 rfl rfl ?_ (Nat.le_of_ble_eq_true rfl) (Nat.le_of_ble_eq_true rfl)
        have hd : z_dg x.toInt.natAbs = 1 := z_dgL (k := 1) ⟨Or.inl rfl, hu⟩ (by omega)
        have hz : z_sz x = 1 := by unfold z_sz; rw [if_neg hx, hd]
        rw [hz]
        exact ⟨rfl, rfl⟩
set_option maxRecDepth 100000 in
set_option maxHeartbeats 8000000 in
theorem sb_getC (hl : l.stackTraces = false) (w : z_W) (ρ m N p b : Nat) (f : Nat → Value) (e : z_E) (x : Int32) (hm : 1000 ≤ m) (hm2 : m % 64 = ρ) (gm : z_g w m = some (.inl (2, N, f))) (hby : z_by f) (hb : b ≠ m) (gb : z_g w b = some e) (hp : z_sz x ≤ p) (hpN : p ≤ N) (hN : N ≤ 5000) : z_Con G l mJ6_getChars_ba4f3 10 0 0 w [.int x, .int (nI p), .ref m] (fun v w9 => ∃ (r : Int32) (g : Nat → Value), v = some (.int r) ∧ z_fw ρ w w9 ∧ z_g w9 m = some (.inl (2, N, g)) ∧ z_by g ∧ z_g w9 b = some e) (fun _ _ => False) := by
  refine z_body hl (by decide) rfl (Nat.le_of_ble_eq_true rfl) ?_
  show z_J G l mJ6_getChars_ba4f3 _ 0 [(0, _), (1, _), (2, _)] [] _ 0 0
  refine j_iload_n dJ6_getChars_ba4f3_0 rfl ?_
  refine j_istore (lo' := [(5, _), (0, _), (1, _), (2, _)]) dJ6_getChars_ba4f3_1 (by decide) rfl ?_
  refine j_iload_n dJ6_getChars_ba4f3_3 rfl ?_
  refine j_if_ge (tgt := 11) dJ6_getChars_ba4f3_4 (by decide) (fun c_4_5 => ?_) (fun c_4_5 => ?_)
  · have hx : ¬ x < 0 := Int32.not_lt.mpr c_4_5
    refine j_iconst (v := 0) dJ6_getChars_ba4f3_11 (by decide) ?_
    refine j_istore (lo' := [(6, _), (5, _), (0, _), (1, _), (2, _)]) dJ6_getChars_ba4f3_12 (by decide) rfl ?_
    refine j_iload dJ6_getChars_ba4f3_14 rfl ?_
    refine j_if_ne (tgt := 22) dJ6_getChars_ba4f3_16 (by decide) (fun c_16_10 => ?_) (fun c_16_10 => ?_)
    · exact absurd rfl c_16_10
    · refine j_iload_n dJ6_getChars_ba4f3_19 rfl ?_
      refine j_ineg dJ6_getChars_ba4f3_20 ?_
      refine j_istore_n (lo' := [(0, _), (6, _), (5, _), (1, _), (2, _)]) dJ6_getChars_ba4f3_21 (by decide) rfl ?_
      have hi : (-x).toInt = -(x.toInt.natAbs : Int) := z_ngI hx
      have hsz : z_sz x = 0 + z_dg x.toInt.natAbs := by unfold z_sz; rw [if_neg hx]
      have hna : x.toInt.natAbs ≤ 2147483648 := by have h7 := Int32.le_toInt x; have h8 := Int32.toInt_lt x; omega
      have loop22 : ∀ (n9 : Nat) (w1 : z_W) (i : Int32) (W p1 : Nat) (F : Nat → Value), (W < n9) → (i.toInt = -(W : Int)) → (W ≤ 2147483648) → (0 + z_dg W ≤ p1) → (p1 ≤ N) → (z_fw ρ w w1) → (z_g w1 m = some (.inl (2, N, F))) → (z_by F) → (z_g w1 b = some e) → z_J G l mJ6_getChars_ba4f3 (10, 0, 0, w, (fun v w9 => ∃ (r : Int32) (g : Nat → Value), v = some (.int r) ∧ z_fw ρ w w9 ∧ z_g w9 m = some (.inl (2, N, g)) ∧ z_by g ∧ z_g w9 b = some e), (fun _ _ => False)) 22 [(0, .int i), (1, .int (nI p)), (2, .ref m), (5, .int (nI p1)), (6, .int 0)] [] w1 0 0 := by
        intro n9
        induction n9 with
        | zero => intro w1 i W p1 F k0 k1 kw kp kN k2 k3 k4 k5; exact absurd k0 (Nat.not_lt_zero _)
        | succ n9 ih =>
          intro w1 i W p1 F k0 k1 kw kp kN k2 k3 k4 k5
          refine j_iload_n dJ6_getChars_ba4f3_22 rfl ?_
          refine j_bipush (v := (-100)) dJ6_getChars_ba4f3_23 (by decide) ?_
          refine j_icmp_gt (tgt := 72) dJ6_getChars_ba4f3_25 (by decide) (fun c_25_26 => ?_) (fun c_25_26 => ?_)
          · have hW1 : W < 100 := by have c9 := Int32.lt_iff_toInt_lt.mp c_25_26; rw [k1, show (-100 : Int32).toInt = -100 from rfl] at c9; omega
            have hdg := z_dg_in W
            refine j_aload_n dJ6_getChars_ba4f3_72 rfl rfl ?_
            refine j_iinc (lo' := [(5, _), (0, _), (1, _), (2, _), (6, _)]) dJ6_getChars_ba4f3_73 rfl (z_dcI (by omega)) (by decide) rfl ?_
            refine j_iload dJ6_getChars_ba4f3_76 rfl ?_
            refine j_gets dJ6_getChars_ba4f3_78 (List.mem_of_getElem? (i := 5) rfl) rfl (z_w 703 ((lwt_3_5 28).trans rfl) (by decide +kernel)) ?_
            refine j_iload_n dJ6_getChars_ba4f3_81 rfl ?_
            refine j_ineg dJ6_getChars_ba4f3_82 ?_
            refine j_baldK (k := 3) (N := 100) dJ6_getChars_ba4f3_83 (fun U q9 h hk9 => z_cst6 h (k := 3) (by decide) hk9) (z_vpin (z_negI k1 (by omega)) hW1) ?_
            intro y6
            refine j_bastW (w' := _) dJ6_getChars_ba4f3_84 k3 (vp_in_nI (by omega) (by omega)) rfl ?_
            refine j_seal hm ?_
            intro w2 u2
            have g2_b := (u2.2.1 _ hb).trans k5
            have g2_m := u2.1
            refine j_iload_n dJ6_getChars_ba4f3_85 rfl ?_
            refine j_bipush (v := (-9)) dJ6_getChars_ba4f3_86 (by decide) ?_
            refine j_icmp_ge (tgt := 104) dJ6_getChars_ba4f3_88 (by decide) (fun c_88_44 => ?_) (fun c_88_44 => ?_)
            · refine j_iload dJ6_getChars_ba4f3_104 rfl ?_
              refine j_if_eq (tgt := 118) dJ6_getChars_ba4f3_106 (by decide) (fun c_106_46 => ?_) (fun c_106_46 => ?_)
              · refine j_iload dJ6_getChars_ba4f3_118 rfl ?_
                refine j_iret dJ6_getChars_ba4f3_120 rfl rfl ?_ (Nat.le_of_ble_eq_true rfl) (Nat.le_of_ble_eq_true rfl)
                exact ⟨_, _, rfl, (k2.tr (u2.fw hm hm2)), g2_m, z_byU k4 (z_fB _), g2_b⟩
              · exact absurd rfl c_106_46
            · have hW2 : 10 ≤ W := by have c9 : ¬ (-9 : Int32).toInt ≤ i.toInt := fun z => c_88_44 (Int32.le_iff_toInt_le.mpr z); rw [k1, show (-9 : Int32).toInt = -9 from rfl] at c9; omega
              have hd2 : z_dg W = 2 := z_dgL (k := 2) ⟨Or.inr (by show 10 ≤ _; omega), by show _ < 100; omega⟩ (by omega)
              refine j_aload_n dJ6_getChars_ba4f3_91 rfl rfl ?_
              refine j_iinc (lo' := [(5, _), (0, _), (1, _), (2, _), (6, _)]) dJ6_getChars_ba4f3_92 rfl (z_dcI (by omega)) (by decide) rfl ?_
              refine j_iload dJ6_getChars_ba4f3_95 rfl ?_
              refine j_gets dJ6_getChars_ba4f3_97 (List.mem_of_getElem? (i := 6) rfl) rfl (z_w 705 ((lwt_3_6 0).trans rfl) (by decide +kernel)) ?_
              refine j_iload_n dJ6_getChars_ba4f3_100 rfl ?_
              refine j_ineg dJ6_getChars_ba4f3_101 ?_
              refine j_baldK (k := 4) (N := 100) dJ6_getChars_ba4f3_102 (fun U q9 h hk9 => z_cst6 h (k := 4) (by decide) hk9) (z_vpin (z_negI k1 (by omega)) hW1) ?_
              intro y7
              refine j_bastW (w' := _) dJ6_getChars_ba4f3_103 g2_m (vp_in_nI (by omega) (by omega)) rfl ?_
              refine j_seal hm ?_
              intro w3 u3
              have g3_b := (u3.2.1 _ hb).trans g2_b
              have g3_m := u3.1
              refine j_iload dJ6_getChars_ba4f3_104 rfl ?_
              refine j_if_eq (tgt := 118) dJ6_getChars_ba4f3_106 (by decide) (fun c_106_67 => ?_) (fun c_106_67 => ?_)
              · refine j_iload dJ6_getChars_ba4f3_118 rfl ?_
                refine j_iret dJ6_getChars_ba4f3_120 rfl rfl ?_ (Nat.le_of_ble_eq_true rfl) (Nat.le_of_ble_eq_true rfl)
                exact ⟨_, _, rfl, ((k2.tr (u2.fw hm hm2)).tr (u3.fw hm hm2)), g3_m, z_byU (z_byU k4 (z_fB _)) (z_fB _), g3_b⟩
              · exact absurd rfl c_106_67
          · have hW1 : 100 ≤ W := by have c9 : ¬ (-100 : Int32).toInt < i.toInt := fun z => c_25_26 (Int32.lt_iff_toInt_lt.mpr z); rw [k1, show (-100 : Int32).toInt = -100 from rfl] at c9; omega
            have hdg := z_dg100 (w := W) hW1 kw
            refine j_iload_n dJ6_getChars_ba4f3_28 rfl ?_
            refine j_bipush (v := 100) dJ6_getChars_ba4f3_29 (by decide) ?_
            refine j_idiv dJ6_getChars_ba4f3_31 (by decide) ?_
            refine j_istore_n (lo' := [(3, _), (0, _), (1, _), (2, _), (5, _), (6, _)]) dJ6_getChars_ba4f3_32 (by decide) rfl ?_
            refine j_iload_n dJ6_getChars_ba4f3_33 rfl ?_
            refine j_bipush (v := 100) dJ6_getChars_ba4f3_34 (by decide) ?_
            refine j_imul dJ6_getChars_ba4f3_36 ?_
            refine j_iload_n dJ6_getChars_ba4f3_37 rfl ?_
            refine j_isub dJ6_getChars_ba4f3_38 ?_
            refine j_istore (lo' := [(4, _), (3, _), (0, _), (1, _), (2, _), (5, _), (6, _)]) dJ6_getChars_ba4f3_39 (by decide) rfl ?_
            refine j_iload_n dJ6_getChars_ba4f3_41 rfl ?_
            refine j_istore_n (lo' := [(0, _), (4, _), (3, _), (1, _), (2, _), (5, _), (6, _)]) dJ6_getChars_ba4f3_42 (by decide) rfl ?_
            refine j_aload_n dJ6_getChars_ba4f3_43 rfl rfl ?_
            refine j_iinc (lo' := [(5, _), (0, _), (4, _), (3, _), (1, _), (2, _), (6, _)]) dJ6_getChars_ba4f3_44 rfl (z_dcI (by omega)) (by decide) rfl ?_
            refine j_iload dJ6_getChars_ba4f3_47 rfl ?_
            refine j_gets dJ6_getChars_ba4f3_49 (List.mem_of_getElem? (i := 5) rfl) rfl (z_w 703 ((lwt_3_5 28).trans rfl) (by decide +kernel)) ?_
            refine j_iload dJ6_getChars_ba4f3_52 rfl ?_
            refine j_baldK (k := 3) (N := 100) dJ6_getChars_ba4f3_54 (fun U q9 h hk9 => z_cst6 h (k := 3) (by decide) hk9) (z_vpin (z_remI k1 kw) (Nat.mod_lt _ (by decide))) ?_
            intro y8
            refine j_bastW (w' := _) dJ6_getChars_ba4f3_55 k3 (vp_in_nI (by omega) (by omega)) rfl ?_
            refine j_seal hm ?_
            intro w4 u4
            have g4_b := (u4.2.1 _ hb).trans k5
            have g4_m := u4.1
            refine j_aload_n dJ6_getChars_ba4f3_56 rfl rfl ?_
            refine j_iinc (lo' := [(5, _), (0, _), (4, _), (3, _), (1, _), (2, _), (6, _)]) dJ6_getChars_ba4f3_57 rfl (z_dcI (by omega)) (by decide) rfl ?_
            refine j_iload dJ6_getChars_ba4f3_60 rfl ?_
            refine j_gets dJ6_getChars_ba4f3_62 (List.mem_of_getElem? (i := 6) rfl) rfl (z_w 705 ((lwt_3_6 0).trans rfl) (by decide +kernel)) ?_
            refine j_iload dJ6_getChars_ba4f3_65 rfl ?_
            refine j_baldK (k := 4) (N := 100) dJ6_getChars_ba4f3_67 (fun U q9 h hk9 => z_cst6 h (k := 4) (by decide) hk9) (z_vpin (z_remI k1 kw) (Nat.mod_lt _ (by decide))) ?_
            intro y9
            refine j_bastW (w' := _) dJ6_getChars_ba4f3_68 g4_m (vp_in_nI (by omega) (by omega)) rfl ?_
            refine j_seal hm ?_
            intro w5 u5
            have g5_b := (u5.2.1 _ hb).trans g4_b
            have g5_m := u5.1
            refine j_goto (tgt := 22) dJ6_getChars_ba4f3_69 (by decide) ?_
            exact j_lo2 (ih w5 _ (W / 100) (p1 - 1 - 1) _ (by omega) (z_divI k1 kw) (by omega) (by have := z_dg100 (w := W) hW1 kw; omega) (by omega) ((k2.tr (u4.fw hm hm2)).tr (u5.fw hm hm2)) g5_m (z_byU (z_byU k4 (z_fB _)) (z_fB _)) g5_b) (z_q1 rfl (z_q1 rfl (z_q1 rfl (z_q1 rfl (z_q1 rfl z_q0)))))
      exact j_lo2 (loop22 (x.toInt.natAbs + 1) w _ x.toInt.natAbs p f (by omega) hi hna (by omega) hpN z_fw.rf gm hby gb) (z_q1 rfl (z_q1 rfl (z_q1 rfl (z_q1 rfl (z_q1 rfl z_q0)))))
  · have hx : x < 0 := Int32.not_le.mp c_4_5
    refine j_iconst (v := 1) dJ6_getChars_ba4f3_7 (by decide) ?_
    refine j_goto (tgt := 12) dJ6_getChars_ba4f3_8 (by decide) ?_
    refine j_istore (lo' := [(6, _), (5, _), (0, _), (1, _), (2, _)]) dJ6_getChars_ba4f3_12 (by decide) rfl ?_
    refine j_iload dJ6_getChars_ba4f3_14 rfl ?_
    refine j_if_ne (tgt := 22) dJ6_getChars_ba4f3_16 (by decide) (fun c_16_118 => ?_) (fun c_16_118 => ?_)
    · have hi : (x).toInt = -(x.toInt.natAbs : Int) := z_poI hx
      have hsz : z_sz x = 1 + z_dg x.toInt.natAbs := by unfold z_sz; rw [if_pos hx]
      have hna : x.toInt.natAbs ≤ 2147483648 := by have h7 := Int32.le_toInt x; have h8 := Int32.toInt_lt x; omega
      have loop22 : ∀ (n9 : Nat) (w6 : z_W) (i : Int32) (W p1 : Nat) (F : Nat → Value), (W < n9) → (i.toInt = -(W : Int)) → (W ≤ 2147483648) → (1 + z_dg W ≤ p1) → (p1 ≤ N) → (z_fw ρ w w6) → (z_g w6 m = some (.inl (2, N, F))) → (z_by F) → (z_g w6 b = some e) → z_J G l mJ6_getChars_ba4f3 (10, 0, 0, w, (fun v w9 => ∃ (r : Int32) (g : Nat → Value), v = some (.int r) ∧ z_fw ρ w w9 ∧ z_g w9 m = some (.inl (2, N, g)) ∧ z_by g ∧ z_g w9 b = some e), (fun _ _ => False)) 22 [(0, .int i), (1, .int (nI p)), (2, .ref m), (5, .int (nI p1)), (6, .int 1)] [] w6 0 0 := by
        intro n9
        induction n9 with
        | zero => intro w6 i W p1 F k0 k1 kw kp kN k2 k3 k4 k5; exact absurd k0 (Nat.not_lt_zero _)
        | succ n9 ih =>
          intro w6 i W p1 F k0 k1 kw kp kN k2 k3 k4 k5
          refine j_iload_n dJ6_getChars_ba4f3_22 rfl ?_
          refine j_bipush (v := (-100)) dJ6_getChars_ba4f3_23 (by decide) ?_
          refine j_icmp_gt (tgt := 72) dJ6_getChars_ba4f3_25 (by decide) (fun c_25_130 => ?_) (fun c_25_130 => ?_)
          · have hW1 : W < 100 := by have c9 := Int32.lt_iff_toInt_lt.mp c_25_130; rw [k1, show (-100 : Int32).toInt = -100 from rfl] at c9; omega
            have hdg := z_dg_in W
            refine j_aload_n dJ6_getChars_ba4f3_72 rfl rfl ?_
            refine j_iinc (lo' := [(5, _), (0, _), (1, _), (2, _), (6, _)]) dJ6_getChars_ba4f3_73 rfl (z_dcI (by omega)) (by decide) rfl ?_
            refine j_iload dJ6_getChars_ba4f3_76 rfl ?_
            refine j_gets dJ6_getChars_ba4f3_78 (List.mem_of_getElem? (i := 5) rfl) rfl (z_w 703 ((lwt_3_5 28).trans rfl) (by decide +kernel)) ?_
            refine j_iload_n dJ6_getChars_ba4f3_81 rfl ?_
            refine j_ineg dJ6_getChars_ba4f3_82 ?_
            refine j_baldK (k := 3) (N := 100) dJ6_getChars_ba4f3_83 (fun U q9 h hk9 => z_cst6 h (k := 3) (by decide) hk9) (z_vpin (z_negI k1 (by omega)) hW1) ?_
            intro y10
            refine j_bastW (w' := _) dJ6_getChars_ba4f3_84 k3 (vp_in_nI (by omega) (by omega)) rfl ?_
            refine j_seal hm ?_
            intro w7 u7
            have g7_b := (u7.2.1 _ hb).trans k5
            have g7_m := u7.1
            refine j_iload_n dJ6_getChars_ba4f3_85 rfl ?_
            refine j_bipush (v := (-9)) dJ6_getChars_ba4f3_86 (by decide) ?_
            refine j_icmp_ge (tgt := 104) dJ6_getChars_ba4f3_88 (by decide) (fun c_88_148 => ?_) (fun c_88_148 => ?_)
            · refine j_iload dJ6_getChars_ba4f3_104 rfl ?_
              refine j_if_eq (tgt := 118) dJ6_getChars_ba4f3_106 (by decide) (fun c_106_150 => ?_) (fun c_106_150 => ?_)
              · exact absurd c_106_150 (by decide)
              · refine j_aload_n dJ6_getChars_ba4f3_109 rfl rfl ?_
                refine j_iinc (lo' := [(5, _), (0, _), (1, _), (2, _), (6, _)]) dJ6_getChars_ba4f3_110 rfl (z_dcI (by omega)) (by decide) rfl ?_
                refine j_iload dJ6_getChars_ba4f3_113 rfl ?_
                refine j_bipush (v := 45) dJ6_getChars_ba4f3_115 (by decide) ?_
                refine j_bastW (w' := _) dJ6_getChars_ba4f3_117 g7_m (vp_in_nI (by omega) (by omega)) rfl ?_
                refine j_seal hm ?_
                intro w8 u8
                have g8_b := (u8.2.1 _ hb).trans g7_b
                have g8_m := u8.1
                refine j_iload dJ6_getChars_ba4f3_118 rfl ?_
                refine j_iret dJ6_getChars_ba4f3_120 rfl rfl ?_ (Nat.le_of_ble_eq_true rfl) (Nat.le_of_ble_eq_true rfl)
                exact ⟨_, _, rfl, ((k2.tr (u7.fw hm hm2)).tr (u8.fw hm hm2)), g8_m, z_byU (z_byU k4 (z_fB _)) (z_fB _), g8_b⟩
            · have hW2 : 10 ≤ W := by have c9 : ¬ (-9 : Int32).toInt ≤ i.toInt := fun z => c_88_148 (Int32.le_iff_toInt_le.mpr z); rw [k1, show (-9 : Int32).toInt = -9 from rfl] at c9; omega
              have hd2 : z_dg W = 2 := z_dgL (k := 2) ⟨Or.inr (by show 10 ≤ _; omega), by show _ < 100; omega⟩ (by omega)
              refine j_aload_n dJ6_getChars_ba4f3_91 rfl rfl ?_
              refine j_iinc (lo' := [(5, _), (0, _), (1, _), (2, _), (6, _)]) dJ6_getChars_ba4f3_92 rfl (z_dcI (by omega)) (by decide) rfl ?_
              refine j_iload dJ6_getChars_ba4f3_95 rfl ?_
              refine j_gets dJ6_getChars_ba4f3_97 (List.mem_of_getElem? (i := 6) rfl) rfl (z_w 705 ((lwt_3_6 0).trans rfl) (by decide +kernel)) ?_
              refine j_iload_n dJ6_getChars_ba4f3_100 rfl ?_
              refine j_ineg dJ6_getChars_ba4f3_101 ?_
              refine j_baldK (k := 4) (N := 100) dJ6_getChars_ba4f3_102 (fun U q9 h hk9 => z_cst6 h (k := 4) (by decide) hk9) (z_vpin (z_negI k1 (by omega)) hW1) ?_
              intro y11
              refine j_bastW (w' := _) dJ6_getChars_ba4f3_103 g7_m (vp_in_nI (by omega) (by omega)) rfl ?_
              refine j_seal hm ?_
              intro w9 u9
              have g9_b := (u9.2.1 _ hb).trans g7_b
              have g9_m := u9.1
              refine j_iload dJ6_getChars_ba4f3_104 rfl ?_
              refine j_if_eq (tgt := 118) dJ6_getChars_ba4f3_106 (by decide) (fun c_106_180 => ?_) (fun c_106_180 => ?_)
              · exact absurd c_106_180 (by decide)
              · refine j_aload_n dJ6_getChars_ba4f3_109 rfl rfl ?_
                refine j_iinc (lo' := [(5, _), (0, _), (1, _), (2, _), (6, _)]) dJ6_getChars_ba4f3_110 rfl (z_dcI (by omega)) (by decide) rfl ?_
                refine j_iload dJ6_getChars_ba4f3_113 rfl ?_
                refine j_bipush (v := 45) dJ6_getChars_ba4f3_115 (by decide) ?_
                refine j_bastW (w' := _) dJ6_getChars_ba4f3_117 g9_m (vp_in_nI (by omega) (by omega)) rfl ?_
                refine j_seal hm ?_
                intro w10 u10
                have g10_b := (u10.2.1 _ hb).trans g9_b
                have g10_m := u10.1
                refine j_iload dJ6_getChars_ba4f3_118 rfl ?_
                refine j_iret dJ6_getChars_ba4f3_120 rfl rfl ?_ (Nat.le_of_ble_eq_true rfl) (Nat.le_of_ble_eq_true rfl)
                exact ⟨_, _, rfl, (((k2.tr (u7.fw hm hm2)).tr (u9.fw hm hm2)).tr (u10.fw hm hm2)), g10_m, z_byU (z_byU (z_byU k4 (z_fB _)) (z_fB _)) (z_fB _), g10_b⟩
          · have hW1 : 100 ≤ W := by have c9 : ¬ (-100 : Int32).toInt < i.toInt := fun z => c_25_130 (Int32.lt_iff_toInt_lt.mpr z); rw [k1, show (-100 : Int32).toInt = -100 from rfl] at c9; omega
            have hdg := z_dg100 (w := W) hW1 kw
            refine j_iload_n dJ6_getChars_ba4f3_28 rfl ?_
            refine j_bipush (v := 100) dJ6_getChars_ba4f3_29 (by decide) ?_
            refine j_idiv dJ6_getChars_ba4f3_31 (by decide) ?_
            refine j_istore_n (lo' := [(3, _), (0, _), (1, _), (2, _), (5, _), (6, _)]) dJ6_getChars_ba4f3_32 (by decide) rfl ?_
            refine j_iload_n dJ6_getChars_ba4f3_33 rfl ?_
            refine j_bipush (v := 100) dJ6_getChars_ba4f3_34 (by decide) ?_
            refine j_imul dJ6_getChars_ba4f3_36 ?_
            refine j_iload_n dJ6_getChars_ba4f3_37 rfl ?_
            refine j_isub dJ6_getChars_ba4f3_38 ?_
            refine j_istore (lo' := [(4, _), (3, _), (0, _), (1, _), (2, _), (5, _), (6, _)]) dJ6_getChars_ba4f3_39 (by decide) rfl ?_
            refine j_iload_n dJ6_getChars_ba4f3_41 rfl ?_
            refine j_istore_n (lo' := [(0, _), (4, _), (3, _), (1, _), (2, _), (5, _), (6, _)]) dJ6_getChars_ba4f3_42 (by decide) rfl ?_
            refine j_aload_n dJ6_getChars_ba4f3_43 rfl rfl ?_
            refine j_iinc (lo' := [(5, _), (0, _), (4, _), (3, _), (1, _), (2, _), (6, _)]) dJ6_getChars_ba4f3_44 rfl (z_dcI (by omega)) (by decide) rfl ?_
            refine j_iload dJ6_getChars_ba4f3_47 rfl ?_
            refine j_gets dJ6_getChars_ba4f3_49 (List.mem_of_getElem? (i := 5) rfl) rfl (z_w 703 ((lwt_3_5 28).trans rfl) (by decide +kernel)) ?_
            refine j_iload dJ6_getChars_ba4f3_52 rfl ?_
            refine j_baldK (k := 3) (N := 100) dJ6_getChars_ba4f3_54 (fun U q9 h hk9 => z_cst6 h (k := 3) (by decide) hk9) (z_vpin (z_remI k1 kw) (Nat.mod_lt _ (by decide))) ?_
            intro y12
            refine j_bastW (w' := _) dJ6_getChars_ba4f3_55 k3 (vp_in_nI (by omega) (by omega)) rfl ?_
            refine j_seal hm ?_
            intro w11 u11
            have g11_b := (u11.2.1 _ hb).trans k5
            have g11_m := u11.1
            refine j_aload_n dJ6_getChars_ba4f3_56 rfl rfl ?_
            refine j_iinc (lo' := [(5, _), (0, _), (4, _), (3, _), (1, _), (2, _), (6, _)]) dJ6_getChars_ba4f3_57 rfl (z_dcI (by omega)) (by decide) rfl ?_
            refine j_iload dJ6_getChars_ba4f3_60 rfl ?_
            refine j_gets dJ6_getChars_ba4f3_62 (List.mem_of_getElem? (i := 6) rfl) rfl (z_w 705 ((lwt_3_6 0).trans rfl) (by decide +kernel)) ?_
            refine j_iload dJ6_getChars_ba4f3_65 rfl ?_
            refine j_baldK (k := 4) (N := 100) dJ6_getChars_ba4f3_67 (fun U q9 h hk9 => z_cst6 h (k := 4) (by decide) hk9) (z_vpin (z_remI k1 kw) (Nat.mod_lt _ (by decide))) ?_
            intro y13
            refine j_bastW (w' := _) dJ6_getChars_ba4f3_68 g11_m (vp_in_nI (by omega) (by omega)) rfl ?_
            refine j_seal hm ?_
            intro w12 u12
            have g12_b := (u12.2.1 _ hb).trans g11_b
            have g12_m := u12.1
            refine j_goto (tgt := 22) dJ6_getChars_ba4f3_69 (by decide) ?_
            exact j_lo2 (ih w12 _ (W / 100) (p1 - 1 - 1) _ (by omega) (z_divI k1 kw) (by omega) (by have := z_dg100 (w := W) hW1 kw; omega) (by omega) ((k2.tr (u11.fw hm hm2)).tr (u12.fw hm hm2)) g12_m (z_byU (z_byU k4 (z_fB _)) (z_fB _)) g12_b) (z_q1 rfl (z_q1 rfl (z_q1 rfl (z_q1 rfl (z_q1 rfl z_q0)))))
      exact j_lo2 (loop22 (x.toInt.natAbs + 1) w _ x.toInt.natAbs p f (by omega) hi hna (by omega) hpN z_fw.rf gm hby gb) (z_q1 rfl (z_q1 rfl (z_q1 rfl (z_q1 rfl (z_q1 rfl z_q0)))))
    · exact absurd c_16_118 (by decide)
set_option maxRecDepth 100000 in
set_option maxHeartbeats 8000000 in
theorem sb_apI0 (hl : l.stackTraces = false) (w : z_W) (ρ a n N : Nat) (x : Int32) (h : z_sb w ρ a n N) (hq : n + z_sz x ≤ 2 * N + 2) (hN : z_gr N (n + z_sz x) ≤ 5000) (hρ : ρ < 64) (hf : z_fn w) : z_Con G l mJ5_append_c97b9 16 (z_gr N (n + z_sz x) / 16 - N / 16) (2 * (z_gr N (n + z_sz x) - N)) w [.ref a, .int x] (fun v w9 => v = some (.ref a) ∧ z_fw ρ w w9 ∧ z_sb w9 ρ a (n + z_sz x) (z_gr N (n + z_sz x))) (fun _ _ => False) := by
  obtain ⟨h1, h2, h3, h4, h5, m, f, ml, a1, a2, a3, ga, gm, a6⟩ := id h
  have hge := z_gr_ge hq
  have hle := z_gr_le (N := N) (m := n + z_sz x)
  refine z_body hl (by decide) rfl (Nat.le_of_ble_eq_true rfl) ?_
  show z_J G l mJ5_append_c97b9 _ 0 [(0, _), (1, _)] [] _ 0 0
  refine j_aload_n dJ5_append_c97b9_0 rfl rfl ?_
  refine j_getf dJ5_append_c97b9_1 fJ5_79 ga rfl ?_
  refine j_istore_n (lo' := [(2, _), (0, _), (1, _)]) dJ5_append_c97b9_4 (by decide) rfl ?_
  refine j_iload_n dJ5_append_c97b9_5 rfl ?_
  refine j_iload_n dJ5_append_c97b9_6 rfl ?_
  refine j_callS dJ5_append_c97b9_7 kJ6_stringSize_0f7a4 lJ5_245 stJ6_stringSize_0f7a4 (sb_size hl w x) (Nat.le_of_ble_eq_true rfl) ⟨(by show _ ≤ z_gr N (n + z_sz x) / 16 - N / 16; omega), (by show _ ≤ 2 * (z_gr N (n + z_sz x) - N); omega)⟩ rfl (Nat.le_of_ble_eq_true rfl) rfl rfl (fun _ _ h => h.elim) ?_
  rintro _ _ ⟨rfl, hw14⟩
  refine j_w w hw14 ?_
  refine j_iadd dJ5_append_c97b9_10 ?_
  refine j_top (congrArg Value.int (nI_add n (z_sz x))) ?_
  refine j_istore_n (lo' := [(3, _), (2, _), (0, _), (1, _)]) dJ5_append_c97b9_11 (by decide) rfl ?_
  refine j_aload_n dJ5_append_c97b9_12 rfl rfl ?_
  refine j_iload_n dJ5_append_c97b9_13 rfl ?_
  refine j_callP (x := yJ5_isLatin1_aae02) (q := (RJ4, TJ4, 4)) dJ5_append_c97b9_14 kJ5_ensureCapacityInternal_d00df lJ5_100 inJ5_ensureCapacityInternal_d00df ⟨(z_w 640 ((lwt_3_3 25).trans rfl) (by decide +kernel)), rfl, (z_wn 603 ((lwt_3_2 18).trans rfl) (by decide +kernel))⟩ ga rfl (sb_ens hl w ρ a n N (n + z_sz x) h (by omega) (by omega) hρ hf) (Nat.le_of_ble_eq_true rfl) ⟨(by show _ ≤ z_gr N (n + z_sz x) / 16 - N / 16; omega), (by show _ ≤ 2 * (z_gr N (n + z_sz x) - N); omega)⟩ rfl (Nat.le_of_ble_eq_true rfl) rfl rfl (fun _ _ h => h.elim) ?_
  rintro _ w1 ⟨rfl, fw1, hs1⟩
  have hf1 := fw1.2.1 hf
  obtain ⟨-, -, h3_1, h4_1, h5_1, m_1, f_1, ml_1, a1_1, a2_1, a3_1, ga_1, gm_1, a6_1⟩ := id hs1
  refine j_aload_n dJ5_append_c97b9_17 rfl rfl ?_
  refine j_callU (q := (RJ4, TJ4, 4)) dJ5_append_c97b9_18 kJ5_isLatin1_aae02 cuJ5_83_J4 ga_1 rfl (sb_lat hl w1 _ _ _ _ ga_1) (Nat.le_of_ble_eq_true rfl) ⟨(by show _ ≤ z_gr N (n + z_sz x) / 16 - N / 16; omega), (by show _ ≤ 2 * (z_gr N (n + z_sz x) - N); omega)⟩ rfl (Nat.le_of_ble_eq_true rfl) rfl rfl (fun _ _ h => h.elim) ?_
  rintro _ _ ⟨rfl, hw15⟩
  refine j_w w1 hw15 ?_
  refine j_if_eq (tgt := 37) dJ5_append_c97b9_21 (by decide) (fun c_21_23 => ?_) (fun c_21_23 => ?_)
  · exact absurd c_21_23 (by decide)
  · refine j_iload_n dJ5_append_c97b9_24 rfl ?_
    refine j_iload_n dJ5_append_c97b9_25 rfl ?_
    refine j_aload_n dJ5_append_c97b9_26 rfl rfl ?_
    refine j_getf dJ5_append_c97b9_27 fJ5_15 ga_1 rfl ?_
    refine j_callS dJ5_append_c97b9_30 kJ6_getChars_ba4f3 lJ5_248 stJ6_getChars_ba4f3 (sb_getC hl w1 ρ m_1 (z_gr N (n + z_sz x)) (n + z_sz x) a f_1 _ x a1_1 a2_1 gm_1 a6_1 (Ne.symm a3_1) ga_1 (by omega) hge hN) (Nat.le_of_ble_eq_true rfl) ⟨(by show _ ≤ z_gr N (n + z_sz x) / 16 - N / 16; omega), (by show _ ≤ 2 * (z_gr N (n + z_sz x) - N); omega)⟩ rfl (Nat.le_of_ble_eq_true rfl) rfl rfl (fun _ _ h => h.elim) ?_
    rintro _ w2 ⟨r2, f9_2, rfl, fw2, gm9_2, by9_2, ga9_2⟩
    have hf2 := fw2.2.1 hf1
    refine j_pop dJ5_append_c97b9_33 rfl ?_
    refine j_goto (tgt := 48) dJ5_append_c97b9_34 (by decide) ?_
    refine j_aload_n dJ5_append_c97b9_48 rfl rfl ?_
    refine j_iload_n dJ5_append_c97b9_49 rfl ?_
    refine j_put (w' := _) dJ5_append_c97b9_50 fJ5_79 tJ4_3 ga9_2 ⟨rfl, rfl⟩ rfl ?_
    refine j_seal h1 ?_
    intro w3 u3
    have g3_m := (u3.2.1 _ a3_1).trans gm9_2
    have g3_a := u3.1
    have hf3 := u3.2.2.2 hf2
    refine j_aload_n dJ5_append_c97b9_53 rfl rfl ?_
    refine j_aret dJ5_append_c97b9_54 rfl (Or.inl ⟨_, rfl⟩) rfl ?_ (by show _ ≤ z_gr N (n + z_sz x) / 16 - N / 16; omega) (by show _ ≤ 2 * (z_gr N (n + z_sz x) - N); omega)
    exact ⟨rfl, ((fw1.tr fw2).tr (u3.fw h1 h2)), h1, h2, hge, by omega, hN, m_1, _, ml_1, a1_1, a2_1, a3_1, g3_a, g3_m, by9_2⟩
set_option maxRecDepth 100000 in
set_option maxHeartbeats 8000000 in
theorem sb_apI (hl : l.stackTraces = false) (w : z_W) (ρ a n N : Nat) (x : Int32) (h : z_sb w ρ a n N) (hq : n + z_sz x ≤ 2 * N + 2) (hN : z_gr N (n + z_sz x) ≤ 5000) (hρ : ρ < 64) (hf : z_fn w) : z_Con G l mJ4_append_bf812 17 (z_gr N (n + z_sz x) / 16 - N / 16) (2 * (z_gr N (n + z_sz x) - N)) w [.ref a, .int x] (fun v w9 => v = some (.ref a) ∧ z_fw ρ w w9 ∧ z_sb w9 ρ a (n + z_sz x) (z_gr N (n + z_sz x))) (fun _ _ => False) := by
  obtain ⟨h1, h2, h3, h4, h5, m, f, ml, a1, a2, a3, ga, gm, a6⟩ := id h
  refine z_body hl (by decide) rfl (Nat.le_of_ble_eq_true rfl) ?_
  show z_J G l mJ4_append_bf812 _ 0 [(0, _), (1, _)] [] _ 0 0
  refine j_aload_n dJ4_append_bf812_0 rfl rfl ?_
  refine j_iload_n dJ4_append_bf812_1 rfl ?_
  refine j_callSu (q := (RJ4, TJ4, 4)) dJ4_append_bf812_2 kJ5_append_c97b9 ⟨lJ4_53, (z_w 1978 ((lwg_9 13).trans rfl) (by decide +kernel)), (z_w 594 ((lwt_3_2 9).trans rfl) (by decide +kernel)), inJ5_append_c97b9, (by decide)⟩ ga rfl (sb_apI0 hl w ρ a n N x h hq hN hρ hf) (Nat.le_of_ble_eq_true rfl) ⟨(by show _ ≤ z_gr N (n + z_sz x) / 16 - N / 16; omega), (by show _ ≤ 2 * (z_gr N (n + z_sz x) - N); omega)⟩ rfl (Nat.le_of_ble_eq_true rfl) rfl rfl (fun _ _ h => h.elim) ?_
  rintro _ w1 ⟨rfl, fw1, hs1⟩
  have hf1 := fw1.2.1 hf
  refine j_pop dJ4_append_bf812_5 rfl ?_
  refine j_aload_n dJ4_append_bf812_6 rfl rfl ?_
  refine j_aret dJ4_append_bf812_7 rfl (Or.inl ⟨_, rfl⟩) rfl ?_ (by show _ ≤ z_gr N (n + z_sz x) / 16 - N / 16; omega) (by show _ ≤ 2 * (z_gr N (n + z_sz x) - N); omega)
  exact ⟨rfl, fw1, hs1⟩
theorem z_cst10 {U : State} {i q : Nat} {t : String × Nat × String} (h : z_cst G U) (hi : z_strs[i]? = some t) (hk : z_k G (50 + i) q) : ∃ f, z_vT G .byte q t.2.2.length f U ∧ ∀ j, j < t.2.2.length → ∃ x, f j = .int x ∧ fits .byte (.int x) = true := by
  obtain ⟨f, h1, h2⟩ := h.2.2.2.2.2.2.2.2.2.1 i q t hi hk
  exact ⟨f, h1, fun j hj => ⟨_, (h2 j hj).1, (h2 j hj).2⟩⟩
theorem z_cst10E {U : State} {i q : Nat} {t : String × Nat × String} (h : z_cst G U) (hi : z_strs[i]? = some t) (hk : z_k G (50 + i) q) : ∃ f, z_vT G .byte q t.2.2.length f U ∧ ∀ j, j < t.2.2.length → f j = .int (z_tbc t.2.2) ∧ fits .byte (.int (z_tbc t.2.2)) = true := h.2.2.2.2.2.2.2.2.2.1 i q t hi hk
theorem z_strl {i : Nat} {t : String × Nat × String} (h : z_strs[i]? = some t) : t.2.2.length ≤ 30 := by
  have h1 := (List.all_eq_true.mp (show z_strs.all (fun t => decide (t.2.2.length ≤ 30)) = true by decide +kernel)) t (List.mem_of_getElem? h)
  simpa using h1
set_option maxRecDepth 100000 in
set_option maxHeartbeats 8000000 in
theorem sk_cod (hl : l.stackTraces = false) (w : z_W) (i : Nat) (t : String × Nat × String) (hi9 : z_strs[i]? = some t) (ht9 : t.1 = "LoopdefaultsModel" ∨ t.1 = "LoopdefaultsModel$Hearer") : z_Con G l mJ0_coder_7d493 10 0 0 w [.retAddr (10 + i)] (fun v w9 => v = some (.int 0) ∧ w9 = w) (fun _ _ => False) := by
  refine z_body hl (by decide) rfl (Nat.le_of_ble_eq_true rfl) ?_
  show z_J G l mJ0_coder_7d493 _ 0 [(0, _)] [] _ 0 0
  refine j_gets dJ0_coder_7d493_0 (List.mem_of_getElem? (i := 0) rfl) rfl (z_w 787 ((lwg_4 22).trans rfl) (by decide +kernel)) ?_
  refine j_if_eq (tgt := 13) dJ0_coder_7d493_3 (by decide) (fun c_3_3 => ?_) (fun c_3_3 => ?_)
  · exact absurd c_3_3 (by decide)
  · refine j_aload_n dJ0_coder_7d493_6 rfl rfl ?_
    refine j_getSK (k := 1) dJ0_coder_7d493_7 fJ0_15 hi9 ht9 (by decide) rfl ?_
    refine j_goto (tgt := 14) dJ0_coder_7d493_10 (by decide) ?_
    refine j_iret dJ0_coder_7d493_14 rfl rfl ?_ (Nat.le_of_ble_eq_true rfl) (Nat.le_of_ble_eq_true rfl)
    exact ⟨rfl, rfl⟩
set_option maxRecDepth 100000 in
set_option maxHeartbeats 8000000 in
theorem sk_len (hl : l.stackTraces = false) (w : z_W) (i : Nat) (t : String × Nat × String) (hi9 : z_strs[i]? = some t) (ht9 : t.1 = "LoopdefaultsModel" ∨ t.1 = "LoopdefaultsModel$Hearer") : z_Con G l mJ0_length_8abf5 11 0 0 w [.retAddr (10 + i)] (fun v w9 => v = some (.int (nI t.2.2.length)) ∧ w9 = w) (fun _ _ => False) := by
  refine z_body hl (by decide) rfl (Nat.le_of_ble_eq_true rfl) ?_
  show z_J G l mJ0_length_8abf5 _ 0 [(0, _)] [] _ 0 0
  refine j_aload_n dJ0_length_8abf5_0 rfl rfl ?_
  refine j_getSK (k := 0) dJ0_length_8abf5_1 fJ0_9 hi9 ht9 (by decide) rfl ?_
  refine j_alenK (k := 50 + i) (N := t.2.2.length) dJ0_length_8abf5_4 (fun U q9 h hk9 => by obtain ⟨f9, hf9, -⟩ := z_cst10 h hi9 hk9; exact ⟨f9, hf9⟩) ?_
  refine j_aload_n dJ0_length_8abf5_5 rfl rfl ?_
  refine j_callVK (i := i) dJ0_length_8abf5_6 kJ0_coder_7d493 lJ0_335 inJ0_coder_7d493 (z_w 785 ((lwg_4 20).trans rfl) (by decide +kernel)) hi9 ht9 (sk_cod hl w i t hi9 ht9) (Nat.le_of_ble_eq_true rfl) ⟨(Nat.le_of_ble_eq_true rfl), (Nat.le_of_ble_eq_true rfl)⟩ rfl (Nat.le_of_ble_eq_true rfl) rfl rfl (fun _ _ h => h.elim) ?_
  rintro _ _ ⟨rfl, hw16⟩
  refine j_w w hw16 ?_
  refine j_ishr dJ0_length_8abf5_9 ?_
  refine j_top (congrArg Value.int (sb_shr0 (nI t.2.2.length))) ?_
  refine j_iret dJ0_length_8abf5_10 rfl rfl ?_ (Nat.le_of_ble_eq_true rfl) (Nat.le_of_ble_eq_true rfl)
  exact ⟨rfl, rfl⟩
set_option maxRecDepth 100000 in
set_option maxHeartbeats 8000000 in
theorem sk_get (hl : l.stackTraces = false) (w : z_W) (ρ m N n b : Nat) (f : Nat → Value) (e : z_E) (i : Nat) (t : String × Nat × String) (hi9 : z_strs[i]? = some t) (ht9 : t.1 = "LoopdefaultsModel" ∨ t.1 = "LoopdefaultsModel$Hearer") (hm : 1000 ≤ m) (hm2 : m % 64 = ρ) (gm : z_g w m = some (.inl (2, N, f))) (hby : z_by f) (hb : b ≠ m) (gb : z_g w b = some e) (hp : n + t.2.2.length ≤ N) (hN : N ≤ 5000) : z_Con G l mJ0_getBytes_840e7 12 0 0 w [.retAddr (10 + i), .ref m, .int (nI n), .int 0] (fun v w9 => v = none ∧ z_fw ρ w w9 ∧ ∃ g, z_g w9 m = some (.inl (2, N, g)) ∧ z_by g ∧ z_g w9 b = some e) (fun _ _ => False) := by
  have hl9 := z_strl hi9
  have hlk : (Int32.ofNat t.2.2.length).toNatClampNeg = t.2.2.length := z_cla (n := t.2.2.length) (by omega)
  refine z_body hl (by decide) rfl (Nat.le_of_ble_eq_true rfl) ?_
  show z_J G l mJ0_getBytes_840e7 _ 0 [(0, _), (1, _), (2, _), (3, _)] [] _ 0 0
  refine j_aload_n dJ0_getBytes_840e7_0 rfl rfl ?_
  refine j_callVK (i := i) dJ0_getBytes_840e7_1 kJ0_coder_7d493 lJ0_335 inJ0_coder_7d493 (z_w 785 ((lwg_4 20).trans rfl) (by decide +kernel)) hi9 ht9 (sk_cod hl w i t hi9 ht9) (Nat.le_of_ble_eq_true rfl) ⟨(Nat.le_of_ble_eq_true rfl), (Nat.le_of_ble_eq_true rfl)⟩ rfl (Nat.le_of_ble_eq_true rfl) rfl rfl (fun _ _ h => h.elim) ?_
  rintro _ _ ⟨rfl, hw17⟩
  refine j_w w hw17 ?_
  refine j_iload_n dJ0_getBytes_840e7_4 rfl ?_
  refine j_icmp_ne (tgt := 28) dJ0_getBytes_840e7_5 (by decide) (fun c_5_7 => ?_) (fun c_5_7 => ?_)
  · exact absurd rfl c_5_7
  · refine j_aload_n dJ0_getBytes_840e7_8 rfl rfl ?_
    refine j_getSK (k := 0) dJ0_getBytes_840e7_9 fJ0_9 hi9 ht9 (by decide) rfl ?_
    refine j_iconst (v := 0) dJ0_getBytes_840e7_12 (by decide) ?_
    refine j_aload_n dJ0_getBytes_840e7_13 rfl rfl ?_
    refine j_iload_n dJ0_getBytes_840e7_14 rfl ?_
    refine j_iload_n dJ0_getBytes_840e7_15 rfl ?_
    refine j_ishl dJ0_getBytes_840e7_16 ?_
    refine j_top (congrArg Value.int (sb_shl0 (nI n))) ?_
    refine j_aload_n dJ0_getBytes_840e7_17 rfl rfl ?_
    refine j_getSK (k := 0) dJ0_getBytes_840e7_18 fJ0_9 hi9 ht9 (by decide) rfl ?_
    refine j_alenK (k := 50 + i) (N := t.2.2.length) dJ0_getBytes_840e7_21 (fun U q9 h hk9 => by obtain ⟨f9, hf9, -⟩ := z_cst10 h hi9 hk9; exact ⟨f9, hf9⟩) ?_
    refine j_acopyK (k := 50 + i) (n0 := t.2.2.length) (kd := 2) (ty := .byte) dJ0_getBytes_840e7_22 (z_w 801 ((lwt_4_1 6).trans rfl) (by decide +kernel)) ac_n ac_s ac_i (fun U q9 h hk9 => z_cst10 h hi9 hk9) gm rfl (by decide) (nI_pos (by omega)) (nI_pos (by omega)) (by rw [hlk]; show 0 + _ ≤ _; omega) (by rw [z_cla (by omega), hlk]; omega) (Nat.le_of_ble_eq_true rfl) (Nat.le_of_ble_eq_true rfl) ?_
    intro f9 hf9
    refine j_seal hm ?_
    intro w1 u1
    have g1_b := (u1.2.1 _ hb).trans gb
    have g1_m := u1.1
    refine j_goto (tgt := 43) dJ0_getBytes_840e7_25 (by decide) ?_
    refine j_vret dJ0_getBytes_840e7_43 rfl ?_ (Nat.le_of_ble_eq_true rfl) (Nat.le_of_ble_eq_true rfl)
    exact ⟨rfl, (u1.fw hm hm2), _, g1_m, z_byC (fun j _ h7 => hf9 j (by rw [hlk] at h7; have h8 : j < 0 + t.2.2.length := h7; omega)) hby, g1_b⟩
set_option maxRecDepth 100000 in
set_option maxHeartbeats 8000000 in
theorem sk_inf (hl : l.stackTraces = false) (w : z_W) (a : Nat) (v0 : Value) (ml c : Int32) (i : Nat) (t : String × Nat × String) (hi9 : z_strs[i]? = some t) (ht9 : t.1 = "LoopdefaultsModel" ∨ t.1 = "LoopdefaultsModel$Hearer") (ga : z_g w a = some (.inr (1, [v0, .int 0, .int ml, .int c]))) : z_Con G l mJ5_inflateIfNeededFor_a7421 12 0 0 w [.ref a, .retAddr (10 + i)] (fun v w9 => v = none ∧ w9 = w) (fun _ _ => False) := by
  refine z_body hl (by decide) rfl (Nat.le_of_ble_eq_true rfl) ?_
  show z_J G l mJ5_inflateIfNeededFor_a7421 _ 0 [(0, _), (1, _)] [] _ 0 0
  refine j_gets dJ5_inflateIfNeededFor_a7421_0 (List.mem_of_getElem? (i := 0) rfl) rfl (z_w 573 ((lwt_3_1 18).trans rfl) (by decide +kernel)) ?_
  refine j_if_eq (tgt := 21) dJ5_inflateIfNeededFor_a7421_3 (by decide) (fun c_3_3 => ?_) (fun c_3_3 => ?_)
  · exact absurd c_3_3 (by decide)
  · refine j_aload_n dJ5_inflateIfNeededFor_a7421_6 rfl rfl ?_
    refine j_getf dJ5_inflateIfNeededFor_a7421_7 fJ5_22 ga rfl ?_
    refine j_aload_n dJ5_inflateIfNeededFor_a7421_10 rfl rfl ?_
    refine j_callVK (i := i) dJ5_inflateIfNeededFor_a7421_11 kJ0_coder_7d493 lJ5_40 inJ0_coder_7d493 (z_w 785 ((lwg_4 20).trans rfl) (by decide +kernel)) hi9 ht9 (sk_cod hl w i t hi9 ht9) (Nat.le_of_ble_eq_true rfl) ⟨(Nat.le_of_ble_eq_true rfl), (Nat.le_of_ble_eq_true rfl)⟩ rfl (Nat.le_of_ble_eq_true rfl) rfl rfl (fun _ _ h => h.elim) ?_
    rintro _ _ ⟨rfl, hw18⟩
    refine j_w w hw18 ?_
    refine j_icmp_eq (tgt := 21) dJ5_inflateIfNeededFor_a7421_14 (by decide) (fun c_14_11 => ?_) (fun c_14_11 => ?_)
    · refine j_vret dJ5_inflateIfNeededFor_a7421_21 rfl ?_ (Nat.le_of_ble_eq_true rfl) (Nat.le_of_ble_eq_true rfl)
      exact ⟨rfl, rfl⟩
    · exact absurd rfl c_14_11
set_option maxRecDepth 100000 in
set_option maxHeartbeats 8000000 in
theorem sk_put (hl : l.stackTraces = false) (w : z_W) (ρ a m N n : Nat) (f : Nat → Value) (ml c : Int32) (i : Nat) (t : String × Nat × String) (hi9 : z_strs[i]? = some t) (ht9 : t.1 = "LoopdefaultsModel" ∨ t.1 = "LoopdefaultsModel$Hearer") (a1 : 1000 ≤ m) (a2 : m % 64 = ρ) (a3 : m ≠ a) (ga : z_g w a = some (.inr (1, [.ref m, .int 0, .int ml, .int c]))) (gm : z_g w m = some (.inl (2, N, f))) (hby : z_by f) (hp : n + t.2.2.length ≤ N) (hN : N ≤ 5000) : z_Con G l mJ5_putStringAt_47b60 14 0 0 w [.ref a, .int (nI n), .retAddr (10 + i)] (fun v w9 => v = none ∧ z_fw ρ w w9 ∧ ∃ g, z_g w9 m = some (.inl (2, N, g)) ∧ z_by g ∧ z_g w9 a = some (.inr (1, [.ref m, .int 0, .int ml, .int c]))) (fun _ _ => False) := by
  refine z_body hl (by decide) rfl (Nat.le_of_ble_eq_true rfl) ?_
  show z_J G l mJ5_putStringAt_47b60 _ 0 [(0, _), (1, _), (2, _)] [] _ 0 0
  refine j_aload_n dJ5_putStringAt_47b60_0 rfl rfl ?_
  refine j_aload_n dJ5_putStringAt_47b60_1 rfl rfl ?_
  refine j_callP (x := yJ5_isLatin1_aae02) (q := (RJ4, TJ4, 4)) dJ5_putStringAt_47b60_2 kJ5_inflateIfNeededFor_a7421 lJ5_397 inJ5_inflateIfNeededFor_a7421 ⟨(z_w 640 ((lwt_3_3 25).trans rfl) (by decide +kernel)), rfl, (z_wn 793 ((lwg_4 28).trans rfl) (by decide +kernel))⟩ ga rfl (sk_inf hl w a _ _ _ i t hi9 ht9 ga) (Nat.le_of_ble_eq_true rfl) ⟨(Nat.le_of_ble_eq_true rfl), (Nat.le_of_ble_eq_true rfl)⟩ rfl (Nat.le_of_ble_eq_true rfl) rfl rfl (fun _ _ h => h.elim) ?_
  rintro _ _ ⟨rfl, hw19⟩
  refine j_w w hw19 ?_
  refine j_aload_n dJ5_putStringAt_47b60_5 rfl rfl ?_
  refine j_aload_n dJ5_putStringAt_47b60_6 rfl rfl ?_
  refine j_getf dJ5_putStringAt_47b60_7 fJ5_15 ga rfl ?_
  refine j_iload_n dJ5_putStringAt_47b60_10 rfl ?_
  refine j_aload_n dJ5_putStringAt_47b60_11 rfl rfl ?_
  refine j_getf dJ5_putStringAt_47b60_12 fJ5_22 ga rfl ?_
  refine j_callVK (i := i) dJ5_putStringAt_47b60_15 kJ0_getBytes_840e7 lJ5_399 inJ0_getBytes_840e7 (z_w 799 ((lwt_4_1 4).trans rfl) (by decide +kernel)) hi9 ht9 (sk_get hl w ρ m N n a f _ i t hi9 ht9 a1 a2 gm hby (Ne.symm a3) ga hp hN) (Nat.le_of_ble_eq_true rfl) ⟨(Nat.le_of_ble_eq_true rfl), (Nat.le_of_ble_eq_true rfl)⟩ rfl (Nat.le_of_ble_eq_true rfl) rfl rfl (fun _ _ h => h.elim) ?_
  rintro _ w1 ⟨rfl, fw1, g9_1, gm9_1, by9_1, ga9_1⟩
  refine j_vret dJ5_putStringAt_47b60_18 rfl ?_ (Nat.le_of_ble_eq_true rfl) (Nat.le_of_ble_eq_true rfl)
  exact ⟨rfl, fw1, _, gm9_1, by9_1, ga9_1⟩
set_option maxRecDepth 100000 in
set_option maxHeartbeats 8000000 in
theorem sb_apS0 (hl : l.stackTraces = false) (w : z_W) (ρ a n N : Nat) (i : Nat) (t : String × Nat × String) (hi9 : z_strs[i]? = some t) (ht9 : t.1 = "LoopdefaultsModel" ∨ t.1 = "LoopdefaultsModel$Hearer") (h : z_sb w ρ a n N) (hq : n + t.2.2.length ≤ 2 * N + 2) (hN : z_gr N (n + t.2.2.length) ≤ 5000) (hρ : ρ < 64) (hf : z_fn w) : z_Con G l mJ5_append_cf1ce 16 (z_gr N (n + t.2.2.length) / 16 - N / 16) (2 * (z_gr N (n + t.2.2.length) - N)) w [.ref a, .retAddr (10 + i)] (fun v w9 => v = some (.ref a) ∧ z_fw ρ w w9 ∧ z_sb w9 ρ a (n + t.2.2.length) (z_gr N (n + t.2.2.length))) (fun _ _ => False) := by
  obtain ⟨h1, h2, h3, h4, h5, m, f, ml, a1, a2, a3, ga, gm, a6⟩ := id h
  have hge := z_gr_ge hq
  have hle := z_gr_le (N := N) (m := n + t.2.2.length)
  refine z_body hl (by decide) rfl (Nat.le_of_ble_eq_true rfl) ?_
  show z_J G l mJ5_append_cf1ce _ 0 [(0, _), (1, _)] [] _ 0 0
  refine j_aload_n dJ5_append_cf1ce_0 rfl rfl ?_
  refine j_ifnn (tgt := 9) dJ5_append_cf1ce_1 (by decide) rfl (by simp) ?_
  refine j_aload_n dJ5_append_cf1ce_9 rfl rfl ?_
  refine j_callVK (i := i) dJ5_append_cf1ce_10 kJ0_length_8abf5 lJ5_32 inJ0_length_8abf5 (z_w 781 ((lwg_4 16).trans rfl) (by decide +kernel)) hi9 ht9 (sk_len hl w i t hi9 ht9) (Nat.le_of_ble_eq_true rfl) ⟨(by show _ ≤ z_gr N (n + t.2.2.length) / 16 - N / 16; omega), (by show _ ≤ 2 * (z_gr N (n + t.2.2.length) - N); omega)⟩ rfl (Nat.le_of_ble_eq_true rfl) rfl rfl (fun _ _ h => h.elim) ?_
  rintro _ _ ⟨rfl, hw20⟩
  refine j_w w hw20 ?_
  refine j_istore_n (lo' := [(2, _), (0, _), (1, _)]) dJ5_append_cf1ce_13 (by decide) rfl ?_
  refine j_aload_n dJ5_append_cf1ce_14 rfl rfl ?_
  refine j_aload_n dJ5_append_cf1ce_15 rfl rfl ?_
  refine j_getf dJ5_append_cf1ce_16 fJ5_79 ga rfl ?_
  refine j_iload_n dJ5_append_cf1ce_19 rfl ?_
  refine j_iadd dJ5_append_cf1ce_20 ?_
  refine j_top (congrArg Value.int (nI_add n t.2.2.length)) ?_
  refine j_callP (x := yJ5_isLatin1_aae02) (q := (RJ4, TJ4, 4)) dJ5_append_cf1ce_21 kJ5_ensureCapacityInternal_d00df lJ5_100 inJ5_ensureCapacityInternal_d00df ⟨(z_w 640 ((lwt_3_3 25).trans rfl) (by decide +kernel)), rfl, (z_wn 603 ((lwt_3_2 18).trans rfl) (by decide +kernel))⟩ ga rfl (sb_ens hl w ρ a n N (n + t.2.2.length) h (by omega) (by omega) hρ hf) (Nat.le_of_ble_eq_true rfl) ⟨(by show _ ≤ z_gr N (n + t.2.2.length) / 16 - N / 16; omega), (by show _ ≤ 2 * (z_gr N (n + t.2.2.length) - N); omega)⟩ rfl (Nat.le_of_ble_eq_true rfl) rfl rfl (fun _ _ h => h.elim) ?_
  rintro _ w1 ⟨rfl, fw1, hs1⟩
  have hf1 := fw1.2.1 hf
  obtain ⟨-, -, h3_1, h4_1, h5_1, m_1, f_1, ml_1, a1_1, a2_1, a3_1, ga_1, gm_1, a6_1⟩ := id hs1
  refine j_aload_n dJ5_append_cf1ce_24 rfl rfl ?_
  refine j_aload_n dJ5_append_cf1ce_25 rfl rfl ?_
  refine j_getf dJ5_append_cf1ce_26 fJ5_79 ga_1 rfl ?_
  refine j_aload_n dJ5_append_cf1ce_29 rfl rfl ?_
  refine j_callP (x := yJ5_isLatin1_aae02) (q := (RJ4, TJ4, 4)) dJ5_append_cf1ce_30 kJ5_putStringAt_47b60 lJ5_208 inJ5_putStringAt_47b60 ⟨(z_w 640 ((lwt_3_3 25).trans rfl) (by decide +kernel)), rfl, (z_wn 789 ((lwg_4 24).trans rfl) (by decide +kernel))⟩ ga_1 rfl (sk_put hl w1 ρ a m_1 (z_gr N (n + t.2.2.length)) n f_1 ml_1 (nI n) i t hi9 ht9 a1_1 a2_1 a3_1 ga_1 gm_1 a6_1 hge hN) (Nat.le_of_ble_eq_true rfl) ⟨(by show _ ≤ z_gr N (n + t.2.2.length) / 16 - N / 16; omega), (by show _ ≤ 2 * (z_gr N (n + t.2.2.length) - N); omega)⟩ rfl (Nat.le_of_ble_eq_true rfl) rfl rfl (fun _ _ h => h.elim) ?_
  rintro _ w2 ⟨rfl, fw2, g9_2, gm9_2, by9_2, ga9_2⟩
  have hf2 := fw2.2.1 hf1
  refine j_aload_n dJ5_append_cf1ce_33 rfl rfl ?_
  refine j_dup dJ5_append_cf1ce_34 rfl ?_
  refine j_getf dJ5_append_cf1ce_35 fJ5_79 ga9_2 rfl ?_
  refine j_iload_n dJ5_append_cf1ce_38 rfl ?_
  refine j_iadd dJ5_append_cf1ce_39 ?_
  refine j_top (congrArg Value.int (nI_add n t.2.2.length)) ?_
  refine j_put (w' := _) dJ5_append_cf1ce_40 fJ5_79 tJ4_3 ga9_2 ⟨rfl, rfl⟩ rfl ?_
  refine j_seal h1 ?_
  intro w3 u3
  have g3_m := (u3.2.1 _ a3_1).trans gm9_2
  have g3_a := u3.1
  have hf3 := u3.2.2.2 hf2
  refine j_aload_n dJ5_append_cf1ce_43 rfl rfl ?_
  refine j_aret dJ5_append_cf1ce_44 rfl (Or.inl ⟨_, rfl⟩) rfl ?_ (by show _ ≤ z_gr N (n + t.2.2.length) / 16 - N / 16; omega) (by show _ ≤ 2 * (z_gr N (n + t.2.2.length) - N); omega)
  exact ⟨rfl, ((fw1.tr fw2).tr (u3.fw h1 h2)), h1, h2, hge, by omega, hN, m_1, _, ml_1, a1_1, a2_1, a3_1, g3_a, g3_m, by9_2⟩
set_option maxRecDepth 100000 in
set_option maxHeartbeats 8000000 in
theorem sb_apS (hl : l.stackTraces = false) (w : z_W) (ρ a n N : Nat) (i : Nat) (t : String × Nat × String) (hi9 : z_strs[i]? = some t) (ht9 : t.1 = "LoopdefaultsModel" ∨ t.1 = "LoopdefaultsModel$Hearer") (h : z_sb w ρ a n N) (hq : n + t.2.2.length ≤ 2 * N + 2) (hN : z_gr N (n + t.2.2.length) ≤ 5000) (hρ : ρ < 64) (hf : z_fn w) : z_Con G l mJ4_append_15ec4 17 (z_gr N (n + t.2.2.length) / 16 - N / 16) (2 * (z_gr N (n + t.2.2.length) - N)) w [.ref a, .retAddr (10 + i)] (fun v w9 => v = some (.ref a) ∧ z_fw ρ w w9 ∧ z_sb w9 ρ a (n + t.2.2.length) (z_gr N (n + t.2.2.length))) (fun _ _ => False) := by
  obtain ⟨h1, h2, h3, h4, h5, m, f, ml, a1, a2, a3, ga, gm, a6⟩ := id h
  refine z_body hl (by decide) rfl (Nat.le_of_ble_eq_true rfl) ?_
  show z_J G l mJ4_append_15ec4 _ 0 [(0, _), (1, _)] [] _ 0 0
  refine j_aload_n dJ4_append_15ec4_0 rfl rfl ?_
  refine j_aload_n dJ4_append_15ec4_1 rfl rfl ?_
  refine j_callSu (q := (RJ4, TJ4, 4)) dJ4_append_15ec4_2 kJ5_append_cf1ce ⟨lJ4_29, (z_w 1979 ((lwg_9 14).trans rfl) (by decide +kernel)), (z_w 594 ((lwt_3_2 9).trans rfl) (by decide +kernel)), inJ5_append_cf1ce, (by decide)⟩ ga rfl (sb_apS0 hl w ρ a n N i t hi9 ht9 h hq hN hρ hf) (Nat.le_of_ble_eq_true rfl) ⟨(by show _ ≤ z_gr N (n + t.2.2.length) / 16 - N / 16; omega), (by show _ ≤ 2 * (z_gr N (n + t.2.2.length) - N); omega)⟩ rfl (Nat.le_of_ble_eq_true rfl) rfl rfl (fun _ _ h => h.elim) ?_
  rintro _ w1 ⟨rfl, fw1, hs1⟩
  have hf1 := fw1.2.1 hf
  refine j_pop dJ4_append_15ec4_5 rfl ?_
  refine j_aload_n dJ4_append_15ec4_6 rfl rfl ?_
  refine j_aret dJ4_append_15ec4_7 rfl (Or.inl ⟨_, rfl⟩) rfl ?_ (by show _ ≤ z_gr N (n + t.2.2.length) / 16 - N / 16; omega) (by show _ ≤ 2 * (z_gr N (n + t.2.2.length) - N); omega)
  exact ⟨rfl, fw1, hs1⟩
def z_tx (w : z_W) (ρ r n : Nat) : Prop := 1000 ≤ r ∧ r % 64 = ρ ∧ ∃ b f, 1000 ≤ b ∧ b % 64 = ρ ∧ b ≠ r ∧ z_g w r = some (.inr (0, [.ref b, .int 0, .int 0, .int 0])) ∧ z_g w b = some (.inl (2, n, f))
set_option maxRecDepth 100000 in
set_option maxHeartbeats 8000000 in
theorem sb_val (hl : l.stackTraces = false) (w : z_W) (a m : Nat) (ml c : Int32) (ga : z_g w a = some (.inr (1, [.ref m, .int 0, .int ml, .int c]))) : z_Con G l mJ5_getValue_6d5f1 10 0 0 w [.ref a] (fun v w9 => v = some (.ref m) ∧ w9 = w) (fun _ _ => False) := by
  refine z_body hl (by decide) rfl (Nat.le_of_ble_eq_true rfl) ?_
  show z_J G l mJ5_getValue_6d5f1 _ 0 [(0, _)] [] _ 0 0
  refine j_aload_n dJ5_getValue_6d5f1_0 rfl rfl ?_
  refine j_getf dJ5_getValue_6d5f1_1 fJ5_15 ga rfl ?_
  refine j_aret dJ5_getValue_6d5f1_4 rfl (Or.inr ⟨_, rfl⟩) rfl ?_ (Nat.le_of_ble_eq_true rfl) (Nat.le_of_ble_eq_true rfl)
  exact ⟨rfl, rfl⟩
set_option maxRecDepth 100000 in
set_option maxHeartbeats 8000000 in
theorem sb_chkL (hl : l.stackTraces = false) (w : z_W) (x z : Int32) (hxz : x ≤ z) : z_Con G l mJ7_checkLength_df160 10 0 0 w [.int x, .int z] (fun v w9 => v = none ∧ w9 = w) (fun _ _ => False) := by
  refine z_body hl (by decide) rfl (Nat.le_of_ble_eq_true rfl) ?_
  show z_J G l mJ7_checkLength_df160 _ 0 [(0, _), (1, _)] [] _ 0 0
  refine j_iload_n dJ7_checkLength_df160_0 rfl ?_
  refine j_iload_n dJ7_checkLength_df160_1 rfl ?_
  refine j_icmp_ge (tgt := 37) dJ7_checkLength_df160_2 (by decide) (fun c_2_4 => ?_) (fun c_2_4 => ?_)
  · refine j_vret dJ7_checkLength_df160_37 rfl ?_ (Nat.le_of_ble_eq_true rfl) (Nat.le_of_ble_eq_true rfl)
    exact ⟨rfl, rfl⟩
  · exact absurd hxz c_2_4
set_option maxRecDepth 100000 in
set_option maxHeartbeats 8000000 in
theorem sb_cpRB (hl : l.stackTraces = false) (w : z_W) (ρ m N q : Nat) (f : Nat → Value) (hρ : ρ < 64) (hf : z_fn w) (gm : z_g w m = some (.inl (2, N, f))) (hby : z_by f) (hq : q ≤ N) (hN : N ≤ 5000) : z_Con G l mJ7_copyOfRangeByte_39247 11 1 q w [.ref m, .int 0, .int (nI q)] (fun v w9 => ∃ (m9 : Nat) (g : Nat → Value), v = some (.ref m9) ∧ z_fw ρ w w9 ∧ 1000 ≤ m9 ∧ m9 % 64 = ρ ∧ (∀ k e, z_g w k = some e → k ≠ m9) ∧ z_g w9 m9 = some (.inl (2, q, g)) ∧ (∀ k e, z_g w k = some e → z_g w9 k = some e)) (fun _ _ => False) := by
  refine z_body hl (by decide) rfl (Nat.le_of_ble_eq_true rfl) ?_
  show z_J G l mJ7_copyOfRangeByte_39247 _ 0 [(0, _), (1, _), (2, _)] [] _ 0 0
  refine j_iload_n dJ7_copyOfRangeByte_39247_0 rfl ?_
  refine j_iload_n dJ7_copyOfRangeByte_39247_1 rfl ?_
  refine j_callS dJ7_copyOfRangeByte_39247_2 kJ7_checkLength_df160 lJ7_343 stJ7_checkLength_df160 (sb_chkL hl w _ _ (nI_leI (a := 0) (b := q) (by omega) (by omega) |>.mpr (Nat.zero_le _))) (Nat.le_of_ble_eq_true rfl) ⟨(Nat.le_of_ble_eq_true rfl), (by show _ ≤ q; omega)⟩ rfl (Nat.le_of_ble_eq_true rfl) rfl rfl (fun _ _ h => h.elim) ?_
  rintro _ _ ⟨rfl, hw21⟩
  refine j_w w hw21 ?_
  refine j_iload_n dJ7_copyOfRangeByte_39247_5 rfl ?_
  refine j_iload_n dJ7_copyOfRangeByte_39247_6 rfl ?_
  refine j_isub dJ7_copyOfRangeByte_39247_7 ?_
  refine j_top (congrArg Value.int (show nI q - 0 = nI q from pk_sub (a := q) (b := 0) (Nat.zero_le _))) ?_
  refine j_istore_n (lo' := [(3, _), (0, _), (1, _), (2, _)]) dJ7_copyOfRangeByte_39247_8 (by decide) rfl ?_
  refine j_iload_n dJ7_copyOfRangeByte_39247_9 rfl ?_
  obtain ⟨x1, hx1a, hx1b, hx1c⟩ := z_fresh (ρ) hρ hf
  have n_m_x1 := z_neF hx1c gm
  refine j_newa (kd := 2) (N := q) (w' := _) (n := x1) dJ7_copyOfRangeByte_39247_10 rfl rfl arc_byte ⟨rfl, fun _ _ h => h⟩ (nI_pos (by omega)) (z_cla (by omega)) (by show q * 1 ≤ _; omega) rfl (z_alW hx1c hx1a) (Nat.le_of_ble_eq_true rfl) (by show _ ≤ q; omega) ?_
  refine j_seal hx1a ?_
  intro w1 u1
  have g1_m := (u1.2.1 _ n_m_x1).trans gm
  have g1_x1 := u1.1
  have hf1 := u1.2.2.2 hf
  refine j_astore (lo' := [(4, _), (3, _), (0, _), (1, _), (2, _)]) dJ7_copyOfRangeByte_39247_12 rfl (by decide) rfl ?_
  refine j_aload_n dJ7_copyOfRangeByte_39247_14 rfl rfl ?_
  refine j_iload_n dJ7_copyOfRangeByte_39247_15 rfl ?_
  refine j_aload dJ7_copyOfRangeByte_39247_16 rfl rfl ?_
  refine j_iconst (v := 0) dJ7_copyOfRangeByte_39247_18 (by decide) ?_
  refine j_aload_n dJ7_copyOfRangeByte_39247_19 rfl rfl ?_
  refine j_alen dJ7_copyOfRangeByte_39247_20 g1_m rfl rfl ?_
  refine j_iload_n dJ7_copyOfRangeByte_39247_21 rfl ?_
  refine j_isub dJ7_copyOfRangeByte_39247_22 ?_
  refine j_top (congrArg Value.int (show nI N - 0 = nI N from pk_sub (a := N) (b := 0) (Nat.zero_le _))) ?_
  refine j_iload_n dJ7_copyOfRangeByte_39247_23 rfl ?_
  refine j_mmin dJ7_copyOfRangeByte_39247_24 lJ7_304 (Nat.le_of_ble_eq_true rfl) (Nat.le_of_ble_eq_true rfl) (Nat.le_of_ble_eq_true rfl) (by show _ ≤ q; omega) ?_
  refine j_top (congrArg Value.int (nI_mn (a := N) (b := q) (by omega) (by omega))) ?_
  refine j_acopy (w' := _) dJ7_copyOfRangeByte_39247_27 lJ7_150 ac_n ac_s ac_i g1_m g1_x1 rfl (by decide) (by decide) (nI_pos (by omega)) (by rw [z_cla (by omega)]; show 0 + _ ≤ N; omega) (by rw [z_cla (by omega)]; show 0 + _ ≤ q; omega) (fun i _ => Or.inl (hby _)) (Nat.le_of_ble_eq_true rfl) (Nat.le_of_ble_eq_true rfl) rfl ?_
  refine j_seal hx1a ?_
  intro w2 u2
  have g2_m := (u2.2.1 _ n_m_x1).trans g1_m
  have g2_x1 := u2.1
  have hf2 := u2.2.2.2 hf1
  refine j_aload dJ7_copyOfRangeByte_39247_30 rfl rfl ?_
  refine j_aret dJ7_copyOfRangeByte_39247_32 rfl (Or.inr ⟨_, rfl⟩) rfl ?_ (Nat.le_of_ble_eq_true rfl) (by show _ ≤ q; omega)
  exact ⟨x1, _, rfl, ((u1.fw hx1a hx1b).tr (u2.fw hx1a hx1b)), hx1a, hx1b, fun k e hk => z_neF hx1c hk, g2_x1, fun k e hk => (u2.2.1 k (z_neF hx1c hk)).trans ((u1.2.1 k (z_neF hx1c hk)).trans hk)⟩
theorem z_isB {w : z_W} {p n : Nat} {f : Nat → Value} (h : z_g w p = some (.inl (2, n, f))) : z_is w (.ref p) "[B" := Or.inr ⟨_, _, h, rfl, rfl⟩
set_option maxRecDepth 100000 in
set_option maxHeartbeats 8000000 in
theorem sb_cpR (hl : l.stackTraces = false) (w : z_W) (ρ m N q : Nat) (f : Nat → Value) (hρ : ρ < 64) (hf : z_fn w) (gm : z_g w m = some (.inl (2, N, f))) (hby : z_by f) (hq : q ≤ N) (hN : N ≤ 5000) : z_Con G l mJ7_copyOfRange_39247 12 1 q w [.ref m, .int 0, .int (nI q)] (fun v w9 => ∃ (m9 : Nat) (g : Nat → Value), v = some (.ref m9) ∧ z_fw ρ w w9 ∧ 1000 ≤ m9 ∧ m9 % 64 = ρ ∧ (∀ k e, z_g w k = some e → k ≠ m9) ∧ z_g w9 m9 = some (.inl (2, q, g)) ∧ (∀ k e, z_g w k = some e → z_g w9 k = some e)) (fun _ _ => False) := by
  refine z_body hl (by decide) rfl (Nat.le_of_ble_eq_true rfl) ?_
  show z_J G l mJ7_copyOfRange_39247 _ 0 [(0, _), (1, _), (2, _)] [] _ 0 0
  refine j_iload_n dJ7_copyOfRange_39247_0 rfl ?_
  refine j_if_ne (tgt := 10) dJ7_copyOfRange_39247_1 (by decide) (fun c_1_3 => ?_) (fun c_1_3 => ?_)
  · exact absurd rfl c_1_3
  · refine j_iload_n dJ7_copyOfRange_39247_4 rfl ?_
    refine j_aload_n dJ7_copyOfRange_39247_5 rfl rfl ?_
    refine j_alen dJ7_copyOfRange_39247_6 gm rfl rfl ?_
    refine j_icmp_eq (tgt := 17) dJ7_copyOfRange_39247_7 (by decide) (fun c_7_8 => ?_) (fun c_7_8 => ?_)
    · have hqN : q = N := nI_inj c_7_8 (by omega) (by omega)
      refine j_aload_n dJ7_copyOfRange_39247_17 rfl rfl ?_
      obtain ⟨x1, hx1a, hx1b, hx1c⟩ := z_fresh (ρ) hρ hf
      have n_m_x1 := z_neF hx1c gm
      refine j_clone (w' := _) (n := x1) dJ7_copyOfRange_39247_18 (z_w 624 ((lwt_3_3 9).trans rfl) (by decide +kernel)) (z_w 625 ((lwt_3_3 10).trans rfl) (by decide +kernel)) (z_w 626 ((lwt_3_3 11).trans rfl) (by decide +kernel)) (z_w 627 ((lwt_3_3 12).trans rfl) (by decide +kernel)) (z_w 628 ((lwt_3_3 13).trans rfl) (by decide +kernel)) (z_wn 629 ((lwt_3_3 14).trans rfl) (by decide +kernel)) gm hby (z_alW hx1c hx1a) (Nat.le_of_ble_eq_true rfl) (Nat.le_of_ble_eq_true rfl) (Nat.le_of_ble_eq_true rfl) (by show _ ≤ q; omega) ?_
      refine j_seal hx1a ?_
      intro w1 u1
      have g1_m := (u1.2.1 _ n_m_x1).trans gm
      have g1_x1 := u1.1
      have hf1 := u1.2.2.2 hf
      refine j_castS dJ7_copyOfRange_39247_21 (z_w 630 ((lwt_3_3 15).trans rfl) (by decide +kernel)) (z_isB g1_x1) ?_
      refine j_aret dJ7_copyOfRange_39247_24 rfl (Or.inr ⟨_, rfl⟩) rfl ?_ (Nat.le_of_ble_eq_true rfl) (by show _ ≤ q; omega)
      exact ⟨x1, _, rfl, (u1.fw hx1a hx1b), hx1a, hx1b, fun k e hk => z_neF hx1c hk, hqN ▸ g1_x1, fun k e hk => (u1.2.1 k (z_neF hx1c hk)).trans hk⟩
    · refine j_aload_n dJ7_copyOfRange_39247_10 rfl rfl ?_
      refine j_iload_n dJ7_copyOfRange_39247_11 rfl ?_
      refine j_iload_n dJ7_copyOfRange_39247_12 rfl ?_
      refine j_callS dJ7_copyOfRange_39247_13 kJ7_copyOfRangeByte_39247 lJ7_339 stJ7_copyOfRangeByte_39247 (sb_cpRB hl w ρ m N q f hρ hf gm hby hq hN) (Nat.le_of_ble_eq_true rfl) ⟨(Nat.le_of_ble_eq_true rfl), (by show _ ≤ q; omega)⟩ rfl (Nat.le_of_ble_eq_true rfl) rfl rfl (fun _ _ h => h.elim) ?_
      rintro _ w2 ⟨m9, g9, rfl, fw2, c1, c2, c3, c4, c5⟩
      have hf2 := fw2.2.1 hf
      refine j_aret dJ7_copyOfRange_39247_16 rfl (Or.inr ⟨_, rfl⟩) rfl ?_ (Nat.le_of_ble_eq_true rfl) (by show _ ≤ q; omega)
      exact ⟨m9, g9, rfl, fw2, c1, c2, c3, c4, c5⟩
set_option maxRecDepth 100000 in
set_option maxHeartbeats 8000000 in
theorem sb_str0 (hl : l.stackTraces = false) (w : z_W) (ρ σ a n N r : Nat) (h : z_sb w σ a n N) (hσ : σ ≠ ρ) (r1 : 1000 ≤ r) (r2 : r % 64 = ρ) (gr : z_g w r = some (.inr (0, [.null, .int 0, .int 0, .int 0]))) (hρ : ρ < 64) (hf : z_fn w) : z_Con G l mJ0_init_db425 13 1 n w [.ref r, .ref a, .null] (fun v w9 => v = none ∧ z_fw ρ w w9 ∧ z_tx w9 ρ r n) (fun _ _ => False) := by
  obtain ⟨h1, h2, h3, h4, h5, m, f, ml, a1, a2, a3, ga, gm, a6⟩ := id h
  refine z_body hl (by decide) rfl (Nat.le_of_ble_eq_true rfl) ?_
  show z_J G l mJ0_init_db425 _ 0 [(0, _), (1, _), (2, _)] [] _ 0 0
  refine j_aload_n dJ0_init_db425_0 rfl rfl ?_
  refine j_objI dJ0_init_db425_1 oJ0_1 z_oi1 z_oi2 (Nat.le_of_ble_eq_true rfl) (Nat.le_of_ble_eq_true rfl) ?_
  refine j_aload_n dJ0_init_db425_4 rfl rfl ?_
  refine j_callU (q := (RJ4, TJ4, 4)) dJ0_init_db425_5 kJ5_getValue_6d5f1 cuJ0_552_J4 ga rfl (sb_val hl w a m ml _ ga) (Nat.le_of_ble_eq_true rfl) ⟨(Nat.le_of_ble_eq_true rfl), (by show _ ≤ n; omega)⟩ rfl (Nat.le_of_ble_eq_true rfl) rfl rfl (fun _ _ h => h.elim) ?_
  rintro _ _ ⟨rfl, hw22⟩
  refine j_w w hw22 ?_
  refine j_astore_n (lo' := [(3, _), (0, _), (1, _), (2, _)]) dJ0_init_db425_8 rfl (by decide) rfl ?_
  refine j_aload_n dJ0_init_db425_9 rfl rfl ?_
  refine j_callUd (y0 := mJ5_length_8abf5) (x := yJ5_length_8abf5) (q := (RJ4, TJ4, 4)) dJ0_init_db425_10 kJ4_length_8abf5 lJ0_549 (z_w 744 ((lwt_3_7 9).trans rfl) (by decide +kernel)) ⟨rfl, rfl, kJ5_length_8abf5.2.1, inJ5_length_8abf5⟩ (z_w 745 ((lwt_3_7 10).trans rfl) (by decide +kernel)) inJ4_length_8abf5 (by decide) rfl ga rfl (sb_len hl w σ a n N h) (Nat.le_of_ble_eq_true rfl) ⟨(Nat.le_of_ble_eq_true rfl), (by show _ ≤ n; omega)⟩ rfl (Nat.le_of_ble_eq_true rfl) rfl rfl (fun _ _ h => h.elim) ?_
  rintro _ _ ⟨rfl, hw23⟩
  refine j_w w hw23 ?_
  refine j_istore (lo' := [(4, _), (3, _), (0, _), (1, _), (2, _)]) dJ0_init_db425_13 (by decide) rfl ?_
  refine j_aload_n dJ0_init_db425_15 rfl rfl ?_
  refine j_callU (q := (RJ4, TJ4, 4)) dJ0_init_db425_16 kJ5_isLatin1_aae02 cuJ0_1047_J4 ga rfl (sb_lat hl w _ _ _ _ ga) (Nat.le_of_ble_eq_true rfl) ⟨(Nat.le_of_ble_eq_true rfl), (by show _ ≤ n; omega)⟩ rfl (Nat.le_of_ble_eq_true rfl) rfl rfl (fun _ _ h => h.elim) ?_
  rintro _ _ ⟨rfl, hw24⟩
  refine j_w w hw24 ?_
  refine j_if_eq (tgt := 41) dJ0_init_db425_19 (by decide) (fun c_19_18 => ?_) (fun c_19_18 => ?_)
  · exact absurd c_19_18 (by decide)
  · refine j_aload_n dJ0_init_db425_22 rfl rfl ?_
    refine j_iconst (v := 0) dJ0_init_db425_23 (by decide) ?_
    refine j_putF (w' := _) dJ0_init_db425_24 fJ0_15 tJ0_1 rfl (z_dc rfl rfl (z_w 819 ((lwt_4_1 24).trans rfl) (by decide +kernel))) gr ⟨rfl, rfl⟩ rfl ?_
    refine j_seal r1 ?_
    intro w1 u1
    have g1_a := (u1.2.1 _ (by omega)).trans ga
    have g1_m := (u1.2.1 _ (by omega)).trans gm
    have g1_r := u1.1
    have hf1 := u1.2.2.2 hf
    refine j_aload_n dJ0_init_db425_27 rfl rfl ?_
    refine j_aload_n dJ0_init_db425_28 rfl rfl ?_
    refine j_iconst (v := 0) dJ0_init_db425_29 (by decide) ?_
    refine j_iload dJ0_init_db425_30 rfl ?_
    refine j_callS dJ0_init_db425_32 kJ7_copyOfRange_39247 lJ0_54 stJ7_copyOfRange_39247 (sb_cpR hl w1 ρ m N n f hρ hf1 g1_m a6 h3 h5) (Nat.le_of_ble_eq_true rfl) ⟨(Nat.le_of_ble_eq_true rfl), (by show _ ≤ n; omega)⟩ rfl (Nat.le_of_ble_eq_true rfl) rfl rfl (fun _ _ h => h.elim) ?_
    rintro _ w2 ⟨m9, g9, rfl, fw2, c1, c2, c3, c4, c5⟩
    have hf2 := fw2.2.1 hf1
    have g2_r := c5 r _ g1_r
    refine j_putF (w' := _) dJ0_init_db425_35 fJ0_9 tJ0_0 rfl (z_dc rfl rfl (z_w 818 ((lwt_4_1 23).trans rfl) (by decide +kernel))) g2_r (Or.inr ⟨_, rfl⟩) rfl ?_
    refine j_seal r1 ?_
    intro w3 u3
    have g3_m2 := (u3.2.1 _ (Ne.symm (c3 r _ g1_r))).trans c4
    have g3_r := u3.1
    have hf3 := u3.2.2.2 hf2
    refine j_goto (tgt := 97) dJ0_init_db425_38 (by decide) ?_
    refine j_vret dJ0_init_db425_97 rfl ?_ (Nat.le_of_ble_eq_true rfl) (by show _ ≤ n; omega)
    exact ⟨rfl, (((u1.fw r1 r2).tr fw2).tr (u3.fw r1 r2)), r1, r2, m9, g9, c1, c2, Ne.symm (c3 r _ g1_r), g3_r, g3_m2⟩
set_option maxRecDepth 100000 in
set_option maxHeartbeats 8000000 in
theorem sb_str1 (hl : l.stackTraces = false) (w : z_W) (ρ σ a n N r : Nat) (h : z_sb w σ a n N) (hσ : σ ≠ ρ) (r1 : 1000 ≤ r) (r2 : r % 64 = ρ) (gr : z_g w r = some (.inr (0, [.null, .int 0, .int 0, .int 0]))) (hρ : ρ < 64) (hf : z_fn w) : z_Con G l mJ0_init_81219 14 1 n w [.ref r, .ref a] (fun v w9 => v = none ∧ z_fw ρ w w9 ∧ z_tx w9 ρ r n) (fun _ _ => False) := by
  obtain ⟨h1, h2, h3, h4, h5, m, f, ml, a1, a2, a3, ga, gm, a6⟩ := id h
  refine z_body hl (by decide) rfl (Nat.le_of_ble_eq_true rfl) ?_
  show z_J G l mJ0_init_81219 _ 0 [(0, _), (1, _)] [] _ 0 0
  refine j_aload_n dJ0_init_81219_0 rfl rfl ?_
  refine j_aload_n dJ0_init_81219_1 rfl rfl ?_
  refine j_null dJ0_init_81219_2 ?_
  refine j_callI dJ0_init_81219_3 kJ0_init_db425 rfl lJ0_489 inJ0_init_db425 rfl (sb_str0 hl w ρ σ a n N r h hσ r1 r2 gr hρ hf) (Nat.le_of_ble_eq_true rfl) ⟨(Nat.le_of_ble_eq_true rfl), (by show _ ≤ n; omega)⟩ rfl (Nat.le_of_ble_eq_true rfl) rfl rfl (fun _ _ h => h.elim) ?_
  rintro _ w1 ⟨rfl, fw1, ht1⟩
  have hf1 := fw1.2.1 hf
  refine j_vret dJ0_init_81219_6 rfl ?_ (Nat.le_of_ble_eq_true rfl) (by show _ ≤ n; omega)
  exact ⟨rfl, fw1, ht1⟩
set_option maxRecDepth 100000 in
set_option maxHeartbeats 8000000 in
theorem sb_toS (hl : l.stackTraces = false) (w : z_W) (ρ σ a n N : Nat) (h : z_sb w σ a n N) (hσ : σ ≠ ρ) (hρ : ρ < 64) (hf : z_fn w) : z_Con G l mJ4_toString_0e30d 15 2 (4 + n) w [.ref a] (fun v w9 => ∃ r, v = some (.ref r) ∧ z_fw ρ w w9 ∧ z_tx w9 ρ r n) (fun _ _ => False) := by
  obtain ⟨h1, h2, h3, h4, h5, m, f, ml, a1, a2, a3, ga, gm, a6⟩ := id h
  refine z_body hl (by decide) rfl (Nat.le_of_ble_eq_true rfl) ?_
  show z_J G l mJ4_toString_0e30d _ 0 [(0, _)] [] _ 0 0
  obtain ⟨x1, hx1a, hx1b, hx1c⟩ := z_fresh (ρ) hρ hf
  have n_a_x1 := z_neF hx1c ga
  refine j_new (N := 4) (w' := _) (n := x1) dJ4_toString_0e30d_0 nJ4_18 rfl (z_alW hx1c hx1a) (Nat.le_of_ble_eq_true rfl) (by show _ ≤ 4 + n; omega) ?_
  refine j_seal hx1a ?_
  intro w1 u1
  have g1_a := (u1.2.1 _ n_a_x1).trans ga
  have g1_x1 := u1.1
  have hf1 := u1.2.2.2 hf
  refine j_dup dJ4_toString_0e30d_3 rfl ?_
  refine j_aload_n dJ4_toString_0e30d_4 rfl rfl ?_
  refine j_callI dJ4_toString_0e30d_5 kJ0_init_81219 rfl lJ4_137 inJ0_init_81219 rfl (sb_str1 hl w1 ρ σ a n N x1 (h.fw (u1.fw hx1a hx1b) hσ) hσ hx1a hx1b g1_x1 hρ hf1) (Nat.le_of_ble_eq_true rfl) ⟨(Nat.le_of_ble_eq_true rfl), (by show _ ≤ 4 + n; omega)⟩ rfl (Nat.le_of_ble_eq_true rfl) rfl rfl (fun _ _ h => h.elim) ?_
  rintro _ w2 ⟨rfl, fw2, ht2⟩
  have hf2 := fw2.2.1 hf1
  refine j_aret dJ4_toString_0e30d_8 rfl (Or.inl ⟨_, rfl⟩) rfl ?_ (Nat.le_of_ble_eq_true rfl) (by show _ ≤ 4 + n; omega)
  exact ⟨x1, rfl, ((u1.fw hx1a hx1b).tr fw2), ht2⟩
set_option maxRecDepth 100000 in
set_option maxHeartbeats 8000000 in
theorem tx_cod (hl : l.stackTraces = false) (w : z_W) (ρ r n : Nat) (h : z_tx w ρ r n) : z_Con G l mJ0_coder_7d493 10 0 0 w [.ref r] (fun v w9 => v = some (.int 0) ∧ w9 = w) (fun _ _ => False) := by
  obtain ⟨r1, r2, b, f, b1, b2, b3, gr, gb⟩ := id h
  refine z_body hl (by decide) rfl (Nat.le_of_ble_eq_true rfl) ?_
  show z_J G l mJ0_coder_7d493 _ 0 [(0, _)] [] _ 0 0
  refine j_gets dJ0_coder_7d493_0 (List.mem_of_getElem? (i := 0) rfl) rfl (z_w 787 ((lwg_4 22).trans rfl) (by decide +kernel)) ?_
  refine j_if_eq (tgt := 13) dJ0_coder_7d493_3 (by decide) (fun c_3_3 => ?_) (fun c_3_3 => ?_)
  · exact absurd c_3_3 (by decide)
  · refine j_aload_n dJ0_coder_7d493_6 rfl rfl ?_
    refine j_getf dJ0_coder_7d493_7 fJ0_15 gr rfl ?_
    refine j_goto (tgt := 14) dJ0_coder_7d493_10 (by decide) ?_
    refine j_iret dJ0_coder_7d493_14 rfl rfl ?_ (Nat.le_of_ble_eq_true rfl) (Nat.le_of_ble_eq_true rfl)
    exact ⟨rfl, rfl⟩
set_option maxRecDepth 100000 in
set_option maxHeartbeats 8000000 in
theorem tx_len (hl : l.stackTraces = false) (w : z_W) (ρ r n : Nat) (h : z_tx w ρ r n) : z_Con G l mJ0_length_8abf5 11 0 0 w [.ref r] (fun v w9 => v = some (.int (nI n)) ∧ w9 = w) (fun _ _ => False) := by
  obtain ⟨r1, r2, b, f, b1, b2, b3, gr, gb⟩ := id h
  refine z_body hl (by decide) rfl (Nat.le_of_ble_eq_true rfl) ?_
  show z_J G l mJ0_length_8abf5 _ 0 [(0, _)] [] _ 0 0
  refine j_aload_n dJ0_length_8abf5_0 rfl rfl ?_
  refine j_getf dJ0_length_8abf5_1 fJ0_9 gr rfl ?_
  refine j_alen dJ0_length_8abf5_4 gb rfl rfl ?_
  refine j_aload_n dJ0_length_8abf5_5 rfl rfl ?_
  refine j_callV (q := (RJ0, TJ0, 4)) dJ0_length_8abf5_6 kJ0_coder_7d493 lJ0_335 inJ0_coder_7d493 seJ0_coder_7d493 gr rfl (tx_cod hl w ρ r n h) (Nat.le_of_ble_eq_true rfl) ⟨(Nat.le_of_ble_eq_true rfl), (Nat.le_of_ble_eq_true rfl)⟩ rfl (Nat.le_of_ble_eq_true rfl) rfl rfl (fun _ _ h => h.elim) ?_
  rintro _ _ ⟨rfl, hw25⟩
  refine j_w w hw25 ?_
  refine j_ishr dJ0_length_8abf5_9 ?_
  refine j_top (congrArg Value.int (sb_shr0 (nI n))) ?_
  refine j_iret dJ0_length_8abf5_10 rfl rfl ?_ (Nat.le_of_ble_eq_true rfl) (Nat.le_of_ble_eq_true rfl)
  exact ⟨rfl, rfl⟩
end ZSb2
end ZM24
section ZM25
section ZTxc
variable {G : z_G} {l : Launch}
def z_ct (f : Nat → Value) (L : List Int32) : Prop := ∀ j x, L[j]? = some x → f j = .int x
def z_un (F f : Nat → Value) (p : Nat) : Prop := ∀ j, j < p → F j = f j
def z_cs (F : Nat → Value) (p : Nat) (T : List Int32) : Prop := ∀ j x, T[j]? = some x → F (p + j) = .int x
theorem z_ct0 {f : Nat → Value} : z_ct f [] := fun j x h => by cases h
theorem z_cs0 {f : Nat → Value} {p : Nat} : z_cs f p [] := fun j x h => by cases h
theorem z_ctC {f g : Nat → Value} {L : List Int32} (h : z_ct f L) (hg : ∀ j, j < L.length → g j = f j) : z_ct g L := fun j x hx => (hg j (List.getElem?_eq_some_iff.mp hx).1).trans (h j x hx)
theorem z_ctA {f : Nat → Value} {L M : List Int32} (h : z_ct f L) (hM : z_cs f L.length M) : z_ct f (L ++ M) := fun j x hx => by
  by_cases hj : j < L.length
  · rw [List.getElem?_append_left hj] at hx
    exact h j x hx
  · rw [List.getElem?_append_right (Nat.le_of_not_lt hj)] at hx
    have := hM _ x hx
    rwa [show L.length + (j - L.length) = j by omega] at this
theorem z_ctU {f : Nat → Value} {L : List Int32} {k : Nat} {x : Int32} (h : z_ct f L) (hk : k = L.length) : z_ct (z_u f k (.int x)) (L ++ [x]) := by
  subst hk
  refine z_ctA (z_ctC h fun j hj => z_u_ne (Nat.ne_of_lt hj)) fun j y hy => ?_
  match j, hy with
  | 0, hy => cases hy; exact z_u_self
theorem z_wr {F f : Nat → Value} {p k : Nat} {T : List Int32} {y y0 : Int32} (hk : k = p - 1) (hp : 1 ≤ p) (hy : y = y0) (h : z_un F f p ∧ z_cs F p T) : z_un (z_u F k (.int y)) f (p - 1) ∧ z_cs (z_u F k (.int y)) (p - 1) (y0 :: T) := by
  subst hk hy
  refine ⟨fun j hj => (z_u_ne (Nat.ne_of_lt hj)).trans (h.1 j (by omega)), fun j x hx => ?_⟩
  match j, hx with
  | 0, hx => cases hx; exact z_u_self
  | j + 1, hx =>
    rw [show p - 1 + (j + 1) = p + j by omega, z_u_ne (by omega)]
    exact h.2 j x hx
theorem z_wf {F f : Nat → Value} {p q : Nat} {T U : List Int32} (h : z_un F f p ∧ z_cs F p T) (hp : p = q) (hT : T = U) : z_un F f q ∧ z_cs F q U := by
  subst hp hT
  exact h
theorem tx_cpy0 {f g : Nat → Value} {N j : Nat} (hN : N < 2147483648) (hj : j < N) : va_cpy f g (0 : Int32).toNatClampNeg (0 : Int32).toNatClampNeg (nI N).toNatClampNeg j = f j := by
  rw [z_cla hN]
  show (if 0 ≤ j ∧ j < 0 + N then f (0 + (j - 0)) else g j) = f j
  rw [if_pos (by omega)]
  exact congrArg f (by omega)
def tx_wf : Nat → Nat → List Int32
  | 0, _ => []
  | n + 1, W => if W < 10 then [nI (48 + W % 10)] else if W < 100 then [nI (48 + W / 10), nI (48 + W % 10)] else tx_wf n (W / 100) ++ [nI (48 + W % 100 / 10), nI (48 + W % 100 % 10)]
def tx_w (W : Nat) : List Int32 := tx_wf (W + 1) W
def tx_dg (x : Int32) : List Int32 := (if x < 0 then [45] else []) ++ tx_w x.toInt.natAbs
theorem tx_wfe : ∀ (n m W : Nat), W < n → W < m → tx_wf n W = tx_wf m W := by
  intro n
  induction n with
  | zero => intro m W h; exact absurd h (Nat.not_lt_zero _)
  | succ n ih =>
    intro m W h1 h2
    cases m with
    | zero => exact absurd h2 (Nat.not_lt_zero _)
    | succ m =>
      unfold tx_wf
      by_cases a : W < 10
      · rw [if_pos a, if_pos a]
      · by_cases b : W < 100
        · rw [if_neg a, if_neg a, if_pos b, if_pos b]
        · rw [if_neg a, if_neg a, if_neg b, if_neg b, ih m (W / 100) (by omega) (by omega)]
theorem tx_w10 {W : Nat} (h : W < 10) : tx_w W = [nI (48 + W % 10)] := by unfold tx_w tx_wf; rw [if_pos h]
theorem tx_w2 {W : Nat} (h : 10 ≤ W) (h2 : W < 100) : tx_w W = [nI (48 + W / 10), nI (48 + W % 10)] := by unfold tx_w tx_wf; rw [if_neg (by omega), if_pos h2]
theorem tx_w100 {W : Nat} (h : 100 ≤ W) : tx_w W = tx_w (W / 100) ++ [nI (48 + W % 100 / 10), nI (48 + W % 100 % 10)] := by
  have e : tx_w W = tx_wf W (W / 100) ++ [nI (48 + W % 100 / 10), nI (48 + W % 100 % 10)] := by unfold tx_w; rw [tx_wf, if_neg (by omega), if_neg (by omega)]
  rw [e]
  unfold tx_w
  rw [tx_wfe W (W / 100 + 1) (W / 100) (by omega) (by omega)]
theorem tx_wl : ∀ (n W : Nat), W < n → W ≤ 2147483648 → (tx_w W).length = z_dg W := by
  intro n
  induction n with
  | zero => intro W h; exact absurd h (Nat.not_lt_zero _)
  | succ n ih =>
    intro W h h2
    by_cases a : W < 10
    · rw [tx_w10 a, z_dgL (k := 1) ⟨Or.inl rfl, by show _ < 10; omega⟩ (by omega)]; rfl
    · by_cases b : W < 100
      · rw [tx_w2 (by omega) b, z_dgL (k := 2) ⟨Or.inr (by show 10 ≤ _; omega), by show _ < 100; omega⟩ (by omega)]; rfl
      · rw [tx_w100 (by omega), List.length_append, ih (W / 100) (by omega) (by omega), z_dg100 (by omega) h2]; rfl
theorem tx_dl {x : Int32} : (tx_dg x).length = z_sz x := by
  have h7 := Int32.le_toInt x
  have h8 := Int32.toInt_lt x
  unfold tx_dg z_sz
  rw [List.length_append, tx_wl (x.toInt.natAbs + 1) _ (by omega) (by omega)]
  by_cases h : x < 0
  · rw [if_pos h, if_pos h]; rfl
  · rw [if_neg h, if_neg h]; rfl
theorem tx_b8 {k : Nat} (h : k < 128) : (nI k).toInt8.toInt32 = nI k := by
  have h1 := List.all_eq_true.mp (show (List.range 128).all (fun k => decide ((nI k).toInt8.toInt32 = nI k)) = true by decide +kernel) k (List.mem_range.mpr h)
  exact of_decide_eq_true h1
theorem tx_cl {i : Int32} {W : Nat} (h : i.toInt = (W : Int)) : i.toNatClampNeg = W := by
  show i.toInt.toNat = W
  rw [h]; rfl
theorem tx_y3 {i : Int32} {W : Nat} (h : i.toInt = (W : Int)) (hW : W < 100) : (z_dgc 3 i.toNatClampNeg).toInt8.toInt32 = nI (48 + W % 10) := by
  rw [tx_cl h]
  show (nI (48 + W % 10)).toInt8.toInt32 = _
  exact tx_b8 (by omega)
theorem tx_y4 {i : Int32} {W : Nat} (h : i.toInt = (W : Int)) (hW : W < 100) : (z_dgc 4 i.toNatClampNeg).toInt8.toInt32 = nI (48 + W / 10) := by
  rw [tx_cl h]
  show (nI (48 + W / 10)).toInt8.toInt32 = _
  exact tx_b8 (by omega)
def z_sbL (w : z_W) (ρ a : Nat) (L : List Int32) (N : Nat) : Prop := 1000 ≤ a ∧ a % 64 = ρ ∧ L.length ≤ N ∧ 16 ≤ N ∧ N ≤ 5000 ∧ ∃ m f ml, z_sbA w ρ a L.length N m f ml ∧ z_ct f L
theorem z_sbL.sb {w : z_W} {ρ a N : Nat} {L : List Int32} (h : z_sbL w ρ a L N) : z_sb w ρ a L.length N := by
  obtain ⟨h1, h2, h3, h4, h5, m, f, ml, h6, -⟩ := h
  exact ⟨h1, h2, h3, h4, h5, m, f, ml, h6⟩
theorem z_sbL.fw {w w' : z_W} {ρ σ a N : Nat} {L : List Int32} (h : z_sbL w ρ a L N) (hw : z_fw σ w w') (hne : ρ ≠ σ) : z_sbL w' ρ a L N := by
  obtain ⟨h1, h2, h3, h4, h5, m, f, ml, ⟨a1, a2, a3, ga, gm, a6⟩, ct⟩ := h
  exact ⟨h1, h2, h3, h4, h5, m, f, ml, ⟨a1, a2, a3, (hw.g (Or.inr (by omega)) ga), (hw.g (Or.inr (by omega)) gm), a6⟩, ct⟩
theorem z_sb.nil {w : z_W} {ρ a N : Nat} (h : z_sb w ρ a 0 N) : z_sbL w ρ a [] N := by
  obtain ⟨h1, h2, h3, h4, h5, m, f, ml, h6⟩ := h
  exact ⟨h1, h2, h3, h4, h5, m, f, ml, h6, z_ct0⟩
set_option maxRecDepth 100000 in
set_option maxHeartbeats 8000000 in
theorem sc_cpO (hl : l.stackTraces = false) (w : z_W) (ρ m N q : Nat) (f : Nat → Value) (hρ : ρ < 64) (hf : z_fn w) (gm : z_g w m = some (.inl (2, N, f))) (hby : z_by f) (hq : N < q) (hq2 : q ≤ 20000) : z_Con G l mJ7_copyOf_9075b 12 1 q w [.ref m, .int (nI q)] (fun v w9 => ∃ (m9 : Nat) (g : Nat → Value), v = some (.ref m9) ∧ z_fw ρ w w9 ∧ 1000 ≤ m9 ∧ m9 % 64 = ρ ∧ (∀ k e, z_g w k = some e → k ≠ m9) ∧ z_g w9 m9 = some (.inl (2, q, g)) ∧ (∀ k e, z_g w k = some e → z_g w9 k = some e) ∧ z_by g ∧ ∀ j, j < N → g j = f j) (fun _ _ => False) := by
  refine z_body hl (by decide) rfl (Nat.le_of_ble_eq_true rfl) ?_
  show z_J G l mJ7_copyOf_9075b _ 0 [(0, _), (1, _)] [] _ 0 0
  refine j_iload_n dJ7_copyOf_9075b_0 rfl ?_
  refine j_aload_n dJ7_copyOf_9075b_1 rfl rfl ?_
  refine j_alen dJ7_copyOf_9075b_2 gm rfl rfl ?_
  refine j_icmp_ne (tgt := 14) dJ7_copyOf_9075b_3 (by decide) (fun c_3_5 => ?_) (fun c_3_5 => ?_)
  · refine j_iload_n dJ7_copyOf_9075b_14 rfl ?_
    obtain ⟨x1, hx1a, hx1b, hx1c⟩ := z_fresh (ρ) hρ hf
    have n_m_x1 := z_neF hx1c gm
    refine j_newa (kd := 2) (N := q) (w' := _) (n := x1) dJ7_copyOf_9075b_15 rfl rfl arc_byte ⟨rfl, fun _ _ h => h⟩ (nI_pos (by omega)) (z_cla (by omega)) (by show q * 1 ≤ _; omega) rfl (z_alW hx1c hx1a) (Nat.le_of_ble_eq_true rfl) (by show _ ≤ q; omega) ?_
    refine j_seal hx1a ?_
    intro w1 u1
    have g1_m := (u1.2.1 _ n_m_x1).trans gm
    have g1_x1 := u1.1
    have hf1 := u1.2.2.2 hf
    refine j_astore_n (lo' := [(2, _), (0, _), (1, _)]) dJ7_copyOf_9075b_17 rfl (by decide) rfl ?_
    refine j_aload_n dJ7_copyOf_9075b_18 rfl rfl ?_
    refine j_iconst (v := 0) dJ7_copyOf_9075b_19 (by decide) ?_
    refine j_aload_n dJ7_copyOf_9075b_20 rfl rfl ?_
    refine j_iconst (v := 0) dJ7_copyOf_9075b_21 (by decide) ?_
    refine j_aload_n dJ7_copyOf_9075b_22 rfl rfl ?_
    refine j_alen dJ7_copyOf_9075b_23 g1_m rfl rfl ?_
    refine j_iload_n dJ7_copyOf_9075b_24 rfl ?_
    refine j_mmin dJ7_copyOf_9075b_25 lJ7_304 (Nat.le_of_ble_eq_true rfl) (Nat.le_of_ble_eq_true rfl) (Nat.le_of_ble_eq_true rfl) (by show _ ≤ q; omega) ?_
    refine j_top (congrArg Value.int (nI_mn (a := N) (b := q) (by omega) (by omega))) ?_
    refine j_acopy (w' := _) dJ7_copyOf_9075b_28 lJ7_150 ac_n ac_s ac_i g1_m g1_x1 rfl (by decide) (by decide) (nI_pos (by omega)) (by rw [z_cla (by omega)]; show 0 + _ ≤ N; omega) (by rw [z_cla (by omega)]; show 0 + _ ≤ q; omega) (fun i _ => Or.inl (hby _)) (Nat.le_of_ble_eq_true rfl) (Nat.le_of_ble_eq_true rfl) rfl ?_
    refine j_seal hx1a ?_
    intro w2 u2
    have g2_m := (u2.2.1 _ n_m_x1).trans g1_m
    have g2_x1 := u2.1
    have hf2 := u2.2.2.2 hf1
    refine j_aload_n dJ7_copyOf_9075b_31 rfl rfl ?_
    refine j_aret dJ7_copyOf_9075b_32 rfl (Or.inr ⟨_, rfl⟩) rfl ?_ (Nat.le_of_ble_eq_true rfl) (by show _ ≤ q; omega)
    exact ⟨x1, _, rfl, ((u1.fw hx1a hx1b).tr (u2.fw hx1a hx1b)), hx1a, hx1b, fun k e hk => z_neF hx1c hk, g2_x1, fun k e hk => (u2.2.1 k (z_neF hx1c hk)).trans ((u1.2.1 k (z_neF hx1c hk)).trans hk), z_byC (fun j _ _ => hby j) z_by0, fun j hj => tx_cpy0 (N := min N q) (by omega) (by omega)⟩
  · exact absurd (nI_inj c_3_5 (by omega) (by omega)) (by omega)
set_option maxRecDepth 100000 in
set_option maxHeartbeats 8000000 in
theorem sc_ens (hl : l.stackTraces = false) (w : z_W) (ρ a N q : Nat) (L : List Int32) (h : z_sbL w ρ a L N) (hq : q ≤ 2 * N + 2) (hN : z_gr N q ≤ 5000) (hρ : ρ < 64) (hf : z_fn w) : z_Con G l mJ5_ensureCapacityInternal_d00df 14 (z_gr N q / 16 - N / 16) (2 * (z_gr N q - N)) w [.ref a, .int (nI q)] (fun v w9 => v = none ∧ z_fw ρ w w9 ∧ z_sbL w9 ρ a L (z_gr N q)) (fun _ _ => False) := by
  obtain ⟨h1, h2, h3, h4, h5, m, f, ml, ⟨a1, a2, a3, ga, gm, a6⟩, ct⟩ := id h
  refine z_body hl (by decide) rfl (Nat.le_of_ble_eq_true rfl) ?_
  show z_J G l mJ5_ensureCapacityInternal_d00df _ 0 [(0, _), (1, _)] [] _ 0 0
  refine j_aload_n dJ5_ensureCapacityInternal_d00df_0 rfl rfl ?_
  refine j_getf dJ5_ensureCapacityInternal_d00df_1 fJ5_15 ga rfl ?_
  refine j_alen dJ5_ensureCapacityInternal_d00df_4 gm rfl rfl ?_
  refine j_aload_n dJ5_ensureCapacityInternal_d00df_5 rfl rfl ?_
  refine j_getf dJ5_ensureCapacityInternal_d00df_6 fJ5_22 ga rfl ?_
  refine j_ishr dJ5_ensureCapacityInternal_d00df_9 ?_
  refine j_top (congrArg Value.int (sb_shr0 (nI N))) ?_
  refine j_istore_n (lo' := [(2, _), (0, _), (1, _)]) dJ5_ensureCapacityInternal_d00df_10 (by decide) rfl ?_
  refine j_iload_n dJ5_ensureCapacityInternal_d00df_11 rfl ?_
  refine j_iload_n dJ5_ensureCapacityInternal_d00df_12 rfl ?_
  refine j_isub dJ5_ensureCapacityInternal_d00df_13 ?_
  refine j_if_le (tgt := 38) dJ5_ensureCapacityInternal_d00df_14 (by decide) (fun c_14_13 => ?_) (fun c_14_13 => ?_)
  · have hgr := z_grT ((z_sble (q := q) (N := N) (by omega) (by omega)).mp c_14_13)
    refine j_vret dJ5_ensureCapacityInternal_d00df_38 rfl ?_ (by show _ ≤ z_gr N q / 16 - N / 16; omega) (by show _ ≤ 2 * (z_gr N q - N); omega)
    rw [hgr]
    exact ⟨rfl, z_fw.rf, h⟩
  · have hqN : ¬ q ≤ N := fun z => c_14_13 ((z_sble (q := q) (N := N) (by omega) (by omega)).mpr z)
    have hgr := z_grF hqN
    refine j_aload_n dJ5_ensureCapacityInternal_d00df_17 rfl rfl ?_
    refine j_aload_n dJ5_ensureCapacityInternal_d00df_18 rfl rfl ?_
    refine j_getf dJ5_ensureCapacityInternal_d00df_19 fJ5_15 ga rfl ?_
    refine j_aload_n dJ5_ensureCapacityInternal_d00df_22 rfl rfl ?_
    refine j_iload_n dJ5_ensureCapacityInternal_d00df_23 rfl ?_
    refine j_callP (x := yJ5_isLatin1_aae02) (q := (RJ4, TJ4, 4)) dJ5_ensureCapacityInternal_d00df_24 kJ5_newCapacity_0f7a4 lJ5_104 inJ5_newCapacity_0f7a4 ⟨(z_w 640 ((lwt_3_3 25).trans rfl) (by decide +kernel)), rfl, (z_wn 607 ((lwt_3_2 22).trans rfl) (by decide +kernel))⟩ ga rfl (sb_newC hl w ρ a L.length N q h.sb (by omega) hq) (Nat.le_of_ble_eq_true rfl) ⟨(by show _ ≤ z_gr N q / 16 - N / 16; omega), (by show _ ≤ 2 * (z_gr N q - N); omega)⟩ rfl (Nat.le_of_ble_eq_true rfl) rfl rfl (fun _ _ h => h.elim) ?_
    rintro _ _ ⟨rfl, hw6⟩
    refine j_w w hw6 ?_
    refine j_aload_n dJ5_ensureCapacityInternal_d00df_27 rfl rfl ?_
    refine j_getf dJ5_ensureCapacityInternal_d00df_28 fJ5_22 ga rfl ?_
    refine j_ishl dJ5_ensureCapacityInternal_d00df_31 ?_
    refine j_top (congrArg Value.int (sb_shl0 _)) ?_
    refine j_callS dJ5_ensureCapacityInternal_d00df_32 kJ7_copyOf_9075b lJ5_108 stJ7_copyOf_9075b (sc_cpO hl w ρ m N (2 * N + 2) f hρ hf gm a6 (by omega) (by omega)) (Nat.le_of_ble_eq_true rfl) ⟨(by show _ ≤ z_gr N q / 16 - N / 16; omega), (by show _ ≤ 2 * (z_gr N q - N); omega)⟩ rfl (Nat.le_of_ble_eq_true rfl) rfl rfl (fun _ _ h => h.elim) ?_
    rintro _ w1 ⟨m9, g9, rfl, fw1, c1, c2, c3, c4, c5, c6, c7⟩
    have hf1 := fw1.2.1 hf
    have g1_a := c5 a _ ga
    refine j_put (w' := _) dJ5_ensureCapacityInternal_d00df_35 fJ5_15 tJ4_0 g1_a (Or.inr ⟨_, rfl⟩) rfl ?_
    refine j_seal h1 ?_
    intro w2 u2
    have g2_m2 := (u2.2.1 _ (Ne.symm (c3 a _ ga))).trans c4
    have g2_a := u2.1
    have hf2 := u2.2.2.2 hf1
    refine j_vret dJ5_ensureCapacityInternal_d00df_38 rfl ?_ (by show _ ≤ z_gr N q / 16 - N / 16; omega) (by show _ ≤ 2 * (z_gr N q - N); omega)
    rw [hgr]
    exact ⟨rfl, (fw1.tr (u2.fw h1 h2)), h1, h2, by omega, by omega, by omega, m9, _, ml, ⟨c1, c2, (Ne.symm (c3 a _ ga)), g2_a, g2_m2, c6⟩, z_ctC ct (fun j hj => c7 j (by omega))⟩
set_option maxRecDepth 100000 in
set_option maxHeartbeats 8000000 in
theorem sc_apC0 (hl : l.stackTraces = false) (w : z_W) (ρ a N : Nat) (L : List Int32) (c : Int32) (h : z_sbL w ρ a L N) (hq : L.length + 1 ≤ 2 * N + 2) (hN : z_gr N (L.length + 1) ≤ 5000) (hρ : ρ < 64) (hf : z_fn w) (hc : ¬ (255 : Int32) < c) : z_Con G l mJ5_append_3fe6f 15 (z_gr N (L.length + 1) / 16 - N / 16) (2 * (z_gr N (L.length + 1) - N)) w [.ref a, .int c] (fun v w9 => v = some (.ref a) ∧ z_fw ρ w w9 ∧ z_sbL w9 ρ a (L ++ [c.toInt8.toInt32.toInt8.toInt32]) (z_gr N (L.length + 1))) (fun _ _ => False) := by
  obtain ⟨h1, h2, h3, h4, h5, m, f, ml, ⟨a1, a2, a3, ga, gm, a6⟩, ct⟩ := id h
  have hge := z_gr_ge hq
  have hle := z_gr_le (N := N) (m := L.length + 1)
  have ln : (L ++ [c.toInt8.toInt32.toInt8.toInt32]).length = L.length + 1 := by rw [List.length_append]; try rfl
  refine z_body hl (by decide) rfl (Nat.le_of_ble_eq_true rfl) ?_
  show z_J G l mJ5_append_3fe6f _ 0 [(0, _), (1, _)] [] _ 0 0
  refine j_aload_n dJ5_append_3fe6f_0 rfl rfl ?_
  refine j_aload_n dJ5_append_3fe6f_1 rfl rfl ?_
  refine j_getf dJ5_append_3fe6f_2 fJ5_79 ga rfl ?_
  refine j_iconst (v := 1) dJ5_append_3fe6f_5 (by decide) ?_
  refine j_iadd dJ5_append_3fe6f_6 ?_
  refine j_top (congrArg Value.int (nI_1 L.length)) ?_
  refine j_callP (x := yJ5_isLatin1_aae02) (q := (RJ4, TJ4, 4)) dJ5_append_3fe6f_7 kJ5_ensureCapacityInternal_d00df lJ5_100 inJ5_ensureCapacityInternal_d00df ⟨(z_w 640 ((lwt_3_3 25).trans rfl) (by decide +kernel)), rfl, (z_wn 603 ((lwt_3_2 18).trans rfl) (by decide +kernel))⟩ ga rfl (sc_ens hl w ρ a N (L.length + 1) L h (by omega) (by omega) hρ hf) (Nat.le_of_ble_eq_true rfl) ⟨(by show _ ≤ z_gr N (L.length + 1) / 16 - N / 16; omega), (by show _ ≤ 2 * (z_gr N (L.length + 1) - N); omega)⟩ rfl (Nat.le_of_ble_eq_true rfl) rfl rfl (fun _ _ h => h.elim) ?_
  rintro _ w1 ⟨rfl, fw1, hs1⟩
  have hf1 := fw1.2.1 hf
  obtain ⟨-, -, h3_1, h4_1, h5_1, m_1, f_1, ml_1, ⟨a1_1, a2_1, a3_1, ga_1, gm_1, a6_1⟩, ct_1⟩ := id hs1
  refine j_aload_n dJ5_append_3fe6f_10 rfl rfl ?_
  refine j_callU (q := (RJ4, TJ4, 4)) dJ5_append_3fe6f_11 kJ5_isLatin1_aae02 cuJ5_83_J4 ga_1 rfl (sb_lat hl w1 _ _ _ _ ga_1) (Nat.le_of_ble_eq_true rfl) ⟨(by show _ ≤ z_gr N (L.length + 1) / 16 - N / 16; omega), (by show _ ≤ 2 * (z_gr N (L.length + 1) - N); omega)⟩ rfl (Nat.le_of_ble_eq_true rfl) rfl rfl (fun _ _ h => h.elim) ?_
  rintro _ _ ⟨rfl, hw7⟩
  refine j_w w1 hw7 ?_
  refine j_if_eq (tgt := 45) dJ5_append_3fe6f_14 (by decide) (fun c_14_16 => ?_) (fun c_14_16 => ?_)
  · exact absurd c_14_16 (by decide)
  · refine j_iload_n dJ5_append_3fe6f_17 rfl ?_
    refine j_callS dJ5_append_3fe6f_18 kJ1_canEncode_fc78d lJ5_191 stJ1_canEncode_fc78d (sb_can hl w1 c hc) (Nat.le_of_ble_eq_true rfl) ⟨(by show _ ≤ z_gr N (L.length + 1) / 16 - N / 16; omega), (by show _ ≤ 2 * (z_gr N (L.length + 1) - N); omega)⟩ rfl (Nat.le_of_ble_eq_true rfl) rfl rfl (fun _ _ h => h.elim) ?_
    rintro _ _ ⟨rfl, hw8⟩
    refine j_w w1 hw8 ?_
    refine j_if_eq (tgt := 45) dJ5_append_3fe6f_21 (by decide) (fun c_21_22 => ?_) (fun c_21_22 => ?_)
    · exact absurd c_21_22 (by decide)
    · refine j_aload_n dJ5_append_3fe6f_24 rfl rfl ?_
      refine j_getf dJ5_append_3fe6f_25 fJ5_15 ga_1 rfl ?_
      refine j_aload_n dJ5_append_3fe6f_28 rfl rfl ?_
      refine j_dup dJ5_append_3fe6f_29 rfl ?_
      refine j_getf dJ5_append_3fe6f_30 fJ5_79 ga_1 rfl ?_
      refine j_dup_x1 dJ5_append_3fe6f_33 rfl rfl ?_
      refine j_iconst (v := 1) dJ5_append_3fe6f_34 (by decide) ?_
      refine j_iadd dJ5_append_3fe6f_35 ?_
      refine j_top (congrArg Value.int (nI_1 L.length)) ?_
      refine j_put (w' := _) dJ5_append_3fe6f_36 fJ5_79 tJ4_3 ga_1 ⟨rfl, rfl⟩ rfl ?_
      refine j_seal h1 ?_
      intro w2 u2
      have g2_m := (u2.2.1 _ a3_1).trans gm_1
      have g2_a := u2.1
      have hf2 := u2.2.2.2 hf1
      refine j_iload_n dJ5_append_3fe6f_39 rfl ?_
      refine j_i2b dJ5_append_3fe6f_40 ?_
      refine j_bastW (w' := _) dJ5_append_3fe6f_41 g2_m (vp_in_nI (by omega) (by omega)) rfl ?_
      refine j_seal a1_1 ?_
      intro w3 u3
      have g3_a := (u3.2.1 _ (Ne.symm a3_1)).trans g2_a
      have g3_m := u3.1
      have hf3 := u3.2.2.2 hf2
      refine j_goto (tgt := 75) dJ5_append_3fe6f_42 (by decide) ?_
      refine j_aload_n dJ5_append_3fe6f_75 rfl rfl ?_
      refine j_aret dJ5_append_3fe6f_76 rfl (Or.inl ⟨_, rfl⟩) rfl ?_ (by show _ ≤ z_gr N (L.length + 1) / 16 - N / 16; omega) (by show _ ≤ 2 * (z_gr N (L.length + 1) - N); omega)
      exact ⟨rfl, ((fw1.tr (u2.fw h1 h2)).tr (u3.fw a1_1 a2_1)), h1, h2, (by rw [ln]; exact hge), by omega, hN, m_1, _, ml_1, ⟨a1_1, a2_1, a3_1, (by rw [ln]; exact g3_a), g3_m, z_byU a6_1 (z_fB _)⟩, z_ctU ct_1 (z_cla (by omega))⟩
set_option maxRecDepth 100000 in
set_option maxHeartbeats 8000000 in
theorem sc_apC (hl : l.stackTraces = false) (w : z_W) (ρ a N : Nat) (L : List Int32) (c : Int32) (h : z_sbL w ρ a L N) (hq : L.length + 1 ≤ 2 * N + 2) (hN : z_gr N (L.length + 1) ≤ 5000) (hρ : ρ < 64) (hf : z_fn w) (hc : ¬ (255 : Int32) < c) : z_Con G l mJ4_append_cf468 16 (z_gr N (L.length + 1) / 16 - N / 16) (2 * (z_gr N (L.length + 1) - N)) w [.ref a, .int c] (fun v w9 => v = some (.ref a) ∧ z_fw ρ w w9 ∧ z_sbL w9 ρ a (L ++ [c.toInt8.toInt32.toInt8.toInt32]) (z_gr N (L.length + 1))) (fun _ _ => False) := by
  obtain ⟨h1, h2, h3, h4, h5, m, f, ml, ⟨a1, a2, a3, ga, gm, a6⟩, ct⟩ := id h
  refine z_body hl (by decide) rfl (Nat.le_of_ble_eq_true rfl) ?_
  show z_J G l mJ4_append_cf468 _ 0 [(0, _), (1, _)] [] _ 0 0
  refine j_aload_n dJ4_append_cf468_0 rfl rfl ?_
  refine j_iload_n dJ4_append_cf468_1 rfl ?_
  refine j_callSu (q := (RJ4, TJ4, 4)) dJ4_append_cf468_2 kJ5_append_3fe6f ⟨lJ4_50, (z_w 1974 ((lwg_9 9).trans rfl) (by decide +kernel)), (z_w 594 ((lwt_3_2 9).trans rfl) (by decide +kernel)), inJ5_append_3fe6f, (by decide)⟩ ga rfl (sc_apC0 hl w ρ a N L c h hq hN hρ hf hc) (Nat.le_of_ble_eq_true rfl) ⟨(by show _ ≤ z_gr N (L.length + 1) / 16 - N / 16; omega), (by show _ ≤ 2 * (z_gr N (L.length + 1) - N); omega)⟩ rfl (Nat.le_of_ble_eq_true rfl) rfl rfl (fun _ _ h => h.elim) ?_
  rintro _ w1 ⟨rfl, fw1, hs1⟩
  have hf1 := fw1.2.1 hf
  refine j_pop dJ4_append_cf468_5 rfl ?_
  refine j_aload_n dJ4_append_cf468_6 rfl rfl ?_
  refine j_aret dJ4_append_cf468_7 rfl (Or.inl ⟨_, rfl⟩) rfl ?_ (by show _ ≤ z_gr N (L.length + 1) / 16 - N / 16; omega) (by show _ ≤ 2 * (z_gr N (L.length + 1) - N); omega)
  exact ⟨rfl, fw1, hs1⟩
set_option maxRecDepth 100000 in
set_option maxHeartbeats 8000000 in
theorem sc_getC (hl : l.stackTraces = false) (w : z_W) (ρ m N p b : Nat) (f : Nat → Value) (e : z_E) (x : Int32) (hm : 1000 ≤ m) (hm2 : m % 64 = ρ) (gm : z_g w m = some (.inl (2, N, f))) (hby : z_by f) (hb : b ≠ m) (gb : z_g w b = some e) (hp : z_sz x ≤ p) (hpN : p ≤ N) (hN : N ≤ 5000) : z_Con G l mJ6_getChars_ba4f3 10 0 0 w [.int x, .int (nI p), .ref m] (fun v w9 => ∃ (r : Int32) (g : Nat → Value), v = some (.int r) ∧ z_fw ρ w w9 ∧ z_g w9 m = some (.inl (2, N, g)) ∧ z_by g ∧ z_g w9 b = some e ∧ z_un g f (p - z_sz x) ∧ z_cs g (p - z_sz x) (tx_dg x)) (fun _ _ => False) := by
  refine z_body hl (by decide) rfl (Nat.le_of_ble_eq_true rfl) ?_
  show z_J G l mJ6_getChars_ba4f3 _ 0 [(0, _), (1, _), (2, _)] [] _ 0 0
  refine j_iload_n dJ6_getChars_ba4f3_0 rfl ?_
  refine j_istore (lo' := [(5, _), (0, _), (1, _), (2, _)]) dJ6_getChars_ba4f3_1 (by decide) rfl ?_
  refine j_iload_n dJ6_getChars_ba4f3_3 rfl ?_
  refine j_if_ge (tgt := 11) dJ6_getChars_ba4f3_4 (by decide) (fun c_4_5 => ?_) (fun c_4_5 => ?_)
  · have hx : ¬ x < 0 := Int32.not_lt.mpr c_4_5
    refine j_iconst (v := 0) dJ6_getChars_ba4f3_11 (by decide) ?_
    refine j_istore (lo' := [(6, _), (5, _), (0, _), (1, _), (2, _)]) dJ6_getChars_ba4f3_12 (by decide) rfl ?_
    refine j_iload dJ6_getChars_ba4f3_14 rfl ?_
    refine j_if_ne (tgt := 22) dJ6_getChars_ba4f3_16 (by decide) (fun c_16_10 => ?_) (fun c_16_10 => ?_)
    · exact absurd rfl c_16_10
    · refine j_iload_n dJ6_getChars_ba4f3_19 rfl ?_
      refine j_ineg dJ6_getChars_ba4f3_20 ?_
      refine j_istore_n (lo' := [(0, _), (6, _), (5, _), (1, _), (2, _)]) dJ6_getChars_ba4f3_21 (by decide) rfl ?_
      have hi : (-x).toInt = -(x.toInt.natAbs : Int) := z_ngI hx
      have hsz : z_sz x = 0 + z_dg x.toInt.natAbs := by unfold z_sz; rw [if_neg hx]
      have hdx : tx_dg x = [] ++ tx_w x.toInt.natAbs := by unfold tx_dg; rw [if_neg hx]
      have hna : x.toInt.natAbs ≤ 2147483648 := by have h7 := Int32.le_toInt x; have h8 := Int32.toInt_lt x; omega
      have hwl := tx_wl (x.toInt.natAbs + 1) _ (by omega) hna
      have loop22 : ∀ (n9 : Nat) (w1 : z_W) (i : Int32) (W p1 : Nat) (F : Nat → Value) (T : List Int32), (W < n9) → (i.toInt = -(W : Int)) → (W ≤ 2147483648) → (0 + z_dg W ≤ p1) → (p1 ≤ N) → (z_fw ρ w w1) → (z_g w1 m = some (.inl (2, N, F))) → (z_by F) → (z_g w1 b = some e) → (tx_w x.toInt.natAbs = tx_w W ++ T) → (p1 + T.length = p) → (z_un F f p1 ∧ z_cs F p1 T) → z_J G l mJ6_getChars_ba4f3 (10, 0, 0, w, (fun v w9 => ∃ (r : Int32) (g : Nat → Value), v = some (.int r) ∧ z_fw ρ w w9 ∧ z_g w9 m = some (.inl (2, N, g)) ∧ z_by g ∧ z_g w9 b = some e ∧ z_un g f (p - z_sz x) ∧ z_cs g (p - z_sz x) (tx_dg x)), (fun _ _ => False)) 22 [(0, .int i), (1, .int (nI p)), (2, .ref m), (5, .int (nI p1)), (6, .int 0)] [] w1 0 0 := by
        intro n9
        induction n9 with
        | zero => intro w1 i W p1 F T k0 k1 kw kp kN k2 k3 k4 k5 kT kl ku; exact absurd k0 (Nat.not_lt_zero _)
        | succ n9 ih =>
          intro w1 i W p1 F T k0 k1 kw kp kN k2 k3 k4 k5 kT kl ku
          refine j_iload_n dJ6_getChars_ba4f3_22 rfl ?_
          refine j_bipush (v := (-100)) dJ6_getChars_ba4f3_23 (by decide) ?_
          refine j_icmp_gt (tgt := 72) dJ6_getChars_ba4f3_25 (by decide) (fun c_25_28 => ?_) (fun c_25_28 => ?_)
          · have hW1 : W < 100 := by have c9 := Int32.lt_iff_toInt_lt.mp c_25_28; rw [k1, show (-100 : Int32).toInt = -100 from rfl] at c9; omega
            have hdg := z_dg_in W
            refine j_aload_n dJ6_getChars_ba4f3_72 rfl rfl ?_
            refine j_iinc (lo' := [(5, _), (0, _), (1, _), (2, _), (6, _)]) dJ6_getChars_ba4f3_73 rfl (z_dcI (by omega)) (by decide) rfl ?_
            refine j_iload dJ6_getChars_ba4f3_76 rfl ?_
            refine j_gets dJ6_getChars_ba4f3_78 (List.mem_of_getElem? (i := 5) rfl) rfl (z_w 703 ((lwt_3_5 28).trans rfl) (by decide +kernel)) ?_
            refine j_iload_n dJ6_getChars_ba4f3_81 rfl ?_
            refine j_ineg dJ6_getChars_ba4f3_82 ?_
            refine j_baldE (k := 3) (N := 100) (F := z_dgc 3) dJ6_getChars_ba4f3_83 (fun U q9 h hk9 => h.2.2.2.2.2.1 3 q9 (by decide) hk9) (z_vpin (z_negI k1 (by omega)) hW1) ?_
            refine j_bastW (w' := _) dJ6_getChars_ba4f3_84 k3 (vp_in_nI (by omega) (by omega)) rfl ?_
            refine j_seal hm ?_
            intro w2 u2
            have g2_b := (u2.2.1 _ hb).trans k5
            have g2_m := u2.1
            refine j_iload_n dJ6_getChars_ba4f3_85 rfl ?_
            refine j_bipush (v := (-9)) dJ6_getChars_ba4f3_86 (by decide) ?_
            refine j_icmp_ge (tgt := 104) dJ6_getChars_ba4f3_88 (by decide) (fun c_88_45 => ?_) (fun c_88_45 => ?_)
            · have hW2 : W < 10 := by have c9 := Int32.le_iff_toInt_le.mp c_88_45; rw [k1, show (-9 : Int32).toInt = -9 from rfl] at c9; omega
              have hd2 : z_dg W = 1 := z_dgL (k := 1) ⟨Or.inl rfl, by show _ < 10; omega⟩ (by omega)
              refine j_iload dJ6_getChars_ba4f3_104 rfl ?_
              refine j_if_eq (tgt := 118) dJ6_getChars_ba4f3_106 (by decide) (fun c_106_49 => ?_) (fun c_106_49 => ?_)
              · refine j_iload dJ6_getChars_ba4f3_118 rfl ?_
                refine j_iret dJ6_getChars_ba4f3_120 rfl rfl ?_ (Nat.le_of_ble_eq_true rfl) (Nat.le_of_ble_eq_true rfl)
                have hl7 : (tx_w W ++ T).length = z_dg x.toInt.natAbs := by rw [← kT]; exact hwl
                rw [List.length_append, tx_wl (W + 1) W (by omega) kw] at hl7
                exact ⟨_, _, rfl, (k2.tr (u2.fw hm hm2)), g2_m, z_byU k4 (z_fB _), g2_b, z_wf (z_wr (z_cla (by omega)) (by omega) (tx_y3 (z_negI k1 (by omega)) hW1) (ku)) (by omega) (by rw [hdx, kT, tx_w10 hW2]; rfl)⟩
              · exact absurd rfl c_106_49
            · have hW2 : 10 ≤ W := by have c9 : ¬ (-9 : Int32).toInt ≤ i.toInt := fun z => c_88_45 (Int32.le_iff_toInt_le.mpr z); rw [k1, show (-9 : Int32).toInt = -9 from rfl] at c9; omega
              have hd2 : z_dg W = 2 := z_dgL (k := 2) ⟨Or.inr (by show 10 ≤ _; omega), by show _ < 100; omega⟩ (by omega)
              refine j_aload_n dJ6_getChars_ba4f3_91 rfl rfl ?_
              refine j_iinc (lo' := [(5, _), (0, _), (1, _), (2, _), (6, _)]) dJ6_getChars_ba4f3_92 rfl (z_dcI (by omega)) (by decide) rfl ?_
              refine j_iload dJ6_getChars_ba4f3_95 rfl ?_
              refine j_gets dJ6_getChars_ba4f3_97 (List.mem_of_getElem? (i := 6) rfl) rfl (z_w 705 ((lwt_3_6 0).trans rfl) (by decide +kernel)) ?_
              refine j_iload_n dJ6_getChars_ba4f3_100 rfl ?_
              refine j_ineg dJ6_getChars_ba4f3_101 ?_
              refine j_baldE (k := 4) (N := 100) (F := z_dgc 4) dJ6_getChars_ba4f3_102 (fun U q9 h hk9 => h.2.2.2.2.2.1 4 q9 (by decide) hk9) (z_vpin (z_negI k1 (by omega)) hW1) ?_
              refine j_bastW (w' := _) dJ6_getChars_ba4f3_103 g2_m (vp_in_nI (by omega) (by omega)) rfl ?_
              refine j_seal hm ?_
              intro w3 u3
              have g3_b := (u3.2.1 _ hb).trans g2_b
              have g3_m := u3.1
              refine j_iload dJ6_getChars_ba4f3_104 rfl ?_
              refine j_if_eq (tgt := 118) dJ6_getChars_ba4f3_106 (by decide) (fun c_106_71 => ?_) (fun c_106_71 => ?_)
              · refine j_iload dJ6_getChars_ba4f3_118 rfl ?_
                refine j_iret dJ6_getChars_ba4f3_120 rfl rfl ?_ (Nat.le_of_ble_eq_true rfl) (Nat.le_of_ble_eq_true rfl)
                have hl7 : (tx_w W ++ T).length = z_dg x.toInt.natAbs := by rw [← kT]; exact hwl
                rw [List.length_append, tx_wl (W + 1) W (by omega) kw] at hl7
                exact ⟨_, _, rfl, ((k2.tr (u2.fw hm hm2)).tr (u3.fw hm hm2)), g3_m, z_byU (z_byU k4 (z_fB _)) (z_fB _), g3_b, z_wf (z_wr (z_cla (by omega)) (by omega) (tx_y4 (z_negI k1 (by omega)) hW1) (z_wr (z_cla (by omega)) (by omega) (tx_y3 (z_negI k1 (by omega)) hW1) (ku))) (by omega) (by rw [hdx, kT, tx_w2 hW2 hW1]; rfl)⟩
              · exact absurd rfl c_106_71
          · have hW1 : 100 ≤ W := by have c9 : ¬ (-100 : Int32).toInt < i.toInt := fun z => c_25_28 (Int32.lt_iff_toInt_lt.mpr z); rw [k1, show (-100 : Int32).toInt = -100 from rfl] at c9; omega
            have hdg := z_dg100 (w := W) hW1 kw
            refine j_iload_n dJ6_getChars_ba4f3_28 rfl ?_
            refine j_bipush (v := 100) dJ6_getChars_ba4f3_29 (by decide) ?_
            refine j_idiv dJ6_getChars_ba4f3_31 (by decide) ?_
            refine j_istore_n (lo' := [(3, _), (0, _), (1, _), (2, _), (5, _), (6, _)]) dJ6_getChars_ba4f3_32 (by decide) rfl ?_
            refine j_iload_n dJ6_getChars_ba4f3_33 rfl ?_
            refine j_bipush (v := 100) dJ6_getChars_ba4f3_34 (by decide) ?_
            refine j_imul dJ6_getChars_ba4f3_36 ?_
            refine j_iload_n dJ6_getChars_ba4f3_37 rfl ?_
            refine j_isub dJ6_getChars_ba4f3_38 ?_
            refine j_istore (lo' := [(4, _), (3, _), (0, _), (1, _), (2, _), (5, _), (6, _)]) dJ6_getChars_ba4f3_39 (by decide) rfl ?_
            refine j_iload_n dJ6_getChars_ba4f3_41 rfl ?_
            refine j_istore_n (lo' := [(0, _), (4, _), (3, _), (1, _), (2, _), (5, _), (6, _)]) dJ6_getChars_ba4f3_42 (by decide) rfl ?_
            refine j_aload_n dJ6_getChars_ba4f3_43 rfl rfl ?_
            refine j_iinc (lo' := [(5, _), (0, _), (4, _), (3, _), (1, _), (2, _), (6, _)]) dJ6_getChars_ba4f3_44 rfl (z_dcI (by omega)) (by decide) rfl ?_
            refine j_iload dJ6_getChars_ba4f3_47 rfl ?_
            refine j_gets dJ6_getChars_ba4f3_49 (List.mem_of_getElem? (i := 5) rfl) rfl (z_w 703 ((lwt_3_5 28).trans rfl) (by decide +kernel)) ?_
            refine j_iload dJ6_getChars_ba4f3_52 rfl ?_
            refine j_baldE (k := 3) (N := 100) (F := z_dgc 3) dJ6_getChars_ba4f3_54 (fun U q9 h hk9 => h.2.2.2.2.2.1 3 q9 (by decide) hk9) (z_vpin (z_remI k1 kw) (Nat.mod_lt _ (by decide))) ?_
            refine j_bastW (w' := _) dJ6_getChars_ba4f3_55 k3 (vp_in_nI (by omega) (by omega)) rfl ?_
            refine j_seal hm ?_
            intro w4 u4
            have g4_b := (u4.2.1 _ hb).trans k5
            have g4_m := u4.1
            refine j_aload_n dJ6_getChars_ba4f3_56 rfl rfl ?_
            refine j_iinc (lo' := [(5, _), (0, _), (4, _), (3, _), (1, _), (2, _), (6, _)]) dJ6_getChars_ba4f3_57 rfl (z_dcI (by omega)) (by decide) rfl ?_
            refine j_iload dJ6_getChars_ba4f3_60 rfl ?_
            refine j_gets dJ6_getChars_ba4f3_62 (List.mem_of_getElem? (i := 6) rfl) rfl (z_w 705 ((lwt_3_6 0).trans rfl) (by decide +kernel)) ?_
            refine j_iload dJ6_getChars_ba4f3_65 rfl ?_
            refine j_baldE (k := 4) (N := 100) (F := z_dgc 4) dJ6_getChars_ba4f3_67 (fun U q9 h hk9 => h.2.2.2.2.2.1 4 q9 (by decide) hk9) (z_vpin (z_remI k1 kw) (Nat.mod_lt _ (by decide))) ?_
            refine j_bastW (w' := _) dJ6_getChars_ba4f3_68 g4_m (vp_in_nI (by omega) (by omega)) rfl ?_
            refine j_seal hm ?_
            intro w5 u5
            have g5_b := (u5.2.1 _ hb).trans g4_b
            have g5_m := u5.1
            refine j_goto (tgt := 22) dJ6_getChars_ba4f3_69 (by decide) ?_
            exact j_lo2 (ih w5 _ (W / 100) (p1 - 1 - 1) _ _ (by omega) (z_divI k1 kw) (by omega) (by have := z_dg100 (w := W) hW1 kw; omega) (by omega) ((k2.tr (u4.fw hm hm2)).tr (u5.fw hm hm2)) g5_m (z_byU (z_byU k4 (z_fB _)) (z_fB _)) g5_b (kT.trans (by rw [tx_w100 hW1, List.append_assoc]; rfl)) (by show p1 - 1 - 1 + (T.length + 1 + 1) = p; have := z_dg100 (w := W) hW1 kw; omega) (z_wr (z_cla (by omega)) (by omega) (tx_y4 (z_remI k1 kw) (Nat.mod_lt _ (by decide))) (z_wr (z_cla (by omega)) (by omega) (tx_y3 (z_remI k1 kw) (Nat.mod_lt _ (by decide))) (ku)))) (z_q1 rfl (z_q1 rfl (z_q1 rfl (z_q1 rfl (z_q1 rfl z_q0)))))
      exact j_lo2 (loop22 (x.toInt.natAbs + 1) w _ x.toInt.natAbs p f [] (by omega) hi hna (by omega) hpN z_fw.rf gm hby gb (List.append_nil _).symm rfl ⟨fun _ _ => rfl, z_cs0⟩) (z_q1 rfl (z_q1 rfl (z_q1 rfl (z_q1 rfl (z_q1 rfl z_q0)))))
  · have hx : x < 0 := Int32.not_le.mp c_4_5
    refine j_iconst (v := 1) dJ6_getChars_ba4f3_7 (by decide) ?_
    refine j_goto (tgt := 12) dJ6_getChars_ba4f3_8 (by decide) ?_
    refine j_istore (lo' := [(6, _), (5, _), (0, _), (1, _), (2, _)]) dJ6_getChars_ba4f3_12 (by decide) rfl ?_
    refine j_iload dJ6_getChars_ba4f3_14 rfl ?_
    refine j_if_ne (tgt := 22) dJ6_getChars_ba4f3_16 (by decide) (fun c_16_122 => ?_) (fun c_16_122 => ?_)
    · have hi : (x).toInt = -(x.toInt.natAbs : Int) := z_poI hx
      have hsz : z_sz x = 1 + z_dg x.toInt.natAbs := by unfold z_sz; rw [if_pos hx]
      have hdx : tx_dg x = [45] ++ tx_w x.toInt.natAbs := by unfold tx_dg; rw [if_pos hx]
      have hna : x.toInt.natAbs ≤ 2147483648 := by have h7 := Int32.le_toInt x; have h8 := Int32.toInt_lt x; omega
      have hwl := tx_wl (x.toInt.natAbs + 1) _ (by omega) hna
      have loop22 : ∀ (n9 : Nat) (w6 : z_W) (i : Int32) (W p1 : Nat) (F : Nat → Value) (T : List Int32), (W < n9) → (i.toInt = -(W : Int)) → (W ≤ 2147483648) → (1 + z_dg W ≤ p1) → (p1 ≤ N) → (z_fw ρ w w6) → (z_g w6 m = some (.inl (2, N, F))) → (z_by F) → (z_g w6 b = some e) → (tx_w x.toInt.natAbs = tx_w W ++ T) → (p1 + T.length = p) → (z_un F f p1 ∧ z_cs F p1 T) → z_J G l mJ6_getChars_ba4f3 (10, 0, 0, w, (fun v w9 => ∃ (r : Int32) (g : Nat → Value), v = some (.int r) ∧ z_fw ρ w w9 ∧ z_g w9 m = some (.inl (2, N, g)) ∧ z_by g ∧ z_g w9 b = some e ∧ z_un g f (p - z_sz x) ∧ z_cs g (p - z_sz x) (tx_dg x)), (fun _ _ => False)) 22 [(0, .int i), (1, .int (nI p)), (2, .ref m), (5, .int (nI p1)), (6, .int 1)] [] w6 0 0 := by
        intro n9
        induction n9 with
        | zero => intro w6 i W p1 F T k0 k1 kw kp kN k2 k3 k4 k5 kT kl ku; exact absurd k0 (Nat.not_lt_zero _)
        | succ n9 ih =>
          intro w6 i W p1 F T k0 k1 kw kp kN k2 k3 k4 k5 kT kl ku
          refine j_iload_n dJ6_getChars_ba4f3_22 rfl ?_
          refine j_bipush (v := (-100)) dJ6_getChars_ba4f3_23 (by decide) ?_
          refine j_icmp_gt (tgt := 72) dJ6_getChars_ba4f3_25 (by decide) (fun c_25_136 => ?_) (fun c_25_136 => ?_)
          · have hW1 : W < 100 := by have c9 := Int32.lt_iff_toInt_lt.mp c_25_136; rw [k1, show (-100 : Int32).toInt = -100 from rfl] at c9; omega
            have hdg := z_dg_in W
            refine j_aload_n dJ6_getChars_ba4f3_72 rfl rfl ?_
            refine j_iinc (lo' := [(5, _), (0, _), (1, _), (2, _), (6, _)]) dJ6_getChars_ba4f3_73 rfl (z_dcI (by omega)) (by decide) rfl ?_
            refine j_iload dJ6_getChars_ba4f3_76 rfl ?_
            refine j_gets dJ6_getChars_ba4f3_78 (List.mem_of_getElem? (i := 5) rfl) rfl (z_w 703 ((lwt_3_5 28).trans rfl) (by decide +kernel)) ?_
            refine j_iload_n dJ6_getChars_ba4f3_81 rfl ?_
            refine j_ineg dJ6_getChars_ba4f3_82 ?_
            refine j_baldE (k := 3) (N := 100) (F := z_dgc 3) dJ6_getChars_ba4f3_83 (fun U q9 h hk9 => h.2.2.2.2.2.1 3 q9 (by decide) hk9) (z_vpin (z_negI k1 (by omega)) hW1) ?_
            refine j_bastW (w' := _) dJ6_getChars_ba4f3_84 k3 (vp_in_nI (by omega) (by omega)) rfl ?_
            refine j_seal hm ?_
            intro w7 u7
            have g7_b := (u7.2.1 _ hb).trans k5
            have g7_m := u7.1
            refine j_iload_n dJ6_getChars_ba4f3_85 rfl ?_
            refine j_bipush (v := (-9)) dJ6_getChars_ba4f3_86 (by decide) ?_
            refine j_icmp_ge (tgt := 104) dJ6_getChars_ba4f3_88 (by decide) (fun c_88_153 => ?_) (fun c_88_153 => ?_)
            · have hW2 : W < 10 := by have c9 := Int32.le_iff_toInt_le.mp c_88_153; rw [k1, show (-9 : Int32).toInt = -9 from rfl] at c9; omega
              have hd2 : z_dg W = 1 := z_dgL (k := 1) ⟨Or.inl rfl, by show _ < 10; omega⟩ (by omega)
              refine j_iload dJ6_getChars_ba4f3_104 rfl ?_
              refine j_if_eq (tgt := 118) dJ6_getChars_ba4f3_106 (by decide) (fun c_106_157 => ?_) (fun c_106_157 => ?_)
              · exact absurd c_106_157 (by decide)
              · refine j_aload_n dJ6_getChars_ba4f3_109 rfl rfl ?_
                refine j_iinc (lo' := [(5, _), (0, _), (1, _), (2, _), (6, _)]) dJ6_getChars_ba4f3_110 rfl (z_dcI (by omega)) (by decide) rfl ?_
                refine j_iload dJ6_getChars_ba4f3_113 rfl ?_
                refine j_bipush (v := 45) dJ6_getChars_ba4f3_115 (by decide) ?_
                refine j_bastW (w' := _) dJ6_getChars_ba4f3_117 g7_m (vp_in_nI (by omega) (by omega)) rfl ?_
                refine j_seal hm ?_
                intro w8 u8
                have g8_b := (u8.2.1 _ hb).trans g7_b
                have g8_m := u8.1
                refine j_iload dJ6_getChars_ba4f3_118 rfl ?_
                refine j_iret dJ6_getChars_ba4f3_120 rfl rfl ?_ (Nat.le_of_ble_eq_true rfl) (Nat.le_of_ble_eq_true rfl)
                have hl7 : (tx_w W ++ T).length = z_dg x.toInt.natAbs := by rw [← kT]; exact hwl
                rw [List.length_append, tx_wl (W + 1) W (by omega) kw] at hl7
                exact ⟨_, _, rfl, ((k2.tr (u7.fw hm hm2)).tr (u8.fw hm hm2)), g8_m, z_byU (z_byU k4 (z_fB _)) (z_fB _), g8_b, z_wf (z_wr (z_cla (by omega)) (by omega) (show (45 : Int32).toInt8.toInt32 = (45 : Int32) by decide) (z_wr (z_cla (by omega)) (by omega) (tx_y3 (z_negI k1 (by omega)) hW1) (ku))) (by omega) (by rw [hdx, kT, tx_w10 hW2]; rfl)⟩
            · have hW2 : 10 ≤ W := by have c9 : ¬ (-9 : Int32).toInt ≤ i.toInt := fun z => c_88_153 (Int32.le_iff_toInt_le.mpr z); rw [k1, show (-9 : Int32).toInt = -9 from rfl] at c9; omega
              have hd2 : z_dg W = 2 := z_dgL (k := 2) ⟨Or.inr (by show 10 ≤ _; omega), by show _ < 100; omega⟩ (by omega)
              refine j_aload_n dJ6_getChars_ba4f3_91 rfl rfl ?_
              refine j_iinc (lo' := [(5, _), (0, _), (1, _), (2, _), (6, _)]) dJ6_getChars_ba4f3_92 rfl (z_dcI (by omega)) (by decide) rfl ?_
              refine j_iload dJ6_getChars_ba4f3_95 rfl ?_
              refine j_gets dJ6_getChars_ba4f3_97 (List.mem_of_getElem? (i := 6) rfl) rfl (z_w 705 ((lwt_3_6 0).trans rfl) (by decide +kernel)) ?_
              refine j_iload_n dJ6_getChars_ba4f3_100 rfl ?_
              refine j_ineg dJ6_getChars_ba4f3_101 ?_
              refine j_baldE (k := 4) (N := 100) (F := z_dgc 4) dJ6_getChars_ba4f3_102 (fun U q9 h hk9 => h.2.2.2.2.2.1 4 q9 (by decide) hk9) (z_vpin (z_negI k1 (by omega)) hW1) ?_
              refine j_bastW (w' := _) dJ6_getChars_ba4f3_103 g7_m (vp_in_nI (by omega) (by omega)) rfl ?_
              refine j_seal hm ?_
              intro w9 u9
              have g9_b := (u9.2.1 _ hb).trans g7_b
              have g9_m := u9.1
              refine j_iload dJ6_getChars_ba4f3_104 rfl ?_
              refine j_if_eq (tgt := 118) dJ6_getChars_ba4f3_106 (by decide) (fun c_106_188 => ?_) (fun c_106_188 => ?_)
              · exact absurd c_106_188 (by decide)
              · refine j_aload_n dJ6_getChars_ba4f3_109 rfl rfl ?_
                refine j_iinc (lo' := [(5, _), (0, _), (1, _), (2, _), (6, _)]) dJ6_getChars_ba4f3_110 rfl (z_dcI (by omega)) (by decide) rfl ?_
                refine j_iload dJ6_getChars_ba4f3_113 rfl ?_
                refine j_bipush (v := 45) dJ6_getChars_ba4f3_115 (by decide) ?_
                refine j_bastW (w' := _) dJ6_getChars_ba4f3_117 g9_m (vp_in_nI (by omega) (by omega)) rfl ?_
                refine j_seal hm ?_
                intro w10 u10
                have g10_b := (u10.2.1 _ hb).trans g9_b
                have g10_m := u10.1
                refine j_iload dJ6_getChars_ba4f3_118 rfl ?_
                refine j_iret dJ6_getChars_ba4f3_120 rfl rfl ?_ (Nat.le_of_ble_eq_true rfl) (Nat.le_of_ble_eq_true rfl)
                have hl7 : (tx_w W ++ T).length = z_dg x.toInt.natAbs := by rw [← kT]; exact hwl
                rw [List.length_append, tx_wl (W + 1) W (by omega) kw] at hl7
                exact ⟨_, _, rfl, (((k2.tr (u7.fw hm hm2)).tr (u9.fw hm hm2)).tr (u10.fw hm hm2)), g10_m, z_byU (z_byU (z_byU k4 (z_fB _)) (z_fB _)) (z_fB _), g10_b, z_wf (z_wr (z_cla (by omega)) (by omega) (show (45 : Int32).toInt8.toInt32 = (45 : Int32) by decide) (z_wr (z_cla (by omega)) (by omega) (tx_y4 (z_negI k1 (by omega)) hW1) (z_wr (z_cla (by omega)) (by omega) (tx_y3 (z_negI k1 (by omega)) hW1) (ku)))) (by omega) (by rw [hdx, kT, tx_w2 hW2 hW1]; rfl)⟩
          · have hW1 : 100 ≤ W := by have c9 : ¬ (-100 : Int32).toInt < i.toInt := fun z => c_25_136 (Int32.lt_iff_toInt_lt.mpr z); rw [k1, show (-100 : Int32).toInt = -100 from rfl] at c9; omega
            have hdg := z_dg100 (w := W) hW1 kw
            refine j_iload_n dJ6_getChars_ba4f3_28 rfl ?_
            refine j_bipush (v := 100) dJ6_getChars_ba4f3_29 (by decide) ?_
            refine j_idiv dJ6_getChars_ba4f3_31 (by decide) ?_
            refine j_istore_n (lo' := [(3, _), (0, _), (1, _), (2, _), (5, _), (6, _)]) dJ6_getChars_ba4f3_32 (by decide) rfl ?_
            refine j_iload_n dJ6_getChars_ba4f3_33 rfl ?_
            refine j_bipush (v := 100) dJ6_getChars_ba4f3_34 (by decide) ?_
            refine j_imul dJ6_getChars_ba4f3_36 ?_
            refine j_iload_n dJ6_getChars_ba4f3_37 rfl ?_
            refine j_isub dJ6_getChars_ba4f3_38 ?_
            refine j_istore (lo' := [(4, _), (3, _), (0, _), (1, _), (2, _), (5, _), (6, _)]) dJ6_getChars_ba4f3_39 (by decide) rfl ?_
            refine j_iload_n dJ6_getChars_ba4f3_41 rfl ?_
            refine j_istore_n (lo' := [(0, _), (4, _), (3, _), (1, _), (2, _), (5, _), (6, _)]) dJ6_getChars_ba4f3_42 (by decide) rfl ?_
            refine j_aload_n dJ6_getChars_ba4f3_43 rfl rfl ?_
            refine j_iinc (lo' := [(5, _), (0, _), (4, _), (3, _), (1, _), (2, _), (6, _)]) dJ6_getChars_ba4f3_44 rfl (z_dcI (by omega)) (by decide) rfl ?_
            refine j_iload dJ6_getChars_ba4f3_47 rfl ?_
            refine j_gets dJ6_getChars_ba4f3_49 (List.mem_of_getElem? (i := 5) rfl) rfl (z_w 703 ((lwt_3_5 28).trans rfl) (by decide +kernel)) ?_
            refine j_iload dJ6_getChars_ba4f3_52 rfl ?_
            refine j_baldE (k := 3) (N := 100) (F := z_dgc 3) dJ6_getChars_ba4f3_54 (fun U q9 h hk9 => h.2.2.2.2.2.1 3 q9 (by decide) hk9) (z_vpin (z_remI k1 kw) (Nat.mod_lt _ (by decide))) ?_
            refine j_bastW (w' := _) dJ6_getChars_ba4f3_55 k3 (vp_in_nI (by omega) (by omega)) rfl ?_
            refine j_seal hm ?_
            intro w11 u11
            have g11_b := (u11.2.1 _ hb).trans k5
            have g11_m := u11.1
            refine j_aload_n dJ6_getChars_ba4f3_56 rfl rfl ?_
            refine j_iinc (lo' := [(5, _), (0, _), (4, _), (3, _), (1, _), (2, _), (6, _)]) dJ6_getChars_ba4f3_57 rfl (z_dcI (by omega)) (by decide) rfl ?_
            refine j_iload dJ6_getChars_ba4f3_60 rfl ?_
            refine j_gets dJ6_getChars_ba4f3_62 (List.mem_of_getElem? (i := 6) rfl) rfl (z_w 705 ((lwt_3_6 0).trans rfl) (by decide +kernel)) ?_
            refine j_iload dJ6_getChars_ba4f3_65 rfl ?_
            refine j_baldE (k := 4) (N := 100) (F := z_dgc 4) dJ6_getChars_ba4f3_67 (fun U q9 h hk9 => h.2.2.2.2.2.1 4 q9 (by decide) hk9) (z_vpin (z_remI k1 kw) (Nat.mod_lt _ (by decide))) ?_
            refine j_bastW (w' := _) dJ6_getChars_ba4f3_68 g11_m (vp_in_nI (by omega) (by omega)) rfl ?_
            refine j_seal hm ?_
            intro w12 u12
            have g12_b := (u12.2.1 _ hb).trans g11_b
            have g12_m := u12.1
            refine j_goto (tgt := 22) dJ6_getChars_ba4f3_69 (by decide) ?_
            exact j_lo2 (ih w12 _ (W / 100) (p1 - 1 - 1) _ _ (by omega) (z_divI k1 kw) (by omega) (by have := z_dg100 (w := W) hW1 kw; omega) (by omega) ((k2.tr (u11.fw hm hm2)).tr (u12.fw hm hm2)) g12_m (z_byU (z_byU k4 (z_fB _)) (z_fB _)) g12_b (kT.trans (by rw [tx_w100 hW1, List.append_assoc]; rfl)) (by show p1 - 1 - 1 + (T.length + 1 + 1) = p; have := z_dg100 (w := W) hW1 kw; omega) (z_wr (z_cla (by omega)) (by omega) (tx_y4 (z_remI k1 kw) (Nat.mod_lt _ (by decide))) (z_wr (z_cla (by omega)) (by omega) (tx_y3 (z_remI k1 kw) (Nat.mod_lt _ (by decide))) (ku)))) (z_q1 rfl (z_q1 rfl (z_q1 rfl (z_q1 rfl (z_q1 rfl z_q0)))))
      exact j_lo2 (loop22 (x.toInt.natAbs + 1) w _ x.toInt.natAbs p f [] (by omega) hi hna (by omega) hpN z_fw.rf gm hby gb (List.append_nil _).symm rfl ⟨fun _ _ => rfl, z_cs0⟩) (z_q1 rfl (z_q1 rfl (z_q1 rfl (z_q1 rfl (z_q1 rfl z_q0)))))
    · exact absurd c_16_122 (by decide)
set_option maxRecDepth 100000 in
set_option maxHeartbeats 8000000 in
theorem sc_apI0 (hl : l.stackTraces = false) (w : z_W) (ρ a N : Nat) (L : List Int32) (x : Int32) (h : z_sbL w ρ a L N) (hq : L.length + z_sz x ≤ 2 * N + 2) (hN : z_gr N (L.length + z_sz x) ≤ 5000) (hρ : ρ < 64) (hf : z_fn w) : z_Con G l mJ5_append_c97b9 16 (z_gr N (L.length + z_sz x) / 16 - N / 16) (2 * (z_gr N (L.length + z_sz x) - N)) w [.ref a, .int x] (fun v w9 => v = some (.ref a) ∧ z_fw ρ w w9 ∧ z_sbL w9 ρ a (L ++ tx_dg x) (z_gr N (L.length + z_sz x))) (fun _ _ => False) := by
  obtain ⟨h1, h2, h3, h4, h5, m, f, ml, ⟨a1, a2, a3, ga, gm, a6⟩, ct⟩ := id h
  have hge := z_gr_ge hq
  have hle := z_gr_le (N := N) (m := L.length + z_sz x)
  have ln : (L ++ tx_dg x).length = L.length + z_sz x := by rw [List.length_append]; rw [tx_dl]
  refine z_body hl (by decide) rfl (Nat.le_of_ble_eq_true rfl) ?_
  show z_J G l mJ5_append_c97b9 _ 0 [(0, _), (1, _)] [] _ 0 0
  refine j_aload_n dJ5_append_c97b9_0 rfl rfl ?_
  refine j_getf dJ5_append_c97b9_1 fJ5_79 ga rfl ?_
  refine j_istore_n (lo' := [(2, _), (0, _), (1, _)]) dJ5_append_c97b9_4 (by decide) rfl ?_
  refine j_iload_n dJ5_append_c97b9_5 rfl ?_
  refine j_iload_n dJ5_append_c97b9_6 rfl ?_
  refine j_callS dJ5_append_c97b9_7 kJ6_stringSize_0f7a4 lJ5_245 stJ6_stringSize_0f7a4 (sb_size hl w x) (Nat.le_of_ble_eq_true rfl) ⟨(by show _ ≤ z_gr N (L.length + z_sz x) / 16 - N / 16; omega), (by show _ ≤ 2 * (z_gr N (L.length + z_sz x) - N); omega)⟩ rfl (Nat.le_of_ble_eq_true rfl) rfl rfl (fun _ _ h => h.elim) ?_
  rintro _ _ ⟨rfl, hw9⟩
  refine j_w w hw9 ?_
  refine j_iadd dJ5_append_c97b9_10 ?_
  refine j_top (congrArg Value.int (nI_add L.length (z_sz x))) ?_
  refine j_istore_n (lo' := [(3, _), (2, _), (0, _), (1, _)]) dJ5_append_c97b9_11 (by decide) rfl ?_
  refine j_aload_n dJ5_append_c97b9_12 rfl rfl ?_
  refine j_iload_n dJ5_append_c97b9_13 rfl ?_
  refine j_callP (x := yJ5_isLatin1_aae02) (q := (RJ4, TJ4, 4)) dJ5_append_c97b9_14 kJ5_ensureCapacityInternal_d00df lJ5_100 inJ5_ensureCapacityInternal_d00df ⟨(z_w 640 ((lwt_3_3 25).trans rfl) (by decide +kernel)), rfl, (z_wn 603 ((lwt_3_2 18).trans rfl) (by decide +kernel))⟩ ga rfl (sc_ens hl w ρ a N (L.length + z_sz x) L h (by omega) (by omega) hρ hf) (Nat.le_of_ble_eq_true rfl) ⟨(by show _ ≤ z_gr N (L.length + z_sz x) / 16 - N / 16; omega), (by show _ ≤ 2 * (z_gr N (L.length + z_sz x) - N); omega)⟩ rfl (Nat.le_of_ble_eq_true rfl) rfl rfl (fun _ _ h => h.elim) ?_
  rintro _ w1 ⟨rfl, fw1, hs1⟩
  have hf1 := fw1.2.1 hf
  obtain ⟨-, -, h3_1, h4_1, h5_1, m_1, f_1, ml_1, ⟨a1_1, a2_1, a3_1, ga_1, gm_1, a6_1⟩, ct_1⟩ := id hs1
  refine j_aload_n dJ5_append_c97b9_17 rfl rfl ?_
  refine j_callU (q := (RJ4, TJ4, 4)) dJ5_append_c97b9_18 kJ5_isLatin1_aae02 cuJ5_83_J4 ga_1 rfl (sb_lat hl w1 _ _ _ _ ga_1) (Nat.le_of_ble_eq_true rfl) ⟨(by show _ ≤ z_gr N (L.length + z_sz x) / 16 - N / 16; omega), (by show _ ≤ 2 * (z_gr N (L.length + z_sz x) - N); omega)⟩ rfl (Nat.le_of_ble_eq_true rfl) rfl rfl (fun _ _ h => h.elim) ?_
  rintro _ _ ⟨rfl, hw10⟩
  refine j_w w1 hw10 ?_
  refine j_if_eq (tgt := 37) dJ5_append_c97b9_21 (by decide) (fun c_21_23 => ?_) (fun c_21_23 => ?_)
  · exact absurd c_21_23 (by decide)
  · refine j_iload_n dJ5_append_c97b9_24 rfl ?_
    refine j_iload_n dJ5_append_c97b9_25 rfl ?_
    refine j_aload_n dJ5_append_c97b9_26 rfl rfl ?_
    refine j_getf dJ5_append_c97b9_27 fJ5_15 ga_1 rfl ?_
    refine j_callS dJ5_append_c97b9_30 kJ6_getChars_ba4f3 lJ5_248 stJ6_getChars_ba4f3 (sc_getC hl w1 ρ m_1 (z_gr N (L.length + z_sz x)) (L.length + z_sz x) a f_1 _ x a1_1 a2_1 gm_1 a6_1 (Ne.symm a3_1) ga_1 (by omega) hge hN) (Nat.le_of_ble_eq_true rfl) ⟨(by show _ ≤ z_gr N (L.length + z_sz x) / 16 - N / 16; omega), (by show _ ≤ 2 * (z_gr N (L.length + z_sz x) - N); omega)⟩ rfl (Nat.le_of_ble_eq_true rfl) rfl rfl (fun _ _ h => h.elim) ?_
    rintro _ w2 ⟨r2, f9_2, rfl, fw2, gm9_2, by9_2, ga9_2, un9_2, cs9_2⟩
    have hf2 := fw2.2.1 hf1
    rw [Nat.add_sub_cancel] at un9_2 cs9_2
    refine j_pop dJ5_append_c97b9_33 rfl ?_
    refine j_goto (tgt := 48) dJ5_append_c97b9_34 (by decide) ?_
    refine j_aload_n dJ5_append_c97b9_48 rfl rfl ?_
    refine j_iload_n dJ5_append_c97b9_49 rfl ?_
    refine j_put (w' := _) dJ5_append_c97b9_50 fJ5_79 tJ4_3 ga9_2 ⟨rfl, rfl⟩ rfl ?_
    refine j_seal h1 ?_
    intro w3 u3
    have g3_m := (u3.2.1 _ a3_1).trans gm9_2
    have g3_a := u3.1
    have hf3 := u3.2.2.2 hf2
    refine j_aload_n dJ5_append_c97b9_53 rfl rfl ?_
    refine j_aret dJ5_append_c97b9_54 rfl (Or.inl ⟨_, rfl⟩) rfl ?_ (by show _ ≤ z_gr N (L.length + z_sz x) / 16 - N / 16; omega) (by show _ ≤ 2 * (z_gr N (L.length + z_sz x) - N); omega)
    exact ⟨rfl, ((fw1.tr fw2).tr (u3.fw h1 h2)), h1, h2, (by rw [ln]; exact hge), by omega, hN, m_1, _, ml_1, ⟨a1_1, a2_1, a3_1, (by rw [ln]; exact g3_a), g3_m, by9_2⟩, z_ctA (z_ctC ct_1 un9_2) cs9_2⟩
set_option maxRecDepth 100000 in
set_option maxHeartbeats 8000000 in
theorem sc_apI (hl : l.stackTraces = false) (w : z_W) (ρ a N : Nat) (L : List Int32) (x : Int32) (h : z_sbL w ρ a L N) (hq : L.length + z_sz x ≤ 2 * N + 2) (hN : z_gr N (L.length + z_sz x) ≤ 5000) (hρ : ρ < 64) (hf : z_fn w) : z_Con G l mJ4_append_bf812 17 (z_gr N (L.length + z_sz x) / 16 - N / 16) (2 * (z_gr N (L.length + z_sz x) - N)) w [.ref a, .int x] (fun v w9 => v = some (.ref a) ∧ z_fw ρ w w9 ∧ z_sbL w9 ρ a (L ++ tx_dg x) (z_gr N (L.length + z_sz x))) (fun _ _ => False) := by
  obtain ⟨h1, h2, h3, h4, h5, m, f, ml, ⟨a1, a2, a3, ga, gm, a6⟩, ct⟩ := id h
  refine z_body hl (by decide) rfl (Nat.le_of_ble_eq_true rfl) ?_
  show z_J G l mJ4_append_bf812 _ 0 [(0, _), (1, _)] [] _ 0 0
  refine j_aload_n dJ4_append_bf812_0 rfl rfl ?_
  refine j_iload_n dJ4_append_bf812_1 rfl ?_
  refine j_callSu (q := (RJ4, TJ4, 4)) dJ4_append_bf812_2 kJ5_append_c97b9 ⟨lJ4_53, (z_w 1978 ((lwg_9 13).trans rfl) (by decide +kernel)), (z_w 594 ((lwt_3_2 9).trans rfl) (by decide +kernel)), inJ5_append_c97b9, (by decide)⟩ ga rfl (sc_apI0 hl w ρ a N L x h hq hN hρ hf) (Nat.le_of_ble_eq_true rfl) ⟨(by show _ ≤ z_gr N (L.length + z_sz x) / 16 - N / 16; omega), (by show _ ≤ 2 * (z_gr N (L.length + z_sz x) - N); omega)⟩ rfl (Nat.le_of_ble_eq_true rfl) rfl rfl (fun _ _ h => h.elim) ?_
  rintro _ w1 ⟨rfl, fw1, hs1⟩
  have hf1 := fw1.2.1 hf
  refine j_pop dJ4_append_bf812_5 rfl ?_
  refine j_aload_n dJ4_append_bf812_6 rfl rfl ?_
  refine j_aret dJ4_append_bf812_7 rfl (Or.inl ⟨_, rfl⟩) rfl ?_ (by show _ ≤ z_gr N (L.length + z_sz x) / 16 - N / 16; omega) (by show _ ≤ 2 * (z_gr N (L.length + z_sz x) - N); omega)
  exact ⟨rfl, fw1, hs1⟩
end ZTxc
end ZM25
section ZM26
section ZTxd
variable {G : z_G} {l : Launch}
def tx_cs (t : String) : List Int32 := if t = " " then [32] else if t = "=" then [61] else []
theorem tx_csl {i : Nat} {t : String × Nat × String} (hi : z_strs[i]? = some t) (ht : t.1 = "LoopdefaultsModel" ∨ t.1 = "LoopdefaultsModel$Hearer") : (tx_cs t.2.2).length = t.2.2.length := by
  have h1 := List.all_eq_true.mp (show z_strs.all (fun t => !(decide (t.1 = "LoopdefaultsModel") || decide (t.1 = "LoopdefaultsModel$Hearer")) || Nat.beq (tx_cs t.2.2).length t.2.2.length) = true by decide +kernel) t (List.mem_of_getElem? hi)
  have h2 : (decide (t.1 = "LoopdefaultsModel") || decide (t.1 = "LoopdefaultsModel$Hearer")) = true := by
    rw [Bool.or_eq_true, decide_eq_true_eq, decide_eq_true_eq]; exact ht
  rw [h2] at h1
  exact Nat.eq_of_beq_eq_true h1
theorem tx_csb {t : String} {j : Nat} {x : Int32} (h : (tx_cs t)[j]? = some x) : x = z_tbc t := by
  unfold tx_cs at h
  unfold z_tbc
  by_cases e : t = " "
  · rw [if_pos e] at h ⊢
    match j, h with
    | 0, h => cases h; rfl
  · rw [if_neg e] at h ⊢
    by_cases e2 : t = "="
    · rw [if_pos e2] at h ⊢
      match j, h with
      | 0, h => cases h; rfl
    · rw [if_neg e2] at h
      cases h
theorem tx_cpU {f g : Nat → Value} {sp dp n j : Nat} (h : j < dp) : va_cpy f g sp dp n j = g j := by unfold va_cpy; rw [if_neg (by omega)]
theorem tx_cpI {f g : Nat → Value} {dp n j : Nat} (h : j < n) : va_cpy f g (0 : Int32).toNatClampNeg dp n (dp + j) = f j := by
  show va_cpy f g 0 dp n (dp + j) = f j
  unfold va_cpy
  rw [if_pos (by omega)]
  exact congrArg f (by omega)
def z_txL (w : z_W) (ρ r : Nat) (L : List Int32) : Prop := 1000 ≤ r ∧ r % 64 = ρ ∧ ∃ b f, 1000 ≤ b ∧ b % 64 = ρ ∧ b ≠ r ∧ z_g w r = some (.inr (0, [.ref b, .int 0, .int 0, .int 0])) ∧ z_g w b = some (.inl (2, L.length, f)) ∧ z_ct f L ∧ L.length ≤ 5000
theorem z_txL.tx {w : z_W} {ρ r : Nat} {L : List Int32} (h : z_txL w ρ r L) : z_tx w ρ r L.length := by
  obtain ⟨h1, h2, b, f, h3, h4, h5, h6, h7, -⟩ := h
  exact ⟨h1, h2, b, f, h3, h4, h5, h6, h7⟩
theorem z_txL.fw {w w' : z_W} {ρ σ r : Nat} {L : List Int32} (h : z_txL w ρ r L) (hw : z_fw σ w w') (hne : ρ ≠ σ) : z_txL w' ρ r L := by
  obtain ⟨h1, h2, b, f, h3, h4, h5, h6, h7, h8⟩ := h
  exact ⟨h1, h2, b, f, h3, h4, h5, (hw.g (Or.inr (by omega)) h6), (hw.g (Or.inr (by omega)) h7), h8⟩
set_option maxRecDepth 100000 in
set_option maxHeartbeats 8000000 in
theorem sd_get (hl : l.stackTraces = false) (w : z_W) (ρ m N n b : Nat) (f : Nat → Value) (e : z_E) (i : Nat) (t : String × Nat × String) (hi9 : z_strs[i]? = some t) (ht9 : t.1 = "LoopdefaultsModel" ∨ t.1 = "LoopdefaultsModel$Hearer") (hm : 1000 ≤ m) (hm2 : m % 64 = ρ) (gm : z_g w m = some (.inl (2, N, f))) (hby : z_by f) (hb : b ≠ m) (gb : z_g w b = some e) (hp : n + t.2.2.length ≤ N) (hN : N ≤ 5000) : z_Con G l mJ0_getBytes_840e7 12 0 0 w [.retAddr (10 + i), .ref m, .int (nI n), .int 0] (fun v w9 => v = none ∧ z_fw ρ w w9 ∧ ∃ g, z_g w9 m = some (.inl (2, N, g)) ∧ z_by g ∧ z_g w9 b = some e ∧ z_un g f n ∧ z_cs g n (tx_cs t.2.2)) (fun _ _ => False) := by
  have hl9 := z_strl hi9
  have hlk : (Int32.ofNat t.2.2.length).toNatClampNeg = t.2.2.length := z_cla (n := t.2.2.length) (by omega)
  have hcb : ∀ j, j < t.2.2.length → fits .byte (.int (z_tbc t.2.2)) = true := fun _ _ => by unfold z_tbc; split; decide; split <;> decide
  refine z_body hl (by decide) rfl (Nat.le_of_ble_eq_true rfl) ?_
  show z_J G l mJ0_getBytes_840e7 _ 0 [(0, _), (1, _), (2, _), (3, _)] [] _ 0 0
  refine j_aload_n dJ0_getBytes_840e7_0 rfl rfl ?_
  refine j_callVK (i := i) dJ0_getBytes_840e7_1 kJ0_coder_7d493 lJ0_335 inJ0_coder_7d493 (z_w 785 ((lwg_4 20).trans rfl) (by decide +kernel)) hi9 ht9 (sk_cod hl w i t hi9 ht9) (Nat.le_of_ble_eq_true rfl) ⟨(Nat.le_of_ble_eq_true rfl), (Nat.le_of_ble_eq_true rfl)⟩ rfl (Nat.le_of_ble_eq_true rfl) rfl rfl (fun _ _ h => h.elim) ?_
  rintro _ _ ⟨rfl, hw11⟩
  refine j_w w hw11 ?_
  refine j_iload_n dJ0_getBytes_840e7_4 rfl ?_
  refine j_icmp_ne (tgt := 28) dJ0_getBytes_840e7_5 (by decide) (fun c_5_7 => ?_) (fun c_5_7 => ?_)
  · exact absurd rfl c_5_7
  · refine j_aload_n dJ0_getBytes_840e7_8 rfl rfl ?_
    refine j_getSK (k := 0) dJ0_getBytes_840e7_9 fJ0_9 hi9 ht9 (by decide) rfl ?_
    refine j_iconst (v := 0) dJ0_getBytes_840e7_12 (by decide) ?_
    refine j_aload_n dJ0_getBytes_840e7_13 rfl rfl ?_
    refine j_iload_n dJ0_getBytes_840e7_14 rfl ?_
    refine j_iload_n dJ0_getBytes_840e7_15 rfl ?_
    refine j_ishl dJ0_getBytes_840e7_16 ?_
    refine j_top (congrArg Value.int (sb_shl0 (nI n))) ?_
    refine j_aload_n dJ0_getBytes_840e7_17 rfl rfl ?_
    refine j_getSK (k := 0) dJ0_getBytes_840e7_18 fJ0_9 hi9 ht9 (by decide) rfl ?_
    refine j_alenK (k := 50 + i) (N := t.2.2.length) dJ0_getBytes_840e7_21 (fun U q9 h hk9 => by obtain ⟨f9, hf9, -⟩ := z_cst10 h hi9 hk9; exact ⟨f9, hf9⟩) ?_
    refine j_acopyE (k := 50 + i) (n0 := t.2.2.length) (kd := 2) (ty := .byte) (Pf := fun f => ∀ j, j < t.2.2.length → f j = .int (z_tbc t.2.2)) dJ0_getBytes_840e7_22 (z_w 801 ((lwt_4_1 6).trans rfl) (by decide +kernel)) ac_n ac_s ac_i (fun U q9 h hk9 => by obtain ⟨f9, h7, h8⟩ := z_cst10E h hi9 hk9; exact ⟨f9, h7, fun j hj => ⟨_, h8 j hj⟩, fun j hj => (h8 j hj).1⟩) gm rfl (by decide) (nI_pos (by omega)) (nI_pos (by omega)) (by rw [hlk]; show 0 + _ ≤ _; omega) (by rw [z_cla (by omega), hlk]; omega) (Nat.le_of_ble_eq_true rfl) (Nat.le_of_ble_eq_true rfl) ?_
    intro f9 hf9
    refine j_seal hm ?_
    intro w1 u1
    have g1_b := (u1.2.1 _ hb).trans gb
    have g1_m := u1.1
    refine j_goto (tgt := 43) dJ0_getBytes_840e7_25 (by decide) ?_
    refine j_vret dJ0_getBytes_840e7_43 rfl ?_ (Nat.le_of_ble_eq_true rfl) (Nat.le_of_ble_eq_true rfl)
    exact ⟨rfl, (u1.fw hm hm2), _, g1_m, z_byC (fun j _ h7 => ⟨_, hf9 j (by rw [hlk] at h7; have h8 : j < 0 + t.2.2.length := h7; omega), hcb j (by rw [hlk] at h7; have h8 : j < 0 + t.2.2.length := h7; omega)⟩) hby, g1_b, (by rw [z_cla (by omega)]; exact fun j hj => tx_cpU hj), (by rw [z_cla (by omega), hlk]; exact fun j x hx => have hj : j < t.2.2.length := by { rw [← tx_csl hi9 ht9]; exact (List.getElem?_eq_some_iff.mp hx).1 }; (tx_cpI hj).trans ((hf9 j hj).trans (congrArg Value.int (tx_csb hx).symm)))⟩
set_option maxRecDepth 100000 in
set_option maxHeartbeats 8000000 in
theorem sd_put (hl : l.stackTraces = false) (w : z_W) (ρ a m N n : Nat) (f : Nat → Value) (ml c : Int32) (i : Nat) (t : String × Nat × String) (hi9 : z_strs[i]? = some t) (ht9 : t.1 = "LoopdefaultsModel" ∨ t.1 = "LoopdefaultsModel$Hearer") (a1 : 1000 ≤ m) (a2 : m % 64 = ρ) (a3 : m ≠ a) (ga : z_g w a = some (.inr (1, [.ref m, .int 0, .int ml, .int c]))) (gm : z_g w m = some (.inl (2, N, f))) (hby : z_by f) (hp : n + t.2.2.length ≤ N) (hN : N ≤ 5000) : z_Con G l mJ5_putStringAt_47b60 14 0 0 w [.ref a, .int (nI n), .retAddr (10 + i)] (fun v w9 => v = none ∧ z_fw ρ w w9 ∧ ∃ g, z_g w9 m = some (.inl (2, N, g)) ∧ z_by g ∧ z_g w9 a = some (.inr (1, [.ref m, .int 0, .int ml, .int c])) ∧ z_un g f n ∧ z_cs g n (tx_cs t.2.2)) (fun _ _ => False) := by
  refine z_body hl (by decide) rfl (Nat.le_of_ble_eq_true rfl) ?_
  show z_J G l mJ5_putStringAt_47b60 _ 0 [(0, _), (1, _), (2, _)] [] _ 0 0
  refine j_aload_n dJ5_putStringAt_47b60_0 rfl rfl ?_
  refine j_aload_n dJ5_putStringAt_47b60_1 rfl rfl ?_
  refine j_callP (x := yJ5_isLatin1_aae02) (q := (RJ4, TJ4, 4)) dJ5_putStringAt_47b60_2 kJ5_inflateIfNeededFor_a7421 lJ5_397 inJ5_inflateIfNeededFor_a7421 ⟨(z_w 640 ((lwt_3_3 25).trans rfl) (by decide +kernel)), rfl, (z_wn 793 ((lwg_4 28).trans rfl) (by decide +kernel))⟩ ga rfl (sk_inf hl w a _ _ _ i t hi9 ht9 ga) (Nat.le_of_ble_eq_true rfl) ⟨(Nat.le_of_ble_eq_true rfl), (Nat.le_of_ble_eq_true rfl)⟩ rfl (Nat.le_of_ble_eq_true rfl) rfl rfl (fun _ _ h => h.elim) ?_
  rintro _ _ ⟨rfl, hw12⟩
  refine j_w w hw12 ?_
  refine j_aload_n dJ5_putStringAt_47b60_5 rfl rfl ?_
  refine j_aload_n dJ5_putStringAt_47b60_6 rfl rfl ?_
  refine j_getf dJ5_putStringAt_47b60_7 fJ5_15 ga rfl ?_
  refine j_iload_n dJ5_putStringAt_47b60_10 rfl ?_
  refine j_aload_n dJ5_putStringAt_47b60_11 rfl rfl ?_
  refine j_getf dJ5_putStringAt_47b60_12 fJ5_22 ga rfl ?_
  refine j_callVK (i := i) dJ5_putStringAt_47b60_15 kJ0_getBytes_840e7 lJ5_399 inJ0_getBytes_840e7 (z_w 799 ((lwt_4_1 4).trans rfl) (by decide +kernel)) hi9 ht9 (sd_get hl w ρ m N n a f _ i t hi9 ht9 a1 a2 gm hby (Ne.symm a3) ga hp hN) (Nat.le_of_ble_eq_true rfl) ⟨(Nat.le_of_ble_eq_true rfl), (Nat.le_of_ble_eq_true rfl)⟩ rfl (Nat.le_of_ble_eq_true rfl) rfl rfl (fun _ _ h => h.elim) ?_
  rintro _ w1 ⟨rfl, fw1, g9_1, gm9_1, by9_1, ga9_1, un9_1, cs9_1⟩
  refine j_vret dJ5_putStringAt_47b60_18 rfl ?_ (Nat.le_of_ble_eq_true rfl) (Nat.le_of_ble_eq_true rfl)
  exact ⟨rfl, fw1, _, gm9_1, by9_1, ga9_1, un9_1, cs9_1⟩
set_option maxRecDepth 100000 in
set_option maxHeartbeats 8000000 in
theorem sd_apS0 (hl : l.stackTraces = false) (w : z_W) (ρ a N : Nat) (L : List Int32) (i : Nat) (t : String × Nat × String) (hi9 : z_strs[i]? = some t) (ht9 : t.1 = "LoopdefaultsModel" ∨ t.1 = "LoopdefaultsModel$Hearer") (h : z_sbL w ρ a L N) (hq : L.length + t.2.2.length ≤ 2 * N + 2) (hN : z_gr N (L.length + t.2.2.length) ≤ 5000) (hρ : ρ < 64) (hf : z_fn w) : z_Con G l mJ5_append_cf1ce 16 (z_gr N (L.length + t.2.2.length) / 16 - N / 16) (2 * (z_gr N (L.length + t.2.2.length) - N)) w [.ref a, .retAddr (10 + i)] (fun v w9 => v = some (.ref a) ∧ z_fw ρ w w9 ∧ z_sbL w9 ρ a (L ++ tx_cs t.2.2) (z_gr N (L.length + t.2.2.length))) (fun _ _ => False) := by
  obtain ⟨h1, h2, h3, h4, h5, m, f, ml, ⟨a1, a2, a3, ga, gm, a6⟩, ct⟩ := id h
  have hge := z_gr_ge hq
  have hle := z_gr_le (N := N) (m := L.length + t.2.2.length)
  have ln : (L ++ tx_cs t.2.2).length = L.length + t.2.2.length := by rw [List.length_append]; rw [tx_csl hi9 ht9]
  refine z_body hl (by decide) rfl (Nat.le_of_ble_eq_true rfl) ?_
  show z_J G l mJ5_append_cf1ce _ 0 [(0, _), (1, _)] [] _ 0 0
  refine j_aload_n dJ5_append_cf1ce_0 rfl rfl ?_
  refine j_ifnn (tgt := 9) dJ5_append_cf1ce_1 (by decide) rfl (by simp) ?_
  refine j_aload_n dJ5_append_cf1ce_9 rfl rfl ?_
  refine j_callVK (i := i) dJ5_append_cf1ce_10 kJ0_length_8abf5 lJ5_32 inJ0_length_8abf5 (z_w 781 ((lwg_4 16).trans rfl) (by decide +kernel)) hi9 ht9 (sk_len hl w i t hi9 ht9) (Nat.le_of_ble_eq_true rfl) ⟨(by show _ ≤ z_gr N (L.length + t.2.2.length) / 16 - N / 16; omega), (by show _ ≤ 2 * (z_gr N (L.length + t.2.2.length) - N); omega)⟩ rfl (Nat.le_of_ble_eq_true rfl) rfl rfl (fun _ _ h => h.elim) ?_
  rintro _ _ ⟨rfl, hw13⟩
  refine j_w w hw13 ?_
  refine j_istore_n (lo' := [(2, _), (0, _), (1, _)]) dJ5_append_cf1ce_13 (by decide) rfl ?_
  refine j_aload_n dJ5_append_cf1ce_14 rfl rfl ?_
  refine j_aload_n dJ5_append_cf1ce_15 rfl rfl ?_
  refine j_getf dJ5_append_cf1ce_16 fJ5_79 ga rfl ?_
  refine j_iload_n dJ5_append_cf1ce_19 rfl ?_
  refine j_iadd dJ5_append_cf1ce_20 ?_
  refine j_top (congrArg Value.int (nI_add L.length t.2.2.length)) ?_
  refine j_callP (x := yJ5_isLatin1_aae02) (q := (RJ4, TJ4, 4)) dJ5_append_cf1ce_21 kJ5_ensureCapacityInternal_d00df lJ5_100 inJ5_ensureCapacityInternal_d00df ⟨(z_w 640 ((lwt_3_3 25).trans rfl) (by decide +kernel)), rfl, (z_wn 603 ((lwt_3_2 18).trans rfl) (by decide +kernel))⟩ ga rfl (sc_ens hl w ρ a N (L.length + t.2.2.length) L h (by omega) (by omega) hρ hf) (Nat.le_of_ble_eq_true rfl) ⟨(by show _ ≤ z_gr N (L.length + t.2.2.length) / 16 - N / 16; omega), (by show _ ≤ 2 * (z_gr N (L.length + t.2.2.length) - N); omega)⟩ rfl (Nat.le_of_ble_eq_true rfl) rfl rfl (fun _ _ h => h.elim) ?_
  rintro _ w1 ⟨rfl, fw1, hs1⟩
  have hf1 := fw1.2.1 hf
  obtain ⟨-, -, h3_1, h4_1, h5_1, m_1, f_1, ml_1, ⟨a1_1, a2_1, a3_1, ga_1, gm_1, a6_1⟩, ct_1⟩ := id hs1
  refine j_aload_n dJ5_append_cf1ce_24 rfl rfl ?_
  refine j_aload_n dJ5_append_cf1ce_25 rfl rfl ?_
  refine j_getf dJ5_append_cf1ce_26 fJ5_79 ga_1 rfl ?_
  refine j_aload_n dJ5_append_cf1ce_29 rfl rfl ?_
  refine j_callP (x := yJ5_isLatin1_aae02) (q := (RJ4, TJ4, 4)) dJ5_append_cf1ce_30 kJ5_putStringAt_47b60 lJ5_208 inJ5_putStringAt_47b60 ⟨(z_w 640 ((lwt_3_3 25).trans rfl) (by decide +kernel)), rfl, (z_wn 789 ((lwg_4 24).trans rfl) (by decide +kernel))⟩ ga_1 rfl (sd_put hl w1 ρ a m_1 (z_gr N (L.length + t.2.2.length)) (L.length) f_1 ml_1 (nI L.length) i t hi9 ht9 a1_1 a2_1 a3_1 ga_1 gm_1 a6_1 hge hN) (Nat.le_of_ble_eq_true rfl) ⟨(by show _ ≤ z_gr N (L.length + t.2.2.length) / 16 - N / 16; omega), (by show _ ≤ 2 * (z_gr N (L.length + t.2.2.length) - N); omega)⟩ rfl (Nat.le_of_ble_eq_true rfl) rfl rfl (fun _ _ h => h.elim) ?_
  rintro _ w2 ⟨rfl, fw2, g9_2, gm9_2, by9_2, ga9_2, un9_2, cs9_2⟩
  have hf2 := fw2.2.1 hf1
  refine j_aload_n dJ5_append_cf1ce_33 rfl rfl ?_
  refine j_dup dJ5_append_cf1ce_34 rfl ?_
  refine j_getf dJ5_append_cf1ce_35 fJ5_79 ga9_2 rfl ?_
  refine j_iload_n dJ5_append_cf1ce_38 rfl ?_
  refine j_iadd dJ5_append_cf1ce_39 ?_
  refine j_top (congrArg Value.int (nI_add L.length t.2.2.length)) ?_
  refine j_put (w' := _) dJ5_append_cf1ce_40 fJ5_79 tJ4_3 ga9_2 ⟨rfl, rfl⟩ rfl ?_
  refine j_seal h1 ?_
  intro w3 u3
  have g3_m := (u3.2.1 _ a3_1).trans gm9_2
  have g3_a := u3.1
  have hf3 := u3.2.2.2 hf2
  refine j_aload_n dJ5_append_cf1ce_43 rfl rfl ?_
  refine j_aret dJ5_append_cf1ce_44 rfl (Or.inl ⟨_, rfl⟩) rfl ?_ (by show _ ≤ z_gr N (L.length + t.2.2.length) / 16 - N / 16; omega) (by show _ ≤ 2 * (z_gr N (L.length + t.2.2.length) - N); omega)
  exact ⟨rfl, ((fw1.tr fw2).tr (u3.fw h1 h2)), h1, h2, (by rw [ln]; exact hge), by omega, hN, m_1, _, ml_1, ⟨a1_1, a2_1, a3_1, (by rw [ln]; exact g3_a), g3_m, by9_2⟩, z_ctA (z_ctC ct_1 un9_2) cs9_2⟩
set_option maxRecDepth 100000 in
set_option maxHeartbeats 8000000 in
theorem sd_apS (hl : l.stackTraces = false) (w : z_W) (ρ a N : Nat) (L : List Int32) (i : Nat) (t : String × Nat × String) (hi9 : z_strs[i]? = some t) (ht9 : t.1 = "LoopdefaultsModel" ∨ t.1 = "LoopdefaultsModel$Hearer") (h : z_sbL w ρ a L N) (hq : L.length + t.2.2.length ≤ 2 * N + 2) (hN : z_gr N (L.length + t.2.2.length) ≤ 5000) (hρ : ρ < 64) (hf : z_fn w) : z_Con G l mJ4_append_15ec4 17 (z_gr N (L.length + t.2.2.length) / 16 - N / 16) (2 * (z_gr N (L.length + t.2.2.length) - N)) w [.ref a, .retAddr (10 + i)] (fun v w9 => v = some (.ref a) ∧ z_fw ρ w w9 ∧ z_sbL w9 ρ a (L ++ tx_cs t.2.2) (z_gr N (L.length + t.2.2.length))) (fun _ _ => False) := by
  obtain ⟨h1, h2, h3, h4, h5, m, f, ml, ⟨a1, a2, a3, ga, gm, a6⟩, ct⟩ := id h
  refine z_body hl (by decide) rfl (Nat.le_of_ble_eq_true rfl) ?_
  show z_J G l mJ4_append_15ec4 _ 0 [(0, _), (1, _)] [] _ 0 0
  refine j_aload_n dJ4_append_15ec4_0 rfl rfl ?_
  refine j_aload_n dJ4_append_15ec4_1 rfl rfl ?_
  refine j_callSu (q := (RJ4, TJ4, 4)) dJ4_append_15ec4_2 kJ5_append_cf1ce ⟨lJ4_29, (z_w 1979 ((lwg_9 14).trans rfl) (by decide +kernel)), (z_w 594 ((lwt_3_2 9).trans rfl) (by decide +kernel)), inJ5_append_cf1ce, (by decide)⟩ ga rfl (sd_apS0 hl w ρ a N L i t hi9 ht9 h hq hN hρ hf) (Nat.le_of_ble_eq_true rfl) ⟨(by show _ ≤ z_gr N (L.length + t.2.2.length) / 16 - N / 16; omega), (by show _ ≤ 2 * (z_gr N (L.length + t.2.2.length) - N); omega)⟩ rfl (Nat.le_of_ble_eq_true rfl) rfl rfl (fun _ _ h => h.elim) ?_
  rintro _ w1 ⟨rfl, fw1, hs1⟩
  have hf1 := fw1.2.1 hf
  refine j_pop dJ4_append_15ec4_5 rfl ?_
  refine j_aload_n dJ4_append_15ec4_6 rfl rfl ?_
  refine j_aret dJ4_append_15ec4_7 rfl (Or.inl ⟨_, rfl⟩) rfl ?_ (by show _ ≤ z_gr N (L.length + t.2.2.length) / 16 - N / 16; omega) (by show _ ≤ 2 * (z_gr N (L.length + t.2.2.length) - N); omega)
  exact ⟨rfl, fw1, hs1⟩
set_option maxRecDepth 100000 in
set_option maxHeartbeats 8000000 in
theorem sd_cpRB (hl : l.stackTraces = false) (w : z_W) (ρ m N q : Nat) (f : Nat → Value) (hρ : ρ < 64) (hf : z_fn w) (gm : z_g w m = some (.inl (2, N, f))) (hby : z_by f) (hq : q ≤ N) (hN : N ≤ 5000) : z_Con G l mJ7_copyOfRangeByte_39247 11 1 q w [.ref m, .int 0, .int (nI q)] (fun v w9 => ∃ (m9 : Nat) (g : Nat → Value), v = some (.ref m9) ∧ z_fw ρ w w9 ∧ 1000 ≤ m9 ∧ m9 % 64 = ρ ∧ (∀ k e, z_g w k = some e → k ≠ m9) ∧ z_g w9 m9 = some (.inl (2, q, g)) ∧ (∀ k e, z_g w k = some e → z_g w9 k = some e) ∧ ∀ j, j < q → g j = f j) (fun _ _ => False) := by
  refine z_body hl (by decide) rfl (Nat.le_of_ble_eq_true rfl) ?_
  show z_J G l mJ7_copyOfRangeByte_39247 _ 0 [(0, _), (1, _), (2, _)] [] _ 0 0
  refine j_iload_n dJ7_copyOfRangeByte_39247_0 rfl ?_
  refine j_iload_n dJ7_copyOfRangeByte_39247_1 rfl ?_
  refine j_callS dJ7_copyOfRangeByte_39247_2 kJ7_checkLength_df160 lJ7_343 stJ7_checkLength_df160 (sb_chkL hl w _ _ (nI_leI (a := 0) (b := q) (by omega) (by omega) |>.mpr (Nat.zero_le _))) (Nat.le_of_ble_eq_true rfl) ⟨(Nat.le_of_ble_eq_true rfl), (by show _ ≤ q; omega)⟩ rfl (Nat.le_of_ble_eq_true rfl) rfl rfl (fun _ _ h => h.elim) ?_
  rintro _ _ ⟨rfl, hw14⟩
  refine j_w w hw14 ?_
  refine j_iload_n dJ7_copyOfRangeByte_39247_5 rfl ?_
  refine j_iload_n dJ7_copyOfRangeByte_39247_6 rfl ?_
  refine j_isub dJ7_copyOfRangeByte_39247_7 ?_
  refine j_top (congrArg Value.int (show nI q - 0 = nI q from pk_sub (a := q) (b := 0) (Nat.zero_le _))) ?_
  refine j_istore_n (lo' := [(3, _), (0, _), (1, _), (2, _)]) dJ7_copyOfRangeByte_39247_8 (by decide) rfl ?_
  refine j_iload_n dJ7_copyOfRangeByte_39247_9 rfl ?_
  obtain ⟨x1, hx1a, hx1b, hx1c⟩ := z_fresh (ρ) hρ hf
  have n_m_x1 := z_neF hx1c gm
  refine j_newa (kd := 2) (N := q) (w' := _) (n := x1) dJ7_copyOfRangeByte_39247_10 rfl rfl arc_byte ⟨rfl, fun _ _ h => h⟩ (nI_pos (by omega)) (z_cla (by omega)) (by show q * 1 ≤ _; omega) rfl (z_alW hx1c hx1a) (Nat.le_of_ble_eq_true rfl) (by show _ ≤ q; omega) ?_
  refine j_seal hx1a ?_
  intro w1 u1
  have g1_m := (u1.2.1 _ n_m_x1).trans gm
  have g1_x1 := u1.1
  have hf1 := u1.2.2.2 hf
  refine j_astore (lo' := [(4, _), (3, _), (0, _), (1, _), (2, _)]) dJ7_copyOfRangeByte_39247_12 rfl (by decide) rfl ?_
  refine j_aload_n dJ7_copyOfRangeByte_39247_14 rfl rfl ?_
  refine j_iload_n dJ7_copyOfRangeByte_39247_15 rfl ?_
  refine j_aload dJ7_copyOfRangeByte_39247_16 rfl rfl ?_
  refine j_iconst (v := 0) dJ7_copyOfRangeByte_39247_18 (by decide) ?_
  refine j_aload_n dJ7_copyOfRangeByte_39247_19 rfl rfl ?_
  refine j_alen dJ7_copyOfRangeByte_39247_20 g1_m rfl rfl ?_
  refine j_iload_n dJ7_copyOfRangeByte_39247_21 rfl ?_
  refine j_isub dJ7_copyOfRangeByte_39247_22 ?_
  refine j_top (congrArg Value.int (show nI N - 0 = nI N from pk_sub (a := N) (b := 0) (Nat.zero_le _))) ?_
  refine j_iload_n dJ7_copyOfRangeByte_39247_23 rfl ?_
  refine j_mmin dJ7_copyOfRangeByte_39247_24 lJ7_304 (Nat.le_of_ble_eq_true rfl) (Nat.le_of_ble_eq_true rfl) (Nat.le_of_ble_eq_true rfl) (by show _ ≤ q; omega) ?_
  refine j_top (congrArg Value.int (nI_mn (a := N) (b := q) (by omega) (by omega))) ?_
  refine j_acopy (w' := _) dJ7_copyOfRangeByte_39247_27 lJ7_150 ac_n ac_s ac_i g1_m g1_x1 rfl (by decide) (by decide) (nI_pos (by omega)) (by rw [z_cla (by omega)]; show 0 + _ ≤ N; omega) (by rw [z_cla (by omega)]; show 0 + _ ≤ q; omega) (fun i _ => Or.inl (hby _)) (Nat.le_of_ble_eq_true rfl) (Nat.le_of_ble_eq_true rfl) rfl ?_
  refine j_seal hx1a ?_
  intro w2 u2
  have g2_m := (u2.2.1 _ n_m_x1).trans g1_m
  have g2_x1 := u2.1
  have hf2 := u2.2.2.2 hf1
  refine j_aload dJ7_copyOfRangeByte_39247_30 rfl rfl ?_
  refine j_aret dJ7_copyOfRangeByte_39247_32 rfl (Or.inr ⟨_, rfl⟩) rfl ?_ (Nat.le_of_ble_eq_true rfl) (by show _ ≤ q; omega)
  exact ⟨x1, _, rfl, ((u1.fw hx1a hx1b).tr (u2.fw hx1a hx1b)), hx1a, hx1b, fun k e hk => z_neF hx1c hk, g2_x1, fun k e hk => (u2.2.1 k (z_neF hx1c hk)).trans ((u1.2.1 k (z_neF hx1c hk)).trans hk), fun j hj => tx_cpy0 (N := min N q) (by omega) (by omega)⟩
set_option maxRecDepth 100000 in
set_option maxHeartbeats 8000000 in
theorem sd_cpR (hl : l.stackTraces = false) (w : z_W) (ρ m N q : Nat) (f : Nat → Value) (hρ : ρ < 64) (hf : z_fn w) (gm : z_g w m = some (.inl (2, N, f))) (hby : z_by f) (hq : q ≤ N) (hN : N ≤ 5000) : z_Con G l mJ7_copyOfRange_39247 12 1 q w [.ref m, .int 0, .int (nI q)] (fun v w9 => ∃ (m9 : Nat) (g : Nat → Value), v = some (.ref m9) ∧ z_fw ρ w w9 ∧ 1000 ≤ m9 ∧ m9 % 64 = ρ ∧ (∀ k e, z_g w k = some e → k ≠ m9) ∧ z_g w9 m9 = some (.inl (2, q, g)) ∧ (∀ k e, z_g w k = some e → z_g w9 k = some e) ∧ ∀ j, j < q → g j = f j) (fun _ _ => False) := by
  refine z_body hl (by decide) rfl (Nat.le_of_ble_eq_true rfl) ?_
  show z_J G l mJ7_copyOfRange_39247 _ 0 [(0, _), (1, _), (2, _)] [] _ 0 0
  refine j_iload_n dJ7_copyOfRange_39247_0 rfl ?_
  refine j_if_ne (tgt := 10) dJ7_copyOfRange_39247_1 (by decide) (fun c_1_3 => ?_) (fun c_1_3 => ?_)
  · exact absurd rfl c_1_3
  · refine j_iload_n dJ7_copyOfRange_39247_4 rfl ?_
    refine j_aload_n dJ7_copyOfRange_39247_5 rfl rfl ?_
    refine j_alen dJ7_copyOfRange_39247_6 gm rfl rfl ?_
    refine j_icmp_eq (tgt := 17) dJ7_copyOfRange_39247_7 (by decide) (fun c_7_8 => ?_) (fun c_7_8 => ?_)
    · have hqN : q = N := nI_inj c_7_8 (by omega) (by omega)
      refine j_aload_n dJ7_copyOfRange_39247_17 rfl rfl ?_
      obtain ⟨x1, hx1a, hx1b, hx1c⟩ := z_fresh (ρ) hρ hf
      have n_m_x1 := z_neF hx1c gm
      refine j_clone (w' := _) (n := x1) dJ7_copyOfRange_39247_18 (z_w 624 ((lwt_3_3 9).trans rfl) (by decide +kernel)) (z_w 625 ((lwt_3_3 10).trans rfl) (by decide +kernel)) (z_w 626 ((lwt_3_3 11).trans rfl) (by decide +kernel)) (z_w 627 ((lwt_3_3 12).trans rfl) (by decide +kernel)) (z_w 628 ((lwt_3_3 13).trans rfl) (by decide +kernel)) (z_wn 629 ((lwt_3_3 14).trans rfl) (by decide +kernel)) gm hby (z_alW hx1c hx1a) (Nat.le_of_ble_eq_true rfl) (Nat.le_of_ble_eq_true rfl) (Nat.le_of_ble_eq_true rfl) (by show _ ≤ q; omega) ?_
      refine j_seal hx1a ?_
      intro w1 u1
      have g1_m := (u1.2.1 _ n_m_x1).trans gm
      have g1_x1 := u1.1
      have hf1 := u1.2.2.2 hf
      refine j_castS dJ7_copyOfRange_39247_21 (z_w 630 ((lwt_3_3 15).trans rfl) (by decide +kernel)) (z_isB g1_x1) ?_
      refine j_aret dJ7_copyOfRange_39247_24 rfl (Or.inr ⟨_, rfl⟩) rfl ?_ (Nat.le_of_ble_eq_true rfl) (by show _ ≤ q; omega)
      exact ⟨x1, _, rfl, (u1.fw hx1a hx1b), hx1a, hx1b, fun k e hk => z_neF hx1c hk, hqN ▸ g1_x1, fun k e hk => (u1.2.1 k (z_neF hx1c hk)).trans hk, fun _ _ => rfl⟩
    · refine j_aload_n dJ7_copyOfRange_39247_10 rfl rfl ?_
      refine j_iload_n dJ7_copyOfRange_39247_11 rfl ?_
      refine j_iload_n dJ7_copyOfRange_39247_12 rfl ?_
      refine j_callS dJ7_copyOfRange_39247_13 kJ7_copyOfRangeByte_39247 lJ7_339 stJ7_copyOfRangeByte_39247 (sd_cpRB hl w ρ m N q f hρ hf gm hby hq hN) (Nat.le_of_ble_eq_true rfl) ⟨(Nat.le_of_ble_eq_true rfl), (by show _ ≤ q; omega)⟩ rfl (Nat.le_of_ble_eq_true rfl) rfl rfl (fun _ _ h => h.elim) ?_
      rintro _ w2 ⟨m9, g9, rfl, fw2, c1, c2, c3, c4, c5, c6⟩
      have hf2 := fw2.2.1 hf
      refine j_aret dJ7_copyOfRange_39247_16 rfl (Or.inr ⟨_, rfl⟩) rfl ?_ (Nat.le_of_ble_eq_true rfl) (by show _ ≤ q; omega)
      exact ⟨m9, g9, rfl, fw2, c1, c2, c3, c4, c5, c6⟩
set_option maxRecDepth 100000 in
set_option maxHeartbeats 8000000 in
theorem sd_str0 (hl : l.stackTraces = false) (w : z_W) (ρ σ a N r : Nat) (L : List Int32) (h : z_sbL w σ a L N) (hσ : σ ≠ ρ) (r1 : 1000 ≤ r) (r2 : r % 64 = ρ) (gr : z_g w r = some (.inr (0, [.null, .int 0, .int 0, .int 0]))) (hρ : ρ < 64) (hf : z_fn w) : z_Con G l mJ0_init_db425 13 1 L.length w [.ref r, .ref a, .null] (fun v w9 => v = none ∧ z_fw ρ w w9 ∧ z_txL w9 ρ r L) (fun _ _ => False) := by
  obtain ⟨h1, h2, h3, h4, h5, m, f, ml, ⟨a1, a2, a3, ga, gm, a6⟩, ct⟩ := id h
  refine z_body hl (by decide) rfl (Nat.le_of_ble_eq_true rfl) ?_
  show z_J G l mJ0_init_db425 _ 0 [(0, _), (1, _), (2, _)] [] _ 0 0
  refine j_aload_n dJ0_init_db425_0 rfl rfl ?_
  refine j_objI dJ0_init_db425_1 oJ0_1 z_oi1 z_oi2 (Nat.le_of_ble_eq_true rfl) (Nat.le_of_ble_eq_true rfl) ?_
  refine j_aload_n dJ0_init_db425_4 rfl rfl ?_
  refine j_callU (q := (RJ4, TJ4, 4)) dJ0_init_db425_5 kJ5_getValue_6d5f1 cuJ0_552_J4 ga rfl (sb_val hl w a m ml _ ga) (Nat.le_of_ble_eq_true rfl) ⟨(Nat.le_of_ble_eq_true rfl), (by show _ ≤ L.length; omega)⟩ rfl (Nat.le_of_ble_eq_true rfl) rfl rfl (fun _ _ h => h.elim) ?_
  rintro _ _ ⟨rfl, hw15⟩
  refine j_w w hw15 ?_
  refine j_astore_n (lo' := [(3, _), (0, _), (1, _), (2, _)]) dJ0_init_db425_8 rfl (by decide) rfl ?_
  refine j_aload_n dJ0_init_db425_9 rfl rfl ?_
  refine j_callUd (y0 := mJ5_length_8abf5) (x := yJ5_length_8abf5) (q := (RJ4, TJ4, 4)) dJ0_init_db425_10 kJ4_length_8abf5 lJ0_549 (z_w 744 ((lwt_3_7 9).trans rfl) (by decide +kernel)) ⟨rfl, rfl, kJ5_length_8abf5.2.1, inJ5_length_8abf5⟩ (z_w 745 ((lwt_3_7 10).trans rfl) (by decide +kernel)) inJ4_length_8abf5 (by decide) rfl ga rfl (sb_len hl w σ a L.length N h.sb) (Nat.le_of_ble_eq_true rfl) ⟨(Nat.le_of_ble_eq_true rfl), (by show _ ≤ L.length; omega)⟩ rfl (Nat.le_of_ble_eq_true rfl) rfl rfl (fun _ _ h => h.elim) ?_
  rintro _ _ ⟨rfl, hw16⟩
  refine j_w w hw16 ?_
  refine j_istore (lo' := [(4, _), (3, _), (0, _), (1, _), (2, _)]) dJ0_init_db425_13 (by decide) rfl ?_
  refine j_aload_n dJ0_init_db425_15 rfl rfl ?_
  refine j_callU (q := (RJ4, TJ4, 4)) dJ0_init_db425_16 kJ5_isLatin1_aae02 cuJ0_1047_J4 ga rfl (sb_lat hl w _ _ _ _ ga) (Nat.le_of_ble_eq_true rfl) ⟨(Nat.le_of_ble_eq_true rfl), (by show _ ≤ L.length; omega)⟩ rfl (Nat.le_of_ble_eq_true rfl) rfl rfl (fun _ _ h => h.elim) ?_
  rintro _ _ ⟨rfl, hw17⟩
  refine j_w w hw17 ?_
  refine j_if_eq (tgt := 41) dJ0_init_db425_19 (by decide) (fun c_19_18 => ?_) (fun c_19_18 => ?_)
  · exact absurd c_19_18 (by decide)
  · refine j_aload_n dJ0_init_db425_22 rfl rfl ?_
    refine j_iconst (v := 0) dJ0_init_db425_23 (by decide) ?_
    refine j_putF (w' := _) dJ0_init_db425_24 fJ0_15 tJ0_1 rfl (z_dc rfl rfl (z_w 819 ((lwt_4_1 24).trans rfl) (by decide +kernel))) gr ⟨rfl, rfl⟩ rfl ?_
    refine j_seal r1 ?_
    intro w1 u1
    have g1_a := (u1.2.1 _ (by omega)).trans ga
    have g1_m := (u1.2.1 _ (by omega)).trans gm
    have g1_r := u1.1
    have hf1 := u1.2.2.2 hf
    refine j_aload_n dJ0_init_db425_27 rfl rfl ?_
    refine j_aload_n dJ0_init_db425_28 rfl rfl ?_
    refine j_iconst (v := 0) dJ0_init_db425_29 (by decide) ?_
    refine j_iload dJ0_init_db425_30 rfl ?_
    refine j_callS dJ0_init_db425_32 kJ7_copyOfRange_39247 lJ0_54 stJ7_copyOfRange_39247 (sd_cpR hl w1 ρ m N L.length f hρ hf1 g1_m a6 h3 h5) (Nat.le_of_ble_eq_true rfl) ⟨(Nat.le_of_ble_eq_true rfl), (by show _ ≤ L.length; omega)⟩ rfl (Nat.le_of_ble_eq_true rfl) rfl rfl (fun _ _ h => h.elim) ?_
    rintro _ w2 ⟨m9, g9, rfl, fw2, c1, c2, c3, c4, c5, c6⟩
    have hf2 := fw2.2.1 hf1
    have g2_r := c5 r _ g1_r
    refine j_putF (w' := _) dJ0_init_db425_35 fJ0_9 tJ0_0 rfl (z_dc rfl rfl (z_w 818 ((lwt_4_1 23).trans rfl) (by decide +kernel))) g2_r (Or.inr ⟨_, rfl⟩) rfl ?_
    refine j_seal r1 ?_
    intro w3 u3
    have g3_m2 := (u3.2.1 _ (Ne.symm (c3 r _ g1_r))).trans c4
    have g3_r := u3.1
    have hf3 := u3.2.2.2 hf2
    refine j_goto (tgt := 97) dJ0_init_db425_38 (by decide) ?_
    refine j_vret dJ0_init_db425_97 rfl ?_ (Nat.le_of_ble_eq_true rfl) (by show _ ≤ L.length; omega)
    exact ⟨rfl, (((u1.fw r1 r2).tr fw2).tr (u3.fw r1 r2)), r1, r2, m9, g9, c1, c2, Ne.symm (c3 r _ g1_r), g3_r, g3_m2, z_ctC ct c6, by omega⟩
set_option maxRecDepth 100000 in
set_option maxHeartbeats 8000000 in
theorem sd_str1 (hl : l.stackTraces = false) (w : z_W) (ρ σ a N r : Nat) (L : List Int32) (h : z_sbL w σ a L N) (hσ : σ ≠ ρ) (r1 : 1000 ≤ r) (r2 : r % 64 = ρ) (gr : z_g w r = some (.inr (0, [.null, .int 0, .int 0, .int 0]))) (hρ : ρ < 64) (hf : z_fn w) : z_Con G l mJ0_init_81219 14 1 L.length w [.ref r, .ref a] (fun v w9 => v = none ∧ z_fw ρ w w9 ∧ z_txL w9 ρ r L) (fun _ _ => False) := by
  obtain ⟨h1, h2, h3, h4, h5, m, f, ml, ⟨a1, a2, a3, ga, gm, a6⟩, ct⟩ := id h
  refine z_body hl (by decide) rfl (Nat.le_of_ble_eq_true rfl) ?_
  show z_J G l mJ0_init_81219 _ 0 [(0, _), (1, _)] [] _ 0 0
  refine j_aload_n dJ0_init_81219_0 rfl rfl ?_
  refine j_aload_n dJ0_init_81219_1 rfl rfl ?_
  refine j_null dJ0_init_81219_2 ?_
  refine j_callI dJ0_init_81219_3 kJ0_init_db425 rfl lJ0_489 inJ0_init_db425 rfl (sd_str0 hl w ρ σ a N r L h hσ r1 r2 gr hρ hf) (Nat.le_of_ble_eq_true rfl) ⟨(Nat.le_of_ble_eq_true rfl), (by show _ ≤ L.length; omega)⟩ rfl (Nat.le_of_ble_eq_true rfl) rfl rfl (fun _ _ h => h.elim) ?_
  rintro _ w1 ⟨rfl, fw1, ht1⟩
  have hf1 := fw1.2.1 hf
  refine j_vret dJ0_init_81219_6 rfl ?_ (Nat.le_of_ble_eq_true rfl) (by show _ ≤ L.length; omega)
  exact ⟨rfl, fw1, ht1⟩
set_option maxRecDepth 100000 in
set_option maxHeartbeats 8000000 in
theorem sd_toS (hl : l.stackTraces = false) (w : z_W) (ρ σ a N : Nat) (L : List Int32) (h : z_sbL w σ a L N) (hσ : σ ≠ ρ) (hρ : ρ < 64) (hf : z_fn w) : z_Con G l mJ4_toString_0e30d 15 2 (4 + L.length) w [.ref a] (fun v w9 => ∃ r, v = some (.ref r) ∧ z_fw ρ w w9 ∧ z_txL w9 ρ r L) (fun _ _ => False) := by
  obtain ⟨h1, h2, h3, h4, h5, m, f, ml, ⟨a1, a2, a3, ga, gm, a6⟩, ct⟩ := id h
  refine z_body hl (by decide) rfl (Nat.le_of_ble_eq_true rfl) ?_
  show z_J G l mJ4_toString_0e30d _ 0 [(0, _)] [] _ 0 0
  obtain ⟨x1, hx1a, hx1b, hx1c⟩ := z_fresh (ρ) hρ hf
  have n_a_x1 := z_neF hx1c ga
  refine j_new (N := 4) (w' := _) (n := x1) dJ4_toString_0e30d_0 nJ4_18 rfl (z_alW hx1c hx1a) (Nat.le_of_ble_eq_true rfl) (by show _ ≤ 4 + L.length; omega) ?_
  refine j_seal hx1a ?_
  intro w1 u1
  have g1_a := (u1.2.1 _ n_a_x1).trans ga
  have g1_x1 := u1.1
  have hf1 := u1.2.2.2 hf
  refine j_dup dJ4_toString_0e30d_3 rfl ?_
  refine j_aload_n dJ4_toString_0e30d_4 rfl rfl ?_
  refine j_callI dJ4_toString_0e30d_5 kJ0_init_81219 rfl lJ4_137 inJ0_init_81219 rfl (sd_str1 hl w1 ρ σ a N x1 L (h.fw (u1.fw hx1a hx1b) hσ) hσ hx1a hx1b g1_x1 hρ hf1) (Nat.le_of_ble_eq_true rfl) ⟨(Nat.le_of_ble_eq_true rfl), (by show _ ≤ 4 + L.length; omega)⟩ rfl (Nat.le_of_ble_eq_true rfl) rfl rfl (fun _ _ h => h.elim) ?_
  rintro _ w2 ⟨rfl, fw2, ht2⟩
  have hf2 := fw2.2.1 hf1
  refine j_aret dJ4_toString_0e30d_8 rfl (Or.inl ⟨_, rfl⟩) rfl ?_ (Nat.le_of_ble_eq_true rfl) (by show _ ≤ 4 + L.length; omega)
  exact ⟨x1, rfl, ((u1.fw hx1a hx1b).tr fw2), ht2⟩
end ZTxd
end ZM26
section ZM27
section ZTxn
def tx_jn (L : List (List Int32)) : List Int32 := match L with
  | [] => []
  | x :: t => x ++ t.flatMap (fun y => 32 :: y)
def tx_jt (L : List Int32) : List Int32 := tx_jn (L.map tx_dg)
def tx_pt (T : List (Nat × Int32)) : List Int32 := tx_jn (T.map fun p => tx_dg (nI p.1) ++ 61 :: tx_dg p.2)
theorem tx_jn_s {L : List (List Int32)} {x : List Int32} : tx_jn (L ++ [x]) = tx_jn L ++ ((if L.length = 0 then [] else [32]) ++ x) := by
  cases L with
  | nil => show x ++ [] = [] ++ ([] ++ x); rw [List.append_nil]; rfl
  | cons y t =>
    show y ++ (t ++ [x]).flatMap (fun y => 32 :: y) = (y ++ t.flatMap (fun y => 32 :: y)) ++ ([32] ++ x)
    rw [List.flatMap_append, List.append_assoc]
    congr 2
    show (32 :: x) ++ [] = 32 :: x
    rw [List.append_nil]
theorem tx_jt_s {L : List Int32} {x : Int32} : tx_jt (L ++ [x]) = tx_jt L ++ ((if L.length = 0 then [] else [32]) ++ tx_dg x) := by
  unfold tx_jt
  rw [List.map_append, show [x].map tx_dg = [tx_dg x] from rfl, tx_jn_s, List.length_map]
theorem tx_jt_l {L : List Int32} {x : Int32} : (tx_jt (L ++ [x])).length = (tx_jt L).length + ((if L.length = 0 then 0 else 1) + z_sz x) := by
  rw [tx_jt_s, List.length_append, List.length_append, tx_dl]
  split <;> rfl
theorem tx_pt_s {T : List (Nat × Int32)} {p : Nat × Int32} : tx_pt (T ++ [p]) = tx_pt T ++ ((if T.length = 0 then [] else [32]) ++ (tx_dg (nI p.1) ++ 61 :: tx_dg p.2)) := by
  unfold tx_pt
  rw [List.map_append]
  exact tx_jn_s.trans (by rw [List.length_map])
theorem tx_pt_l {T : List (Nat × Int32)} {p : Nat × Int32} : (tx_pt (T ++ [p])).length = (tx_pt T).length + ((if T.length = 0 then 0 else 1) + (z_sz (nI p.1) + (1 + z_sz p.2))) := by
  rw [tx_pt_s, List.length_append, List.length_append, List.length_append, List.length_cons, tx_dl, tx_dl]
  split <;> simp <;> omega
end ZTxn
end ZM27
section ZM28
section ZMs10
variable {G : z_G} {l : Launch}
theorem z_sb.cell {w : z_W} {ρ a n N : Nat} (h : z_sb w ρ a n N) : ∃ fs, z_g w a = some (.inr (1, fs)) := by
  obtain ⟨-, -, -, -, -, m, f, ml, -, -, -, ga, -⟩ := h
  exact ⟨_, ga⟩
theorem z_tx.cell {w : z_W} {ρ a n : Nat} (h : z_tx w ρ a n) : ∃ fs, z_g w a = some (.inr (0, fs)) := by
  obtain ⟨-, -, b, f, -, -, -, ga, -⟩ := h
  exact ⟨_, ga⟩
theorem z_sb.nN {w : z_W} {ρ a n N : Nat} (h : z_sb w ρ a n N) : n ≤ N ∧ 16 ≤ N ∧ N ≤ 5000 := ⟨h.2.2.1, h.2.2.2.1, h.2.2.2.2.1⟩
theorem sb_apK (hl : l.stackTraces = false) (w : z_W) (ρ a n N i k : Nat) (t : String × Nat × String) (hi9 : z_strs[i]? = some t) (ht9 : t.1 = "LoopdefaultsModel" ∨ t.1 = "LoopdefaultsModel$Hearer") (hk : t.2.2.length = k) (h : z_sb w ρ a n N) (hq : n + k ≤ 2 * N + 2) (hN : z_gr N (n + k) ≤ 5000) (hρ : ρ < 64) (hf : z_fn w) : z_Con G l mJ4_append_15ec4 17 (z_gr N (n + k) / 16 - N / 16) (2 * (z_gr N (n + k) - N)) w [.ref a, .retAddr (10 + i)] (fun v w9 => v = some (.ref a) ∧ z_fw ρ w w9 ∧ z_sb w9 ρ a (n + k) (z_gr N (n + k))) (fun _ _ => False) := by
  subst hk
  exact sb_apS hl w ρ a n N i t hi9 ht9 h hq hN hρ hf
end ZMs10
end ZM28
