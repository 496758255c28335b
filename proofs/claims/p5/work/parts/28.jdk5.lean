section ZM0
section ZJ5
variable {G : z_G} {l : Launch} {y : z_M} {S : z_S} {pc : Nat} {lo : List (Nat × Value)} {st : List Value} {w w' : z_W} {kc ks : Nat}
theorem z_isV {R0 R : z_R} {s : State} {p : Program} {m : MethodId} {args : Array Value} {meth : Method} {c : Code} {H : Heap} {locs : List Loc} {v : Value} {a : Nat} {C : String} (hok : z_ok G l y S p s m args meth c R0) (hat : z_at G S R0 s R w H locs) (hv : z_V G R w v (.ref a)) (hi : z_is w v C) : ∃ cell : Cell, H[a]? = some cell ∧ cell.vm.isStatics = false ∧ s.vm.findClass C = some cell.cls := by
  obtain ⟨cell, h1, h2, h3⟩ := z_isC hok hat hv hi
  exact ⟨cell, h1, h2, h3⟩
theorem j_callVB {idx np rk' mc' ms' : Nat} {y' : z_M} {as rest : List Value} {Q' : Option Value → z_W → Prop} {X' : String → z_W → Prop} {v0 : Value} {C : String} (hd : decode y.2.1 pc = .ok (.invokevirtual idx, 3)) (hm : z_okm y' np) (hl : Cond.methodLink y.1.cls idx y'.1 ∈ z_tbl) (hi : Cond.instanceMethod y'.1 ∈ z_tbl) (hse : Cond.selects C y'.1 y'.1 ∈ z_tbl) (hi9 : z_is w v0 C) (hc : z_Con G l y' rk' mc' ms' w (v0 :: as) Q' X') (hrk : rk' + 1 ≤ S.1) (hcs : kc + mc' ≤ S.2.1 ∧ ks + ms' ≤ S.2.2.1) (hstk : st = as.reverse ++ v0 :: rest) (hW : z_cat rest ≤ 8) (hn : as.length = np) (ht : y.2.2.2.2 = []) (hx : ∀ E w', X' E w' → S.2.2.2.2.2 E w') (kk : ∀ v w', Q' v w' → z_J G l y S (pc + 3) lo (v.toList ++ rest) w' (kc + mc') (ks + ms')) : z_J G l y S pc lo st w kc ks := by
  intro p e s m args below meth c R0 hok R H locs ls cst hat hlo hst
  subst hstk
  obtain ⟨b1, c2, rfl, hb1, hst⟩ := z_Lapp hst
  obtain ⟨c1, crest, rfl, h1, hrest⟩ := z_Lc hst
  obtain ⟨a, rfl⟩ := z_isR h1 hi9
  have hAs := z_Lrev hb1
  rw [List.reverse_reverse] at hAs
  exact z_run hok hat hlo hrest ht (vx_runV (C := C) (As := b1.reverse) ⟨hok.1, hok.2.1, rfl, hok.2.2.2.2.2.1, hok.2.2.2.2.2.2.1⟩ (hc R) ⟨z_CB hok.2.2.2.2.2.2.1 hm hrk hl, hok.2.2.2.2.2.2.1 _ hi, hok.2.2.2.2.2.2.1 _ hse⟩ ⟨z_Pc_blind, z_isV hok hat h1 hi9, fun U hU hW9 => z_pre hok hat (av := v0 :: as) (cav := .ref a :: b1.reverse) ⟨h1, hAs⟩ U hU hW9⟩ rfl (by rw [z_Ll hAs]; exact hn) hlo.choose_spec.1.1 (by rw [List.reverse_reverse]) (lv_room (by rw [z_Lcs hrest]; exact hW)) hd hcs) hcs hx kk
end ZJ5
theorem z_cnx {x : Int32} (h0 : ¬ x < -128) (h1 : ¬ (127 : Int32) < x) : vp_in (x + 128) 256 ∧ z_cn (x + 128).toNatClampNeg = x.toUInt32 := by
  have k0 : ¬ x.toInt < -128 := fun z => h0 ((Int32.lt_iff_toInt_lt).mpr z)
  have k1 : ¬ 127 < x.toInt := fun z => h1 ((Int32.lt_iff_toInt_lt).mpr z)
  have e : (x + 128).toInt = x.toInt + 128 := by
    rw [Int32.toInt_add, show (128 : Int32).toInt = 128 from rfl]
    exact Int.bmod_eq_of_le (by omega) (by omega)
  refine ⟨vp_in_iff.mpr ⟨by omega, by omega⟩, ?_⟩
  unfold z_cn
  have e2 : (((x + 128).toNatClampNeg : Nat) : Int) = x.toInt + 128 := by
    show (((x + 128).toInt.toNat : Nat) : Int) = _
    rw [e]
    omega
  rw [e2, show x.toInt + 128 - 128 = x.toInt by omega, Int32.ofInt_toInt]
end ZM0
section ZM1
section ZJ6
variable {G : z_G} {l : Launch} {y : z_M} {S : z_S} {pc : Nat} {lo : List (Nat × Value)} {st : List Value} {w w' : z_W} {kc ks : Nat}
theorem sm_max : Cond.static Lib.Math.max.name ∈ z_tbl := (z_w 614 ((lwg_3 89).trans rfl) (by decide +kernel))
theorem cm_max : Cond.code Lib.Math.max.name Lib.Math.max.code 2 (some .int) ∈ z_tbl := (z_w 615 ((lwg_3 90).trans rfl) (by decide +kernel))
theorem im_m : Cond.initialized "java/lang/Math" ∈ z_tbl := (z_w 57 ((lwg_1 12).trans rfl) (by decide +kernel))
theorem j_mmax {idx : Nat} {a b : Int32} (hd : decode y.2.1 pc = .ok (.invokestatic idx, 3)) (hl : Cond.methodLink y.1.cls idx Lib.Math.max.name ∈ z_tbl) (hrk : 1 ≤ S.1) (hW : z_cat st ≤ 8) (hc : kc ≤ S.2.1) (hs : ks ≤ S.2.2.1) (h : z_J G l y S (pc + 3) lo (.int (if a < b then b else a) :: st) w kc ks) : z_J G l y S pc lo (.int b :: .int a :: st) w kc ks := by
  intro p e s m args below meth c R0 hok R H locs ls cst hat hlo hst
  obtain ⟨c1, cs1, rfl, h1, hst1⟩ := z_Lc hst
  obtain ⟨c2, cs2, rfl, h2, hst2⟩ := z_Lc hst1
  have h1 : c1 = .int b := h1
  have h2 : c2 = .int a := h2
  subst h1 h2
  have hts := hok.2.2.2.2.2.2.1
  have hsz := hlo.choose_spec.1.1
  have h8 : (cs2.map fun v => v.category).sum ≤ 8 := by rw [z_Lcs hst2]; exact hW
  have h40 : 40 ≤ (z_rm S.1 S.2.1 S.2.2.1).locals := by show 40 ≤ 40 * S.1; omega
  exact va_mmax hok.1 hok.2.1 hsz.symm hok.2.2.2.2.2.1 (hts _ hl) (hts _ sm_max) (hts _ im_m) (hts _ cm_max) hrk (by omega) hc hs hd (h p e s m args below meth c R0 hok R H locs ls (.int (if a < b then b else a) :: cs2) hat hlo ⟨rfl, hst2⟩)
theorem sm_min : Cond.static Lib.Math.min.name ∈ z_tbl := (z_w 632 ((lwg_3 107).trans rfl) (by decide +kernel))
theorem cm_min : Cond.code Lib.Math.min.name Lib.Math.min.code 2 (some .int) ∈ z_tbl := (z_w 633 ((lwg_3 108).trans rfl) (by decide +kernel))
theorem j_mmin {idx : Nat} {a b : Int32} (hd : decode y.2.1 pc = .ok (.invokestatic idx, 3)) (hl : Cond.methodLink y.1.cls idx Lib.Math.min.name ∈ z_tbl) (hrk : 1 ≤ S.1) (hW : z_cat st ≤ 8) (hc : kc ≤ S.2.1) (hs : ks ≤ S.2.2.1) (h : z_J G l y S (pc + 3) lo (.int (if b < a then b else a) :: st) w kc ks) : z_J G l y S pc lo (.int b :: .int a :: st) w kc ks := by
  intro p e s m args below meth c R0 hok R H locs ls cst hat hlo hst
  obtain ⟨c1, cs1, rfl, h1, hst1⟩ := z_Lc hst
  obtain ⟨c2, cs2, rfl, h2, hst2⟩ := z_Lc hst1
  have h1 : c1 = .int b := h1
  have h2 : c2 = .int a := h2
  subst h1 h2
  have hts := hok.2.2.2.2.2.2.1
  have hsz := hlo.choose_spec.1.1
  have h8 : (cs2.map fun v => v.category).sum ≤ 8 := by rw [z_Lcs hst2]; exact hW
  have h40 : 40 ≤ (z_rm S.1 S.2.1 S.2.2.1).locals := by show 40 ≤ 40 * S.1; omega
  exact va_mmin hok.1 hok.2.1 hsz.symm hok.2.2.2.2.2.1 (hts _ hl) (hts _ sm_min) (hts _ im_m) (hts _ cm_min) hrk (by omega) hc hs hd (h p e s m args below meth c R0 hok R H locs ls (.int (if b < a then b else a) :: cs2) hat hlo ⟨rfl, hst2⟩)
theorem j_ishr {a b : Int32} (hd : decode y.2.1 pc = .ok (.ishr, 1)) (h : z_J G l y S (pc + 1) lo (.int (a >>> (b &&& 31)) :: st) w kc ks) : z_J G l y S pc lo (.int b :: .int a :: st) w kc ks := by
  intro p e s m args below meth c R0 hok R H locs ls cst hat hlo hst
  obtain ⟨c1, cs1, rfl, h1, hst1⟩ := z_Lc hst
  obtain ⟨c2, cs2, rfl, h2, hst2⟩ := z_Lc hst1
  have h1 : c1 = .int b := h1
  have h2 : c2 = .int a := h2
  subst h1 h2
  exact lv_ishr hok.1 hok.2.1 hd (h p e s m args below meth c R0 hok R H locs ls _ hat hlo ⟨rfl, hst2⟩)
theorem j_ishl {a b : Int32} (hd : decode y.2.1 pc = .ok (.ishl, 1)) (h : z_J G l y S (pc + 1) lo (.int (a <<< (b &&& 31)) :: st) w kc ks) : z_J G l y S pc lo (.int b :: .int a :: st) w kc ks := by
  intro p e s m args below meth c R0 hok R H locs ls cst hat hlo hst
  obtain ⟨c1, cs1, rfl, h1, hst1⟩ := z_Lc hst
  obtain ⟨c2, cs2, rfl, h2, hst2⟩ := z_Lc hst1
  have h1 : c1 = .int b := h1
  have h2 : c2 = .int a := h2
  subst h1 h2
  exact lv_ishl hok.1 hok.2.1 hd (h p e s m args below meth c R0 hok R H locs ls _ hat hlo ⟨rfl, hst2⟩)
end ZJ6
end ZM1
section ZM2
section ZK1
variable {G : z_G} {l : Launch}
set_option maxRecDepth 100000 in
set_option maxHeartbeats 8000000 in
theorem c_Jxd2413_init_da8c8 (hl : l.stackTraces = false) (w : z_W) (n : Nat) : z_Con G l mJxd2413_init_da8c8 10 0 0 w [.ref n] (fun v w9 => (v = none) ∧ w9 = w) (fun _ _ => False) := by
  refine z_body hl (by decide) rfl (Nat.le_of_ble_eq_true rfl) ?_
  show z_J G l mJxd2413_init_da8c8 ((10, 0, 0, w, (fun v w9 => (v = none) ∧ w9 = w), fun _ _ => False)) 0 [(0, _)] [] _ 0 0
  refine j_aload_n dJxd2413_init_da8c8_0 rfl rfl ?_
  refine j_objI dJxd2413_init_da8c8_1 oJxd2413_1 z_oi1 z_oi2 (Nat.le_of_ble_eq_true rfl) (Nat.le_of_ble_eq_true rfl) ?_
  refine j_vret dJxd2413_init_da8c8_4 rfl ?_ (Nat.le_of_ble_eq_true rfl) (Nat.le_of_ble_eq_true rfl)
  exact ⟨rfl, rfl⟩
set_option maxRecDepth 100000 in
set_option maxHeartbeats 8000000 in
theorem c_Jxa1e45_init_da8c8 (hl : l.stackTraces = false) (w : z_W) (n : Nat) : z_Con G l mJxa1e45_init_da8c8 10 0 0 w [.ref n] (fun v w9 => (v = none) ∧ w9 = w) (fun _ _ => False) := by
  refine z_body hl (by decide) rfl (Nat.le_of_ble_eq_true rfl) ?_
  show z_J G l mJxa1e45_init_da8c8 ((10, 0, 0, w, (fun v w9 => (v = none) ∧ w9 = w), fun _ _ => False)) 0 [(0, _)] [] _ 0 0
  refine j_aload_n dJxa1e45_init_da8c8_0 rfl rfl ?_
  refine j_objI dJxa1e45_init_da8c8_1 oJxa1e45_1 z_oi1 z_oi2 (Nat.le_of_ble_eq_true rfl) (Nat.le_of_ble_eq_true rfl) ?_
  refine j_vret dJxa1e45_init_da8c8_4 rfl ?_ (Nat.le_of_ble_eq_true rfl) (Nat.le_of_ble_eq_true rfl)
  exact ⟨rfl, rfl⟩
set_option maxRecDepth 100000 in
set_option maxHeartbeats 8000000 in
theorem c_J6_init_d00df (hl : l.stackTraces = false) (x : Int32) : z_CF G l mJ6_init_d00df 11 0 0 [.inr (2, [.int 0])] [.ref 0, .int x] (fun v L => v = none ∧ L = [.inr (2, [.int x])]) := by
  refine z_body hl (by decide) rfl (Nat.le_of_ble_eq_true rfl) ?_
  show z_J G l mJ6_init_d00df (z_SF 11 0 0 [.inr (2, [.int 0])] (fun v L => v = none ∧ L = [.inr (2, [.int x])])) 0 [(0, _), (1, _)] [] _ 0 0
  refine j_aload_n dJ6_init_d00df_0 rfl rfl ?_
  refine j_callI dJ6_init_d00df_1 kJxd2413_init_da8c8 rfl lJ6_202 inJxd2413_init_da8c8 rfl (c_Jxd2413_init_da8c8 hl _ _) (Nat.le_of_ble_eq_true rfl) ⟨(Nat.le_of_ble_eq_true rfl), (Nat.le_of_ble_eq_true rfl)⟩ rfl (Nat.le_of_ble_eq_true rfl) rfl rfl (fun _ _ h => h.elim) ?_
  rintro _ _ ⟨rfl, rfl⟩
  refine j_aload_n dJ6_init_d00df_4 rfl rfl ?_
  refine j_iload_n dJ6_init_d00df_5 rfl ?_
  refine j_putF (w' := ([.inr (2, [_])], z_no)) dJ6_init_d00df_6 fJ6_205 tJ6_0 rfl (z_dc rfl rfl (z_w 1535 ((lwg_7 50).trans rfl) (by decide +kernel))) rfl ⟨rfl, rfl⟩ rfl ?_
  refine j_vret dJ6_init_d00df_9 rfl ?_ (Nat.le_of_ble_eq_true rfl) (Nat.le_of_ble_eq_true rfl)
  exact ⟨rfl, rfl, rfl, rfl⟩
set_option maxRecDepth 100000 in
set_option maxHeartbeats 8000000 in
theorem c_J6_valueOf_2dffe (hl : l.stackTraces = false) (x : Int32) : z_CF G l mJ6_valueOf_2dffe 12 1 1 [] [.int x] (fun v L => v = some (.float x.toUInt32) ∧ L = []) := by
  refine z_body hl (by decide) rfl (Nat.le_of_ble_eq_true rfl) ?_
  show z_J G l mJ6_valueOf_2dffe (z_SF 12 1 1 [] (fun v L => v = some (.float x.toUInt32) ∧ L = [])) 0 [(0, _)] [] _ 0 0
  refine j_iload_n dJ6_valueOf_2dffe_0 rfl ?_
  refine j_bipush (v := (-128)) dJ6_valueOf_2dffe_1 (by decide) ?_
  refine j_icmp_lt (tgt := 23) dJ6_valueOf_2dffe_3 (by decide) (fun c_3 => ?_) (fun c_3 => ?_)
  · refine j_new (w' := ([.inr (2, [_])], z_no)) (n := 0) dJ6_valueOf_2dffe_23 nJ6_1 rfl (z_al_l rfl rfl) (Nat.le_of_ble_eq_true rfl) (Nat.le_of_ble_eq_true rfl) ?_
    refine j_dup dJ6_valueOf_2dffe_26 rfl ?_
    refine j_iload_n dJ6_valueOf_2dffe_27 rfl ?_
    refine j_callI dJ6_valueOf_2dffe_28 kJ6_init_d00df rfl lJ6_199 inJ6_init_d00df rfl (z_frame [0] rfl (by decide) (Nat.le_of_ble_eq_true rfl) (c_J6_init_d00df hl _)) (Nat.le_of_ble_eq_true rfl) ⟨(Nat.le_of_ble_eq_true rfl), (Nat.le_of_ble_eq_true rfl)⟩ rfl (Nat.le_of_ble_eq_true rfl) rfl rfl (fun _ _ h => h.elim) ?_
    rintro _ _ ⟨_, _, ⟨rfl, rfl⟩, rfl, rfl⟩
    refine j_ws (L' := [.inr (2, [_])]) (by decide) rfl rfl ?_
    refine j_toBox (n := 0) (L0 := []) rfl (Nat.le_of_ble_eq_true rfl) (Nat.le_of_ble_eq_true rfl) rfl rfl trivial rfl ?_
    refine j_w ([], z_no) rfl ?_
    refine j_aret dJ6_valueOf_2dffe_31 rfl (Or.inl ⟨_, rfl⟩) rfl ?_ (Nat.le_of_ble_eq_true rfl) (Nat.le_of_ble_eq_true rfl)
    exact ⟨rfl, rfl, rfl, rfl⟩
  · refine j_iload_n dJ6_valueOf_2dffe_6 rfl ?_
    refine j_gets dJ6_valueOf_2dffe_7 (List.mem_of_getElem? (i := 1) rfl) rfl (z_w 1522 ((lwg_7 37).trans rfl) (by decide +kernel)) ?_
    refine j_icmp_gt (tgt := 23) dJ6_valueOf_2dffe_10 (by decide) (fun c_10 => ?_) (fun c_10 => ?_)
    · refine j_new (w' := ([.inr (2, [_])], z_no)) (n := 0) dJ6_valueOf_2dffe_23 nJ6_1 rfl (z_al_l rfl rfl) (Nat.le_of_ble_eq_true rfl) (Nat.le_of_ble_eq_true rfl) ?_
      refine j_dup dJ6_valueOf_2dffe_26 rfl ?_
      refine j_iload_n dJ6_valueOf_2dffe_27 rfl ?_
      refine j_callI dJ6_valueOf_2dffe_28 kJ6_init_d00df rfl lJ6_199 inJ6_init_d00df rfl (z_frame [0] rfl (by decide) (Nat.le_of_ble_eq_true rfl) (c_J6_init_d00df hl _)) (Nat.le_of_ble_eq_true rfl) ⟨(Nat.le_of_ble_eq_true rfl), (Nat.le_of_ble_eq_true rfl)⟩ rfl (Nat.le_of_ble_eq_true rfl) rfl rfl (fun _ _ h => h.elim) ?_
      rintro _ _ ⟨_, _, ⟨rfl, rfl⟩, rfl, rfl⟩
      refine j_ws (L' := [.inr (2, [_])]) (by decide) rfl rfl ?_
      refine j_toBox (n := 0) (L0 := []) rfl (Nat.le_of_ble_eq_true rfl) (Nat.le_of_ble_eq_true rfl) rfl rfl trivial rfl ?_
      refine j_w ([], z_no) rfl ?_
      refine j_aret dJ6_valueOf_2dffe_31 rfl (Or.inl ⟨_, rfl⟩) rfl ?_ (Nat.le_of_ble_eq_true rfl) (Nat.le_of_ble_eq_true rfl)
      exact ⟨rfl, rfl, rfl, rfl⟩
    · refine j_gets dJ6_valueOf_2dffe_13 (List.mem_of_getElem? (i := 4) rfl) rfl (z_w 1524 ((lwg_7 39).trans rfl) (by decide +kernel)) ?_
      refine j_iload_n dJ6_valueOf_2dffe_16 rfl ?_
      refine j_sipush (v := 128) dJ6_valueOf_2dffe_17 (by decide) ?_
      refine j_iadd dJ6_valueOf_2dffe_20 ?_
      refine j_aaldC dJ6_valueOf_2dffe_21 (z_cnx c_3 c_10).1 ?_
      refine j_aret dJ6_valueOf_2dffe_22 rfl (Or.inl ⟨_, rfl⟩) rfl ?_ (Nat.le_of_ble_eq_true rfl) (Nat.le_of_ble_eq_true rfl)
      exact ⟨rfl, rfl, by rw [(z_cnx c_3 c_10).2], rfl⟩
set_option maxRecDepth 100000 in
set_option maxHeartbeats 8000000 in
theorem c_J6_intValue_8abf5 (hl : l.stackTraces = false) (w : z_W) (b : UInt32) : z_Con G l mJ6_intValue_8abf5 10 0 0 w [.float b] (fun v w9 => (v = some (.int b.toInt32)) ∧ w9 = w) (fun _ _ => False) := by
  refine z_body hl (by decide) rfl (Nat.le_of_ble_eq_true rfl) ?_
  show z_J G l mJ6_intValue_8abf5 ((10, 0, 0, w, (fun v w9 => (v = some (.int b.toInt32)) ∧ w9 = w), fun _ _ => False)) 0 [(0, _)] [] _ 0 0
  refine j_aload_n dJ6_intValue_8abf5_0 rfl rfl ?_
  refine j_getB dJ6_intValue_8abf5_1 fJ6_205 ?_
  refine j_iret dJ6_intValue_8abf5_4 rfl rfl ?_ (Nat.le_of_ble_eq_true rfl) (Nat.le_of_ble_eq_true rfl)
  exact ⟨rfl, rfl⟩
set_option maxRecDepth 100000 in
set_option maxHeartbeats 8000000 in
theorem c_J3_checkIndex_8e157 (hl : l.stackTraces = false) (w : z_W) (a b : Int32) (h1 : ¬ a < 0) (h2 : a < b) : z_Con G l mJ3_checkIndex_8e157 10 0 0 w [.int a, .int b, .null] (fun v w9 => (v = some (.int a)) ∧ w9 = w) (fun _ _ => False) := by
  refine z_body hl (by decide) rfl (Nat.le_of_ble_eq_true rfl) ?_
  show z_J G l mJ3_checkIndex_8e157 ((10, 0, 0, w, (fun v w9 => (v = some (.int a)) ∧ w9 = w), fun _ _ => False)) 0 [(0, _), (1, _), (2, _)] [] _ 0 0
  refine j_iload_n dJ3_checkIndex_8e157_0 rfl ?_
  refine j_if_lt (tgt := 9) dJ3_checkIndex_8e157_1 (by decide) (fun c_1 => ?_) (fun c_1 => ?_)
  · exact absurd c_1 h1
  · refine j_iload_n dJ3_checkIndex_8e157_4 rfl ?_
    refine j_iload_n dJ3_checkIndex_8e157_5 rfl ?_
    refine j_icmp_lt (tgt := 16) dJ3_checkIndex_8e157_6 (by decide) (fun c_6 => ?_) (fun c_6 => ?_)
    · refine j_iload_n dJ3_checkIndex_8e157_16 rfl ?_
      refine j_iret dJ3_checkIndex_8e157_17 rfl rfl ?_ (Nat.le_of_ble_eq_true rfl) (Nat.le_of_ble_eq_true rfl)
      exact ⟨rfl, rfl⟩
    · exact absurd h2 c_6
set_option maxRecDepth 100000 in
set_option maxHeartbeats 8000000 in
theorem c_J15_checkIndex_7cf53 (hl : l.stackTraces = false) (w : z_W) (a b : Int32) (h1 : ¬ a < 0) (h2 : a < b) : z_Con G l mJ15_checkIndex_7cf53 11 0 0 w [.int a, .int b] (fun v w9 => (v = some (.int a)) ∧ w9 = w) (fun _ _ => False) := by
  refine z_body hl (by decide) rfl (Nat.le_of_ble_eq_true rfl) ?_
  show z_J G l mJ15_checkIndex_7cf53 ((11, 0, 0, w, (fun v w9 => (v = some (.int a)) ∧ w9 = w), fun _ _ => False)) 0 [(0, _), (1, _)] [] _ 0 0
  refine j_iload_n dJ15_checkIndex_7cf53_0 rfl ?_
  refine j_iload_n dJ15_checkIndex_7cf53_1 rfl ?_
  refine j_null dJ15_checkIndex_7cf53_2 ?_
  refine j_callS dJ15_checkIndex_7cf53_3 kJ3_checkIndex_8e157 lJ15_105 stJ3_checkIndex_8e157 (c_J3_checkIndex_8e157 hl _ _ _ h1 h2) (Nat.le_of_ble_eq_true rfl) ⟨(Nat.le_of_ble_eq_true rfl), (Nat.le_of_ble_eq_true rfl)⟩ rfl (Nat.le_of_ble_eq_true rfl) rfl rfl (fun _ _ h => h.elim) ?_
  rintro _ _ ⟨rfl, rfl⟩
  refine j_iret dJ15_checkIndex_7cf53_6 rfl rfl ?_ (Nat.le_of_ble_eq_true rfl) (Nat.le_of_ble_eq_true rfl)
  exact ⟨rfl, rfl⟩
theorem cs_IO : Cond.castable "java/lang/Integer" "java/lang/Object" ∈ z_nst := (z_wn 1980 ((lwg_9 15).trans rfl) (by decide +kernel))
theorem ac_n : Cond.native arraycopyName ∈ z_tbl := (z_w 636 ((lwg_3 111).trans rfl) (by decide +kernel))
theorem ac_s : Cond.static arraycopyName ∈ z_tbl := (z_w 635 ((lwg_3 110).trans rfl) (by decide +kernel))
theorem ac_i : Cond.initialized "java/lang/System" ∈ z_tbl := (z_w 59 ((lwg_1 14).trans rfl) (by decide +kernel))
theorem cl_110 : Cond.classLink RJ7 110 "[Ljava/lang/Object;" ∈ z_tbl := (z_w 1448 ((lwg_6 203).trans rfl) (by decide +kernel))
theorem z_dirN {G : z_G} {l : Launch} {y : z_M} {rk mc ms nm : Nat} {L0 : List z_E} {av : List Value} {Q : Option Value → List z_E → Prop} (h : z_CN G l y rk mc ms nm L0 av Q) : z_Con G l y rk mc ms (L0, z_no) av (fun v w => ∃ L' : List z_E, Q v L' ∧ w = (L', z_no)) (fun _ _ => False) :=
  z_weak h (fun _ w h => ⟨w.1, h.2.2, by rw [← h.1]⟩) (fun _ _ h => h)
theorem gc_d : Cond.declares ⟨"java/lang/Object", "getClass", "()Ljava/lang/Class;"⟩ ∈ z_nst := (z_wn 1633 ((lwg_7 148).trans rfl) (by decide +kernel))
theorem gc_s : Cond.selects "[Ljava/lang/Object;" ⟨"java/lang/Object", "getClass", "()Ljava/lang/Class;"⟩ ⟨"java/lang/Object", "getClass", "()Ljava/lang/Class;"⟩ ∈ z_tbl := (z_w 1997 ((lwg_9 32).trans rfl) (by decide +kernel))
theorem gc_i : Cond.instanceMethod ⟨"java/lang/Object", "getClass", "()Ljava/lang/Class;"⟩ ∈ z_tbl := (z_w 1423 ((lwg_6 178).trans rfl) (by decide +kernel))
theorem gc_n : Cond.native ⟨"java/lang/Object", "getClass", "()Ljava/lang/Class;"⟩ ∈ z_tbl := (z_w 1444 ((lwg_6 199).trans rfl) (by decide +kernel))
end ZK1
end ZM2
section ZM3
section ZJ7
variable {G : z_G} {l : Launch} {y : z_M} {S : z_S} {pc : Nat} {lo : List (Nat × Value)} {st : List Value} {w w' : z_W} {kc ks : Nat}
theorem j_getSK {i idx k : Nat} {t : String × Nat × String} {v : Value} (hd : decode y.2.1 pc = .ok (.getfield idx, 3)) (hF : z_F y.1.cls idx 0 k) (hi : z_strs[i]? = some t) (ht : t.1 = "LoopdefaultsModel" ∨ t.1 = "LoopdefaultsModel$Hearer") (hk2 : k < 2) (hv : [Value.retAddr (50 + i), .int 0][k]? = some v) (h : z_J G l y S (pc + 3) lo (v :: st) w kc ks) : z_J G l y S pc lo (.retAddr (10 + i) :: st) w kc ks := by
  intro p e s m args below meth c R0 hok R H locs ls cst hat hlo hst
  obtain ⟨c1, cs1, rfl, ⟨q1, h1, hq1⟩, hst1⟩ := z_Lc hst
  subst h1
  obtain ⟨a, bq, ha, hbq, -, hO⟩ := (z_okc hok).2.2.2.2.2.2.2.2.1 i t hi ht
  have e9 := (z_okc hok).1 _ _ _ hq1 ha
  subst e9
  obtain ⟨cell, o1, o2, o3, o4⟩ := hO
  have o1' : H[q1]? = some cell := by rw [(z_fS hok hat).2.1 q1 (Array.getElem?_eq_some_iff.mp o1).1 ((z_okc hok).2.1 _ _ (Or.inr (by omega)) hq1)]; exact o1
  obtain ⟨g, hg, hgv⟩ : ∃ g, vp_V [.ref bq, .int 0] k = g ∧ z_V G R w v g := by
    match k, hk2, hv with
    | 0, _, hv => exact ⟨_, rfl, by rw [← Option.some.inj hv]; exact ⟨bq, rfl, hbq⟩⟩
    | 1, _, hv => exact ⟨_, rfl, by rw [← Option.some.inj hv]; rfl⟩
  obtain ⟨q', ref, f1, f2, f3, f4, f5⟩ := hF
  have kk := h p e s m args below meth c R0 hok R H locs ls (g :: cs1) hat hlo ⟨hgv, hst1⟩
  obtain ⟨hx, hb, -, -, -, hown, hts, henv, -⟩ := hok
  obtain ⟨hS, hfc, kC, hkC, hkind⟩ := henv.1 0 _ f1
  obtain ⟨cf, kf, fi, f, hi9, hsl⟩ := hS k f2
  have hsta := (u_facts hfc hkC (u_lays (ws := z_tbl) hts f3 f2) hi9).1
  have hi2 : s.fieldFound? ref (q'.2.1 k).2.1 (q'.2.1 k).2.2.1 = some (cf, kf, fi, f) := by
    rcases f5 with z | z
    · rw [← z]; exact hi9
    · exact u_same (hts _ z) _ hi9
  have hsv : cell.slots[f.slot]? = some g := by
    rw [hsl, ← hg]
    exact o4 k hk2
  rcases f4 with f4 | ⟨host, f4⟩
  · exact W.getf hx hb hown (hts _ f4) hi2 hsta o1' o3.2 hsv rfl rfl hd kk
  · exact va_Wgetf hx hb hown (va_Nw.use (w := Cond.fieldLinkNest y.1.cls idx ref (q'.2.1 k).2.1 (q'.2.1 k).2.2.1 host) rfl (henv.2.2.1 _ f4)) hi2 hsta o1' o3.2 hsv rfl rfl hd kk
end ZJ7
end ZM3
section ZM4
section ZW
def z_fn (w : z_W) : Prop := w.1.length ≤ 1000 ∧ ∃ T : Nat, ∀ n, T ≤ n → w.2 n = none
theorem z_fresh {w : z_W} (ρ : Nat) (hρ : ρ < 64) (h : z_fn w) : ∃ n, 1000 ≤ n ∧ n % 64 = ρ ∧ z_g w n = none := by
  obtain ⟨-, T, hT⟩ := h
  refine ⟨64 * (T + 16) + ρ, by omega, by omega, ?_⟩
  have hb : Nat.blt (64 * (T + 16) + ρ) 1000 = false := z_bltF (by omega)
  simp only [z_g, hb, cond]
  exact hT _ (by omega)
def z_up (w : z_W) (n : Nat) (e : z_E) (w' : z_W) : Prop := z_g w' n = some e ∧ (∀ m, m ≠ n → z_g w' m = z_g w m) ∧ w'.1 = w.1 ∧ (z_fn w → z_fn w')
theorem z_upS {w : z_W} {n : Nat} {e : z_E} (hn : 1000 ≤ n) : z_up w n e (z_s w n e) := by
  have hb : Nat.blt n 1000 = false := z_bltF hn
  refine ⟨?_, fun m hm => z_gs_ne hm, ?_, fun h => ?_⟩
  · simp only [z_g, z_s, hb, cond]; rw [Nat.beq_refl]
  · simp only [z_s, hb, cond]
  · obtain ⟨h1, T, hT⟩ := h
    simp only [z_s, hb, cond]
    refine ⟨h1, T + n + 1, fun m hm => ?_⟩
    show cond (Nat.beq m n) (some e) (w.2 m) = none
    rw [z_beq (by omega)]
    exact hT m (by omega)
theorem z_alW {w : z_W} {n : Nat} {e : z_E} (h : z_g w n = none) (hn : 1000 ≤ n) : z_g w n = none ∧ z_al w n e (z_s w n e) := ⟨h, (z_upS hn).1, (z_upS hn).2.1⟩
theorem j_seal {G : z_G} {l : Launch} {y : z_M} {S : z_S} {pc : Nat} {lo : List (Nat × Value)} {st : List Value} {w : z_W} {kc ks n : Nat} {e : z_E} (hn : 1000 ≤ n) (h : ∀ w', z_up w n e w' → z_J G l y S pc lo st w' kc ks) : z_J G l y S pc lo st (z_s w n e) kc ks := h _ (z_upS hn)
theorem z_neF {w : z_W} {n m : Nat} {e : z_E} (h : z_g w n = none) (h2 : z_g w m = some e) : m ≠ n := fun z => by rw [z, h] at h2; cases h2
def z_fw (ρ : Nat) (w w' : z_W) : Prop := w'.1 = w.1 ∧ (z_fn w → z_fn w') ∧ ∀ n, (n < 1000 ∨ n % 64 ≠ ρ) → z_g w' n = z_g w n
theorem z_fw.rf {ρ : Nat} {w : z_W} : z_fw ρ w w := ⟨rfl, id, fun _ _ => rfl⟩
theorem z_fw.tr {ρ : Nat} {a b c : z_W} (h : z_fw ρ a b) (h2 : z_fw ρ b c) : z_fw ρ a c := ⟨h2.1.trans h.1, fun z => h2.2.1 (h.2.1 z), fun n hn => (h2.2.2 n hn).trans (h.2.2 n hn)⟩
theorem z_up.fw {ρ n : Nat} {w w' : z_W} {e : z_E} (h : z_up w n e w') (h0 : 1000 ≤ n) (h1 : n % 64 = ρ) : z_fw ρ w w' := ⟨h.2.2.1, h.2.2.2, fun m hm => h.2.1 m (fun z => by subst z; omega)⟩
theorem z_fw.g {ρ n : Nat} {w w' : z_W} {e : z_E} (h : z_fw ρ w w') (hn : n < 1000 ∨ n % 64 ≠ ρ) (hg : z_g w n = some e) : z_g w' n = some e := (h.2.2 n hn).trans hg
def z_el (ρ : Nat) (w : z_W) (v : Value) : Prop := ((∃ b, v = .float b) ∨ ∃ r, v = .ref r ∧ (r < 1000 ∨ r % 64 ≠ ρ)) ∧ ∃ C, z_is w v C ∧ Cond.castable C "java/lang/Object" ∈ z_nst
theorem z_el.ir {ρ : Nat} {w : z_W} {v : Value} (h : z_el ρ w v) : z_ir v = true := by
  rcases h.1 with ⟨b, rfl⟩ | ⟨r, rfl, -⟩ <;> rfl
theorem z_isM {w w' : z_W} {n : Nat} {C : String} (h : z_g w' n = z_g w n) (hi : z_is w (.ref n) C) : z_is w' (.ref n) C := by
  rcases hi with ⟨o, q, h1, h2⟩ | ⟨x, ty, h1, h2⟩
  · exact Or.inl ⟨o, q, h.trans h1, h2⟩
  · exact Or.inr ⟨x, ty, h.trans h1, h2⟩
theorem z_el.m {ρ : Nat} {w w' : z_W} {v : Value} (hw : ∀ n, (n < 1000 ∨ n % 64 ≠ ρ) → z_g w' n = z_g w n) (h : z_el ρ w v) : z_el ρ w' v := by
  obtain ⟨h1, C, h2, h3⟩ := h
  refine ⟨h1, C, ?_, h3⟩
  rcases h1 with ⟨b, rfl⟩ | ⟨r, rfl, hr⟩
  · exact h2
  · exact z_isM (hw r hr) h2
def z_liA (w : z_W) (ρ a : Nat) (mo : Int32) (L : List Value) (m n : Nat) (f : Nat → Value) : Prop := 1000 ≤ m ∧ m % 64 = ρ ∧ m ≠ a ∧ z_g w a = some (.inr (4, [.int mo, .ref m, .int (nI L.length)])) ∧ z_g w m = some (.inl (3, n, f)) ∧ L.length ≤ n ∧ n ≤ 1600 ∧ ∀ (j : Nat) (v : Value), L[j]? = some v → f j = v
def z_liB (w : z_W) (a : Nat) (mo : Int32) (L : List Value) (k : Nat) : Prop := L = [] ∧ k < 2 ∧ z_g w a = some (.inr (4, [.int mo, .retAddr k, .int 0]))
def z_li (w : z_W) (ρ a : Nat) (mo : Int32) (L : List Value) : Prop := 1000 ≤ a ∧ a % 64 = ρ ∧ (∀ v ∈ L, z_ir v = true) ∧ ((∃ m n f, z_liA w ρ a mo L m n f) ∨ ∃ k, z_liB w a mo L k)
theorem z_li.cell {w : z_W} {ρ a : Nat} {mo : Int32} {L : List Value} (h : z_li w ρ a mo L) : ∃ v, z_ir v = true ∧ z_g w a = some (.inr (4, [.int mo, v, .int (nI L.length)])) := by
  obtain ⟨-, -, -, ⟨m, n, f, -, -, -, h, -⟩ | ⟨k, rfl, -, h⟩⟩ := h
  · exact ⟨_, rfl, h⟩
  · exact ⟨_, rfl, h⟩
theorem z_li.len {w : z_W} {ρ a : Nat} {mo : Int32} {L : List Value} (h : z_li w ρ a mo L) : L.length ≤ 1600 := by
  obtain ⟨-, -, -, ⟨m, n, f, -, -, -, -, -, h, h2, -⟩ | ⟨k, rfl, -⟩⟩ := h
  · omega
  · exact Nat.zero_le _
theorem z_li.one {w : z_W} {ρ a j : Nat} {mo : Int32} {L : List Value} {v : Value} (h : z_li w ρ a mo L) (hj : L[j]? = some v) : ∃ m n f, z_liA w ρ a mo L m n f := by
  obtain ⟨-, -, -, h | ⟨k, rfl, -⟩⟩ := h
  · exact h
  · simp at hj
theorem z_li.ir {w : z_W} {ρ a j : Nat} {mo : Int32} {L : List Value} {v : Value} (h : z_li w ρ a mo L) (hj : L[j]? = some v) : z_ir v = true := h.2.2.1 v (List.mem_of_getElem? hj)
theorem z_li.m {w w' : z_W} {ρ a : Nat} {mo : Int32} {L : List Value} (hw : ∀ n, 1000 ≤ n → n % 64 = ρ → z_g w' n = z_g w n) (h : z_li w ρ a mo L) : z_li w' ρ a mo L := by
  obtain ⟨h1, h2, h3, h4⟩ := h
  refine ⟨h1, h2, h3, ?_⟩
  rcases h4 with ⟨m, n, f, a1, a2, a3, a4, a5, a6⟩ | ⟨k, a1, a2, a3⟩
  · exact Or.inl ⟨m, n, f, a1, a2, a3, (hw a h1 h2).trans a4, (hw m a1 a2).trans a5, a6⟩
  · exact Or.inr ⟨k, a1, a2, (hw a h1 h2).trans a3⟩
theorem z_li.fw {w w' : z_W} {ρ σ a : Nat} {mo : Int32} {L : List Value} (h : z_li w ρ a mo L) (hw : z_fw σ w w') (hne : ρ ≠ σ) : z_li w' ρ a mo L := h.m (fun n _ h2 => hw.2.2 n (Or.inr (by omega)))
def z_it (w : z_W) (i a : Nat) (mo : Int32) (k : Nat) : Prop := ∃ la : Int32, z_g w i = some (.inr (3, [.int (nI k), .int la, .int mo, .ref a]))
theorem z_it.m {w w' : z_W} {i a k : Nat} {mo : Int32} (h : z_it w i a mo k) (hw : z_g w' i = z_g w i) : z_it w' i a mo k := by
  obtain ⟨la, h⟩ := h
  exact ⟨la, hw.trans h⟩
theorem z_cla {n : Nat} (hn : n < 2147483648) : (nI n).toNatClampNeg = n := nI_clamp hn
end ZW
end ZM4
section ZM5
section
variable {p : Program} {l : Launch} {e : Env} {R : Room} {s : State} {m : MethodId} {args : Array Value} {below : List Frame} {meth : Method} {c : Code} {H : Heap} {locs : List Loc} {cells slots : Nat}
theorem vx_callSU {T : State} {locs : List Loc} {cells slots : Nat} (X : Stand p l e R s m args below meth c T locs cells slots) (hexec : p.tables.exec = Jvm.exec) {own : String} {index : Nat} {y : MethodName} {bytes : ByteArray} {maxL : Nat} {ret : Option FieldType}
    (hown : s.vm.findClass own = some m.cls) (hlink : (Cond.methodLink own index y).before args s = true) (hsame : (Cond.sameMethod y.cls y.cls y.name y.desc).before args s = true) (hsup : (Cond.superclass own y.cls).before args s = true)
    (hinst : (Cond.instanceMethod y).before args s = true) (hcode : (Cond.code y bytes maxL ret).before args s = true) (hno : y.name ≠ "<init>")
    {W : Nat} {Pre : Pt → Array Value → Prop} {Post : Pt → Array Value → Option Value → Pt → Prop} {PostX : Pt → Array Value → Addr → Pt → Prop} (hK : vx_Back l R p e below s args y 3 W Pre Post PostX)
    {b : Addr} {cellB : Cell} {kB : Class} (hcell : T.heap[b]? = some cellB) (hobj : cellB.vm.isStatics = false) (hkB : s.vm.classes[cellB.cls]? = some kB)
    {g : JFrame} (hg : g.method = m) (hsize : g.locals.size = c.maxLocals) {argsL rest : List Value} (hlen : ∀ sig, parseMethodDescriptor y.desc = some sig → argsL.length = sig.parameters.length)
    (hstack : g.stack = argsL.reverse ++ .ref b :: rest) (hW : 2 * g.monitorRoom + (rest.map fun v => v.category).sum ≤ W) (hdg : decode c.code g.pc = .ok (.invokespecial index, 3))
    (hpre : ∀ vm₁, s.WarmedH vm₁ → Pre ⟨T.setVm vm₁, locs, cells, slots⟩ (Value.ref b :: argsL).toArray) :
    (∃ (v : Option Value) (vm₁ : Vm) (B : Pt), s.WarmedH vm₁ ∧ Stand p l e R s m args below meth c B.U B.locs B.cells B.slots ∧ Post ⟨T.setVm vm₁, locs, cells, slots⟩ (Value.ref b :: argsL).toArray v B ∧
      ∀ target, Steps p.tables e below (B.U.setTop { g with pc := g.pc + 3, stack := v.toList ++ rest }) target → Steps p.tables e below (T.setTop g) target) ∨
    (∃ (q : Addr) (vm₁ : Vm) (B : Pt), s.WarmedH vm₁ ∧ Stand p l e R s m args below meth c B.U B.locs B.cells B.slots ∧ PostX ⟨T.setVm vm₁, locs, cells, slots⟩ (Value.ref b :: argsL).toArray q B ∧
      Steps p.tables e below (T.setTop g) ((B.U.setTop { g with stack := rest }).pushFrame (.throwing q))) := by
  obtain ⟨mk, methM, hnamed, hmethM, hstM, habM⟩ := Cond.instanceMethod_spec hinst
  obtain ⟨methM', cM, hmethM', -, -, -, -, -, -, hsigM⟩ := Cond.code_spec hnamed hcode
  cases hmethM.symm.trans hmethM'
  obtain ⟨ps, dk, kp, hps, hdk, hkp, hsuper, -, -, hnid⟩ := Cond.superclass_spec hown hsup
  have hn : s.methodNamed? ⟨y.cls, y.name, y.desc⟩ = some mk := hnamed
  have hpm : ps = mk.cls := Option.some.inj (hps.symm.trans (findClass_of_methodNamed hnamed))
  have hsub : s.vm.isSubclass ps mk.cls = true := by rw [hpm]; simp [Vm.isSubclass, Vm.isSubclassAux]
  obtain ⟨vm₁, X₁, hstep₁⟩ := X.invokespecialUp hexec hown hlink hsame hn hmethM hstM habM hno hdk hnid hps hsuper hsub (a := b) (cell := cellB) hcell
    (fun z h => by rw [h] at hobj; cases hobj) hkB (g := g) hg (argsL := argsL) (rest := rest) (hlen _ hsigM) hstack hdg
  rcases hK m meth c ⟨T.setVm vm₁, locs, cells, slots⟩ { g with stack := rest } (.invokespecial index) mk (Value.ref b :: argsL).toArray X₁ hg hsize hdg hW (X₁.named hnamed) (hpre vm₁ X₁.warmed) with ⟨v, B, X', hpost, hsteps⟩ | ⟨q, B, X', hpost, hsteps⟩
  · exact Or.inl ⟨v, vm₁, B, X₁.warmed, X', hpost, fun target h => hstep₁ _ (by rw [doInvoke_state]; exact hsteps.trans h)⟩
  · exact Or.inr ⟨q, vm₁, B, X₁.warmed, X', hpost, hstep₁ _ (by rw [doInvoke_state]; exact hsteps)⟩
theorem vx_runSU {y : MethodName} {bytes cc : ByteArray} {maxL nL mc ms n index : Nat} {ret : Option FieldType} {ws : List Cond} {rm : Room} {Pc : Array Value → State → Prop} {Qc : Array Value → State → Outcome → State → Prop} {XC : String → State → State → Prop} {free : Addr → Prop} {Ts : List Cond} {own C : String} {cC : ClassId} {b : Addr} {As rest : List Value} {g : JFrame}
    (hat : ClassAt s C cC) (S : CallFix p m c cc nL s args Ts own) (hM : vx_Met l y ws rm Pc Qc XC mc ms free) (cw : va_CS R s args own index y bytes maxL ret ws rm mc ms n) (hp : PreV s H C b Pc As)
    (hg : g.method = m) (hn : As.length = n) (hsize : g.locals.size = nL) (hstack : g.stack = As.reverse ++ .ref b :: rest) (hW : 2 * g.monitorRoom + (rest.map fun v => v.category).sum ≤ 8) (hdg : decode cc g.pc = .ok (.invokespecial index, 3)) (hf : cells + mc ≤ R.cells ∧ slots + ms ≤ R.slots) :
    vx_Run p l e R s m args below meth c H locs cells slots mc ms g rest (Qc (Value.ref b :: As).toArray) XC free := by
  obtain ⟨⟨hrc, hrs, hfr, hlo, hws, hcw⟩, hl1, hl2, hl3, hl4, hini, hcode, hno, hlen⟩ := cw
  have hK : vx_Back l R p e below s args y 3 8 (PreOf R mc ms Pc) (PostOf Qc mc ms free) (vx_Post XC mc ms free) := vx_back (bytes := bytes) (maxL := maxL) (ret := ret) hM hp.1 hrc hrs hfr hlo hws hcw (fun a' U hW => word_at hW (Or.inl (by first | rfl | simp [Cond.onTables, Cond.keeps, Cond.steady])) hini)
  obtain ⟨hx, hb, hml, ho, -⟩ := S
  obtain ⟨-, ⟨cellB, hcB, hoB, hclB⟩, hPc⟩ := hp
  obtain ⟨hfc, kB, hkB, -⟩ := hat
  cases hfc.symm.trans hclB
  intro T hT X
  rcases vx_callSU X hx (bytes := bytes) (maxL := maxL) (ret := ret) ho hl1 hl2 hl3 hl4 hcode hno hK (by rw [hT]; exact hcB) hoB hkB hg (hsize.trans hml.symm) (argsL := As) (rest := rest) (fun sig h => hn.trans (hlen sig h)) hstack hW (by rw [hb]; exact hdg)
    (fun vm₁ hW₁ => ⟨hf.1, hf.2, hPc (T.setVm vm₁) hT hW₁⟩) with ⟨v, vm₁, ⟨U', l2, c2, s2⟩, hW₁, X', ⟨g', mk, t, L, e1, e2, hq, h1, hL, h2, h3⟩, st⟩ | ⟨q, vm₁, ⟨U', l2, c2, s2⟩, hW₁, X', ⟨g', mk, t, L, E, ce, e1, e2, hq, hce, hcv, hcl, h1, hL, h2, h3⟩, st⟩
  · dsimp only [Pt.U, Pt.locs, Pt.cells, Pt.slots] at X' e1 e2 h1 h2 h3 st
    subst h1; subst h2; subst h3
    exact Or.inl ⟨v, (T.setVm vm₁).calling g' mk (Value.ref b :: As).toArray, t, U', L, hT, X', hL, e1, e2, hq, st⟩
  · dsimp only [Pt.U, Pt.locs, Pt.cells, Pt.slots] at X' e1 e2 h1 h2 h3 st hcl
    subst h1; subst h2; subst h3
    exact Or.inr ⟨q, (T.setVm vm₁).calling g' mk (Value.ref b :: As).toArray, t, U', L, E, ce, hT, X', hL, e1, e2, hq, hce, hcv, vx_cls hW₁ hcl, st⟩
end
end ZM5
section ZM6
section ZLo
variable {G : z_G} {l : Launch} {y : z_M} {S : z_S} {pc : Nat} {lo : List (Nat × Value)} {st : List Value} {w w' : z_W} {kc ks : Nat}
theorem z_run5 {S : z_S} {p : Program} {e : Env} {s : State} {m : MethodId} {args : Array Value} {below : List Frame} {meth : Method} {c : Code} {R0 R : z_R} {H : Heap} {locs : List Loc} {ls : Array Slot} {cst crest rest : List Value} {a9 : Array Value} {mc' ms' : Nat} {Q' : Option Value → z_W → Prop} (hok : z_ok G l y S p s m args meth c R0) (hat : z_at G S R0 s R w H locs) (hlo : z_lo G R w lo ls c.maxLocals) (hrest : z_L (z_V G R w) rest crest)
    (hr : vx_Run5 p l e (z_rm S.1 S.2.1 S.2.2.1) s m args below meth c H locs kc ks mc' ms' (F0 m pc ls cst) crest (z_Qc G R w Q' a9) (z_Xc G R w (fun _ _ => False)) (fun q => z_b G ≤ q))
    (kk : ∀ v w', Q' v w' → z_J G l y S (pc + 5) lo (v.toList ++ rest) w' (kc + mc') (ks + ms')) : W p l e (z_rm S.1 S.2.1 S.2.2.1) s m args below meth c H locs kc ks (vx_MQ below (z_Qc G R0 S.2.2.2.1 S.2.2.2.2.1) (z_Xc G R0 S.2.2.2.1 S.2.2.2.2.2) args s S.2.1 S.2.2.1 (fun q => z_b G ≤ q)) (F0 m pc ls cst) := by
  intro T hT X
  rcases hr T hT X with ⟨v, st₀, t, T', L, h0, X', hL, e1, e2, ⟨v', cv, R', w', ho, hO, hQ, hP, hTT, hF⟩, go⟩ | ⟨q, st₀, t, T', L, E, ce, h0, X', hL, e1, e2, ⟨R', w', hX, hP, hTT, hF⟩, hce, hcv, hcl, go⟩
  · cases ho
    have hat' := z_after hat h0 e1 hL hP hTT hF
    obtain ⟨t2, a1, b1⟩ := kk v' w' hQ p e s m args below meth c R0 hok R' T'.heap (locs ++ L) ls (v.toList ++ crest) hat' (z_lom hTT.V hlo) (z_Oc hO (z_Lm hTT.V hrest)) T' rfl X'
    exact ⟨t2, go t2 a1, b1⟩
  · exact hX.elim
def z_CI (own C : String) (idx : Nat) (x : MethodName) (y' : z_M) : Prop := Cond.methodLink own idx x ∈ z_tbl ∧ Cond.selects C x y'.1 ∈ z_tbl ∧ Cond.instanceMethod y'.1 ∈ z_tbl ∧ (x.cls ≠ "java/lang/invoke/MethodHandle" ∧ x.cls ≠ "java/lang/invoke/VarHandle") ∧ x.desc = y'.1.desc ∧ ∀ U : State, z_Fi U → va_Fw C x y'.1 U
theorem z_cAt {s : State} {ci : Nat} {q : vw_C} (henv : z_env G s) (hq : z_cls[ci]? = some q) : ClassAt s q.1 (z_dC G ci) := by
  obtain ⟨hS, hfc, kC, hkC, hkind⟩ := henv.1 ci _ hq
  exact ⟨hfc, kC, hkC, hkind⟩
theorem z_Fio {R0 : z_R} {s : State} {p : Program} {m : MethodId} {args : Array Value} {meth : Method} {c : Code} (hok : z_ok G l y S p s m args meth c R0) : z_Fi s := (z_okc hok).2.2.2.2.2.2.2.2.2.2.2.2
theorem j_callF {idx cnt np rk' mc' ms' : Nat} {y' : z_M} {as rest : List Value} {Q' : Option Value → z_W → Prop} {x : MethodName} {a ci : Nat} {fs : List Value} {q : vw_C} (hd : decode y.2.1 pc = .ok (.invokeinterface idx cnt, 5)) (hm : z_okm y' np) (hl : z_CI y.1.cls q.1 idx x y') (hg : z_g w a = some (.inr (ci, fs))) (hq : z_cls[ci]? = some q) (hc : z_Con G l y' rk' mc' ms' w (.ref a :: as) Q' (fun _ _ => False)) (hrk : rk' + 1 ≤ S.1) (hcs : kc + mc' ≤ S.2.1 ∧ ks + ms' ≤ S.2.2.1) (hstk : st = as.reverse ++ .ref a :: rest) (hW : z_cat rest ≤ 8) (hn : as.length = np) (kk : ∀ v w', Q' v w' → z_J G l y S (pc + 5) lo (v.toList ++ rest) w' (kc + mc') (ks + ms')) : z_J G l y S pc lo st w kc ks := by
  intro p e s m args below meth c R0 hok R H locs ls cst hat hlo hst
  subst hstk
  obtain ⟨b1, c2, rfl, hb1, hst⟩ := z_Lapp hst
  obtain ⟨c1, crest, rfl, h1, hrest⟩ := z_Lc hst
  have h1' := h1.2
  subst h1'
  have hAs := z_Lrev hb1
  rw [List.reverse_reverse] at hAs
  obtain ⟨u1, u2, u3, u4, u5, u6⟩ := hl
  have hts := hok.2.2.2.2.2.2.1
  have henv := hok.2.2.2.2.2.2.2.1
  obtain ⟨m1, m2, m3, m4, m5, m6⟩ := hm
  have ecd := z_cd m1
  have hF := u6 _ (z_Fio hok)
  have cw : va_CI (z_rm S.1 S.2.1 S.2.2.1) s args y.1.cls q.1 idx x y'.1 y'.2.1 y'.2.2.1 y'.2.2.2.1 (z_ws y') (z_rm rk' mc' ms') mc' ms' np := by
    refine ⟨⟨rfl, rfl, (z_rmle hrk m6).1, (z_rmle hrk m6).2, z_pay hts m2, by rw [← ecd]; exact List.mem_cons_self⟩, hts _ u1, va_any rfl hF.1, va_any rfl hF.2.1, hts _ u2, hts _ u3, va_any rfl hF.2.2.1, va_any rfl hF.2.2.2.1, va_any rfl hF.2.2.2.2, hts _ m3, by rw [← ecd]; exact hts _ m2, u4, ?_⟩
    rw [u5]; exact z_np m5
  exact z_run5 hok hat hlo hrest (vx_runF (C := q.1) (As := b1.reverse) (z_cAt henv hq) ⟨hok.1, hok.2.1, rfl, hok.2.2.2.2.2.1, hok.2.2.2.2.2.2.1⟩ (hc R) cw ⟨z_Pc_blind, z_recv hok hat hg hq, fun U hU hW9 => z_pre hok hat (av := .ref a :: as) (cav := .ref (R.1 a) :: b1.reverse) ⟨h1, hAs⟩ U hU hW9⟩ rfl (by rw [z_Ll hAs]; exact hn) hlo.choose_spec.1.1 (by rw [List.reverse_reverse]) (lv_room (by rw [z_Lcs hrest]; exact hW)) hd hcs) kk
def z_CSu (own : String) (idx : Nat) (y' : z_M) : Prop := Cond.methodLink own idx y'.1 ∈ z_tbl ∧ Cond.sameMethod y'.1.cls y'.1.cls y'.1.name y'.1.desc ∈ z_tbl ∧ Cond.superclass own y'.1.cls ∈ z_tbl ∧ Cond.instanceMethod y'.1 ∈ z_tbl ∧ y'.1.name ≠ "<init>"
theorem j_callSu {idx np rk' mc' ms' : Nat} {y' : z_M} {as rest : List Value} {Q' : Option Value → z_W → Prop} {X' : String → z_W → Prop} {a ci : Nat} {fs : List Value} {q : vw_C} (hd : decode y.2.1 pc = .ok (.invokespecial idx, 3)) (hm : z_okm y' np) (hl : z_CSu y.1.cls idx y') (hg : z_g w a = some (.inr (ci, fs))) (hq : z_cls[ci]? = some q) (hc : z_Con G l y' rk' mc' ms' w (.ref a :: as) Q' X') (hrk : rk' + 1 ≤ S.1) (hcs : kc + mc' ≤ S.2.1 ∧ ks + ms' ≤ S.2.2.1) (hstk : st = as.reverse ++ .ref a :: rest) (hW : z_cat rest ≤ 8) (hn : as.length = np) (ht : y.2.2.2.2 = []) (hx : ∀ E w', X' E w' → S.2.2.2.2.2 E w') (kk : ∀ v w', Q' v w' → z_J G l y S (pc + 3) lo (v.toList ++ rest) w' (kc + mc') (ks + ms')) : z_J G l y S pc lo st w kc ks := by
  intro p e s m args below meth c R0 hok R H locs ls cst hat hlo hst
  subst hstk
  obtain ⟨b1, c2, rfl, hb1, hst⟩ := z_Lapp hst
  obtain ⟨c1, crest, rfl, h1, hrest⟩ := z_Lc hst
  have h1' := h1.2
  subst h1'
  have hAs := z_Lrev hb1
  rw [List.reverse_reverse] at hAs
  obtain ⟨u1, u2, u3, u4, u5⟩ := hl
  have hts := hok.2.2.2.2.2.2.1
  have henv := hok.2.2.2.2.2.2.2.1
  obtain ⟨m1, m2, m3, m4, m5, m6⟩ := hm
  have ecd := z_cd m1
  have cw : va_CS (z_rm S.1 S.2.1 S.2.2.1) s args y.1.cls idx y'.1 y'.2.1 y'.2.2.1 y'.2.2.2.1 (z_ws y') (z_rm rk' mc' ms') mc' ms' np := by
    refine ⟨⟨rfl, rfl, (z_rmle hrk m6).1, (z_rmle hrk m6).2, z_pay hts m2, by rw [← ecd]; exact List.mem_cons_self⟩, hts _ u1, hts _ u2, hts _ u3, hts _ u4, hts _ m3, by rw [← ecd]; exact hts _ m2, u5, z_np m5⟩
  exact z_run hok hat hlo hrest ht (vx_runSU (C := q.1) (As := b1.reverse) (z_cAt henv hq) ⟨hok.1, hok.2.1, rfl, hok.2.2.2.2.2.1, hok.2.2.2.2.2.2.1⟩ (hc R) cw ⟨z_Pc_blind, z_recv hok hat hg hq, fun U hU hW9 => z_pre hok hat (av := .ref a :: as) (cav := .ref (R.1 a) :: b1.reverse) ⟨h1, hAs⟩ U hU hW9⟩ rfl (by rw [z_Ll hAs]; exact hn) hlo.choose_spec.1.1 (by rw [List.reverse_reverse]) (lv_room (by rw [z_Lcs hrest]; exact hW)) hd hcs) hcs hx kk
theorem j_ifnn {off : Int} {tgt : Nat} {v : Value} (hd : decode y.2.1 pc = .ok (.ifnonnull off, 3)) (ht : (pc : Int) + off = (tgt : Int)) (hv : z_ir v = true) (hn : v ≠ .null) (h : z_J G l y S tgt lo st w kc ks) : z_J G l y S pc lo (v :: st) w kc ks := by
  intro p e s m args below meth c R0 hok R H locs ls cst hat hlo hst
  obtain ⟨c1, cs1, rfl, h1, hst1⟩ := z_Lc hst
  have : ∃ q, c1 = .ref q := by
    cases v with
    | int x => cases hv
    | long x => cases hv
    | null => exact absurd rfl hn
    | ref n => exact ⟨_, h1.2⟩
    | float b => obtain ⟨q, h1, -⟩ := h1; exact ⟨q, h1⟩
    | retAddr k => obtain ⟨q, h1, -⟩ := h1; exact ⟨q, h1⟩
    | double b => exact h1.elim
  obtain ⟨q, rfl⟩ := this
  exact lv_ifnonnull hok.1 hok.2.1 hd ht (h p e s m args below meth c R0 hok R H locs ls _ hat hlo hst1)
theorem j_acmp_eqKK {k k' : Nat} {off : Int} {tgt : Nat} (hd : decode y.2.1 pc = .ok (.if_acmp .eq off, 3)) (ht : (pc : Int) + off = (tgt : Int)) (h : z_J G l y S tgt lo st w kc ks) (h2 : z_J G l y S (pc + 3) lo st w kc ks) : z_J G l y S pc lo (.retAddr k :: .retAddr k' :: st) w kc ks := by
  intro p e s m args below meth c R0 hok R H locs ls cst hat hlo hst
  obtain ⟨c1, cs1, rfl, ⟨q1, h1, k1⟩, hst1⟩ := z_Lc hst
  obtain ⟨c2, cs2, rfl, ⟨q2, e2, k2⟩, hst2⟩ := z_Lc hst1
  subst h1 e2
  exact lv_acmp_eq (rx := some q2) (ry := some q1) hok.1 hok.2.1 hd ht (fun _ => h p e s m args below meth c R0 hok R H locs ls _ hat hlo hst2) (fun _ => h2 p e s m args below meth c R0 hok R H locs ls _ hat hlo hst2)
theorem j_getCK {idx k : Nat} (hd : decode y.2.1 pc = .ok (.invokevirtual idx, 3)) (hl : Cond.methodLink y.1.cls idx ⟨"java/lang/Object", "getClass", "()Ljava/lang/Class;"⟩ ∈ z_tbl) (hdc : Cond.declares ⟨"java/lang/Object", "getClass", "()Ljava/lang/Class;"⟩ ∈ z_nst)
    (hs : Cond.selects "[Ljava/lang/Object;" ⟨"java/lang/Object", "getClass", "()Ljava/lang/Class;"⟩ ⟨"java/lang/Object", "getClass", "()Ljava/lang/Class;"⟩ ∈ z_tbl) (hi : Cond.instanceMethod ⟨"java/lang/Object", "getClass", "()Ljava/lang/Class;"⟩ ∈ z_tbl) (hnat : Cond.native ⟨"java/lang/Object", "getClass", "()Ljava/lang/Class;"⟩ ∈ z_tbl)
    (hk2 : k < 2) (hrk : 1 ≤ S.1) (hW : z_cat st ≤ 8) (h : z_J G l y S (pc + 3) lo (.retAddr 6 :: st) w kc ks) : z_J G l y S pc lo (.retAddr k :: st) w kc ks := by
  intro p e s m args below meth c R0 hok R H locs ls cst hat hlo hst
  obtain ⟨c1, cs1, rfl, ⟨qk, h1, hk⟩, hst1⟩ := z_Lc hst
  subst h1
  obtain ⟨q, hq, hm⟩ := (z_okc hok).2.2.2.2.2.2.2.1
  have hts := hok.2.2.2.2.2.2.1
  have hsz := hlo.choose_spec.1.1
  have h8 : (cs1.map fun v => v.category).sum ≤ 8 := by rw [z_Lcs hst1]; exact hW
  have h40 : 40 ≤ (z_rm S.1 S.2.1 S.2.2.1).locals := by show 40 ≤ 40 * S.1; omega
  obtain ⟨cell, o1, o2, o3, -⟩ := ((z_okc hok).2.2.2.2.2.2.2.2.2.2.1 k qk hk2 hk).kept (z_fS hok hat).2.1
  exact va_getC hok.1 hok.2.1 hsz.symm hok.2.2.2.2.2.1 (hts _ hl) (va_Nw.use (w := Cond.declares ⟨"java/lang/Object", "getClass", "()Ljava/lang/Class;"⟩) rfl (hok.2.2.2.2.2.2.2.1.2.2.1 _ hdc)) (hts _ hs) (hts _ hi) (hts _ hnat) hm ⟨cell, o1, o2, o3⟩ hrk (by omega) hd (h p e s m args below meth c R0 hok R H locs ls (.ref q :: cs1) hat hlo ⟨⟨q, rfl, hq⟩, hst1⟩)
theorem j_acopyK {idx b k kd n0 n1 : Nat} {g : Nat → Value} {sp dp n : Int32} {ty : FieldType} (hd : decode y.2.1 pc = .ok (.invokestatic idx, 3)) (hl : Cond.methodLink y.1.cls idx arraycopyName ∈ z_tbl) (hnat : Cond.native arraycopyName ∈ z_tbl) (hstat : Cond.static arraycopyName ∈ z_tbl) (hini : Cond.initialized "java/lang/System" ∈ z_tbl)
    (hT9 : ∀ (U : State) (q : Nat), z_cst G U → z_k G k q → ∃ f, z_vT G ty q n0 f U ∧ ∀ j, j < n0 → ∃ x, f j = .int x ∧ fits ty (.int x) = true) (hgb : z_g w b = some (.inl (kd, n1, g))) (hk : z_tyl[kd]? = some ty) (h1 : ¬ sp < 0) (h2 : ¬ dp < 0) (h3 : ¬ n < 0) (h4 : sp.toNatClampNeg + n.toNatClampNeg ≤ n0) (h5 : dp.toNatClampNeg + n.toNatClampNeg ≤ n1)
    (hrk : 1 ≤ S.1) (hW : z_cat st ≤ 8) (h : ∀ f : Nat → Value, (∀ j, j < n0 → ∃ x, f j = .int x ∧ fits ty (.int x) = true) → z_J G l y S (pc + 3) lo st (z_s w b (.inl (kd, n1, va_cpy f g sp.toNatClampNeg dp.toNatClampNeg n.toNatClampNeg))) kc ks) : z_J G l y S pc lo (.int n :: .int dp :: .ref b :: .int sp :: .retAddr k :: st) w kc ks := by
  intro p e s m args below meth c R0 hok R H locs ls cst hat hlo hst
  obtain ⟨c9, cs9, rfl, e9, hst1⟩ := z_Lc hst
  obtain ⟨c8, cs8, rfl, e8, hst2⟩ := z_Lc hst1
  obtain ⟨c7, cs7, rfl, ⟨-, e7⟩, hst3⟩ := z_Lc hst2
  obtain ⟨c6, cs6, rfl, e6, hst4⟩ := z_Lc hst3
  obtain ⟨c5, cs5, rfl, ⟨qa, e5, hqa⟩, hst5⟩ := z_Lc hst4
  have e9 : c9 = .int n := e9
  have e8 : c8 = .int dp := e8
  have e6 : c6 = .int sp := e6
  subst e9 e8 e7 e6 e5
  obtain ⟨f, hf, hfx⟩ := hT9 s qa (z_okc hok) hqa
  obtain ⟨scr, t1, ⟨hs6, k0, hk0, cm0, hkk0⟩, t3, t4, t5, t6, -⟩ := hf.kept (z_fS hok hat).2.1
  obtain ⟨zb, b1, b2⟩ := (hat.1.1 b _ hgb).1
  have hok2 := hok
  obtain ⟨hx, hb, -, -, -, hown, hts, henv, -⟩ := hok2
  obtain ⟨-, k1, hk1, cm1, hkk1⟩ := (henv.2.1 kd _ hk).1 n1 zb
  have hsz := hlo.choose_spec.1.1
  have kk := fun (H' : Heap) (L : List Loc) q1 q2 q3 q4 => h f hfx p e s m args below meth c R0 hok R H' (locs ++ L) ls cs5 (z_writeM (H' := H') (L := L) hat hgb q1 q2 q3 q4) (z_lom (z_Vs hgb) hlo) (z_Lm (z_Vs hgb) hst5)
  have h8 : 2 * (F0 m pc ls (.int n :: .int dp :: .ref (R.1 b) :: .int sp :: .ref qa :: cs5)).monitorRoom + (cs5.map fun v => v.category).sum ≤ 8 := lv_room (by rw [z_Lcs hst5]; exact hW)
  have h40 : 40 ≤ (z_rm S.1 S.2.1 S.2.2.1).locals := by show 40 ≤ 40 * S.1; omega
  have hnw : nativeFrameWords "java/lang/System" "arraycopy" 5 + 11 ≤ 32 := by decide
  intro T hT X
  have e0 : ∀ i, i < n.toNatClampNeg → scr.slots.getD (sp.toNatClampNeg + i) .null = f (sp.toNatClampNeg + i) := fun i hi => by
    rw [Array.getD_eq_getD_getElem?, t6 _ (by omega)]
    rfl
  obtain ⟨vm', X', step⟩ := X.arraycopy hx hown (hts _ hl) (hts _ hnat) (hts _ hstat) (hts _ hini) (src := qa) (dst := R.1 b) (cs := scr) (cd := arrV (z_dA G kd) n1 zb) (srcPos := sp) (destPos := dp) (n := n) (by rw [hT]; exact t1) (by rw [hT]; exact b1)
    hs6 (fun _ h => by cases h) t3 (fun h => by cases h) hk0 hk1 hkk0 hkk1 (by simp) h1 h2 h3
    (by rw [z_nn h1, z_nn h3]; omega)
    (by rw [z_nn h2, z_nn h3, arrV_size]; omega)
    (fun vm₁ hal i hi => by
      rw [e0 i hi]
      obtain ⟨x, ex, hfit⟩ := hfx (sp.toNatClampNeg + i) (by omega)
      rw [ex]
      exact ⟨hfit, trivial⟩)
    (g := F0 m pc ls (.int n :: .int dp :: .ref (R.1 b) :: .int sp :: .ref qa :: cs5)) rfl (by rw [← hsz]) (rest := cs5) rfl (by rw [hb]; exact hd) hrk (by omega)
  have e1 : copied scr (arrV (z_dA G kd) n1 zb) sp dp n = arrV (z_dA G kd) n1 (va_cpy f zb sp.toNatClampNeg dp.toNatClampNeg n.toNatClampNeg) := va_copiedX (fun z => z) scr (z_dA G kd) f zb t6 h4
  rw [e1] at X' step
  have hl9 : R.1 b < H.size := (Array.getElem?_eq_some_iff.mp b1).1
  have hheap : ((T.setVm vm').setCell (R.1 b) (arrV (z_dA G kd) n1 (va_cpy f zb sp.toNatClampNeg dp.toNatClampNeg n.toNatClampNeg))).heap = H.setIfInBounds (R.1 b) (arrV (z_dA G kd) n1 (va_cpy f zb sp.toNatClampNeg dp.toNatClampNeg n.toNatClampNeg)) := by rw [← hT]; rfl
  obtain ⟨t, t1, t2⟩ := kk _ _ (by simp) (fun q hq => by simp [Array.getElem?_setIfInBounds, Ne.symm hq]) (z_Xc9 (f9 := f) (z_Vs hgb) (fun j hj => by obtain ⟨x, ex, -⟩ := hfx j hj; rw [ex]; exact rfl) b2 h4 (by simp [Array.getElem?_setIfInBounds, hl9])) (fun x hx => by
    obtain ⟨z, -, hz⟩ := List.mem_map.mp hx
    rw [← hz]) _ hheap X'
  exact ⟨t, step t t1, t2⟩
end ZLo
end ZM6
section ZM7
section ZGi
variable {G : z_G} {l : Launch} {y : z_M} {S : z_S} {pc : Nat} {lo : List (Nat × Value)} {st : List Value} {w w' : z_W} {kc ks : Nat}
abbrev z_gcN : MethodName := ⟨"java/lang/Object", "getClass", "()Ljava/lang/Class;"⟩
abbrev z_gcC : MethodName := ⟨"java/util/Collection", "getClass", "()Ljava/lang/Class;"⟩
theorem z_gcI {p : Program} {e : Env} {R : Room} {s : State} {m : MethodId} {args : Array Value} {below : List Frame} {meth : Method} {c : Code} {T : State} {locs : List Loc} {cells slots : Nat} (X : Stand p l e R s m args below meth c T locs cells slots) (hexec : p.tables.exec = Jvm.exec) {own : String} {index count : Nat}
    (hown : s.vm.findClass own = some m.cls) (hlink : (Cond.methodLink own index z_gcC).before args s = true) (hdecl : (Cond.declares z_gcN).before args s = true)
    (hface : (Cond.interfaceMethod "java/util/Collection" "java/lang/Object" "getClass" "()Ljava/lang/Class;").before args s = true) (hsame : (Cond.sameMethod "java/lang/Object" "java/lang/Object" "getClass" "()Ljava/lang/Class;").before args s = true) (hsel : (Cond.selects "java/util/ArrayList" z_gcN z_gcN).before args s = true) (hinst : (Cond.instanceMethod z_gcN).before args s = true)
    (hpub : (Cond.publicMethod z_gcN).before args s = true) (hunh : (Cond.unhidden "java/util/ArrayList" "getClass" "()Ljava/lang/Class;").before args s = true) (hcast : (Cond.castable "java/util/ArrayList" "java/util/Collection").before args s = true)
    (hnat : (Cond.native z_gcN).before args s = true)
    {b : Addr} {cB : ClassId} {kB : Class} (hcB : s.vm.findClass "java/util/ArrayList" = some cB) (hkB : s.vm.classes[cB]? = some kB) (hrecv : ∃ cell : Cell, T.heap[b]? = some cell ∧ cell.cls = cB ∧ cell.vm.isStatics = false) {mir : Addr} (hmir : kB.mirror = some mir)
    {g : JFrame} (hg : g.method = m) (hsize : g.locals.size = c.maxLocals) {rest : List Value} (hstack : g.stack = .ref b :: rest) (hdg : decode c.code g.pc = .ok (.invokeinterface index count, 5))
    (hframes : 1 ≤ R.frames) (hlocals : 2 * g.monitorRoom + (rest.map fun v => v.category).sum + (nativeFrameWords "java/lang/Object" "getClass" 1 + 11) ≤ R.locals) :
    ∃ vm₁, Stand p l e R s m args below meth c (T.setVm vm₁) locs cells slots ∧
      ∀ target, Steps p.tables e below ((T.setVm vm₁).setTop { g with pc := g.pc + 5, stack := .ref mir :: rest }) target → Steps p.tables e below (T.setTop g) target := by
  obtain ⟨cellB, hcellT, hclsB, hstatB⟩ := hrecv
  obtain ⟨mk, methM, hnamed, hmethM, -, habM⟩ := Cond.instanceMethod_spec hinst
  obtain ⟨hnameM, hdescM⟩ := name_of_methodNamed hnamed hmethM
  obtain ⟨c2, r2, m2, q1, q2, q3, q4, -⟩ := Cond.selects_spec hsel
  cases hcB.symm.trans q1
  cases hnamed.symm.trans q3
  obtain ⟨cL, kL, r1, hcL, hkL, hiL, hfoundL, hn1⟩ := Cond.interfaceMethod_spec hface
  cases hnamed.symm.trans hn1
  obtain ⟨cn5, ck5, r5, -, -, -, hf5, hn5⟩ := Cond.sameMethod_found hsame
  cases hnamed.symm.trans hn5
  cases hf5.symm.trans q2
  have hselP : selectMethod e.platform s.vm cellB.cls mk = .method mk := by rw [Launch.admits_selectMethod X.admits, hclsB]; exact q4
  have hpubM : hasFlag methM.accessFlags Acc.public_ = true := Cond.publicMethod_spec hnamed hmethM hpub
  have hway : ((cellB.cls :: s.vm.superclasses cellB.cls).any fun k => (declaredIn s.vm methM.name methM.desc k).any fun (_, z) => z.isPrivate || z.isStatic) = false := by
    rw [hnameM, hdescM, hclsB]; exact Cond.unhidden_spec hcB hunh
  obtain ⟨c3, t3, w1, w2, w3⟩ := Cond.castable_spec hcast
  cases hcB.symm.trans w1
  cases hcL.symm.trans w2
  obtain ⟨mN, kN, methN, hnamedN, hmethN, hkN, N⟩ := NativeOf.of_instance hnat hinst (by decide +kernel : parseMethodDescriptor z_gcN.desc = some { parameters := [], returnType := some (.object "java/lang/Class") })
  cases hnamed.symm.trans hnamedN
  cases hmethM.symm.trans hmethN
  have hlen0 : ([] : List Value).length = methM.sig.parameters.length := by
    obtain ⟨mk', meth', hn', hm', -, hsig'⟩ := Cond.declares_spec hdecl
    cases hnamed.symm.trans hn'
    cases hmethM.symm.trans hm'
    have := Option.some.inj ((by decide +kernel : parseMethodDescriptor z_gcN.desc = some { parameters := [], returnType := some (.object "java/lang/Class") }).symm.trans hsig')
    rw [← this]; rfl
  obtain ⟨vm₁, X₁, hstep₁⟩ := X.invokeinterfaceObject hexec hown hlink hface hdecl hpub (by decide) (by decide) hcL hcellT
    (fun z h => by rw [h] at hstatB; cases hstatB) (by rw [hclsB]; exact hkB) (by rw [hclsB]; exact w3) hnamed hmethM hselP hmethM hway hpubM habM (g := g) hg (argsL := []) (rest := rest) hlen0 hstack hdg
  have hal : s.vm.Alike vm₁ := X₁.warmed.alike
  obtain ⟨kN₁, N₁⟩ := N.alike hal
  obtain ⟨kB₁, hkB₁, ekB⟩ := hal.2.2 _ _ hkB
  have hAt : At (T.setVm vm₁) ({ g with stack := rest } : JFrame).method c below := by rw [show ({ g with stack := rest } : JFrame).method = m from hg]; exact X₁.here
  have hroom := X₁.notFull (g := { g with stack := rest }) hsize (vars := nativeFrameWords "java/lang/Object" "getClass" 1) hframes hlocals
  refine ⟨vm₁, X₁, fun target hrest => hstep₁ target fun acts => ?_⟩
  exact Steps.getClassOf p hAt acts N₁ hroom (show (T.setVm vm₁).heap[b]? = some cellB from hcellT) (fun z h => by rw [h] at hstatB; cases hstatB)
    (show (T.setVm vm₁).vm.classes[cellB.cls]? = some kB₁ by rw [hclsB]; exact hkB₁) (by rw [ekB]; exact hmir) hdg hrest
theorem j_gcI {idx cnt a : Nat} {fs : List Value} (hd : decode y.2.1 pc = .ok (.invokeinterface idx cnt, 5)) (hl : Cond.methodLink y.1.cls idx z_gcC ∈ z_tbl) (hsm : Cond.sameMethod "java/lang/Object" "java/lang/Object" "getClass" "()Ljava/lang/Class;" ∈ z_tbl) (hs : Cond.selects "java/util/ArrayList" z_gcN z_gcN ∈ z_tbl) (hi : Cond.instanceMethod z_gcN ∈ z_tbl) (hnat : Cond.native z_gcN ∈ z_tbl)
    (hg : z_g w a = some (.inr (4, fs))) (hrk : 1 ≤ S.1) (hW : z_cat st ≤ 8) (h : z_J G l y S (pc + 5) lo (.retAddr 7 :: st) w kc ks) : z_J G l y S pc lo (.ref a :: st) w kc ks := by
  intro p e s m args below meth c R0 hok R H locs ls cst hat hlo hst
  obtain ⟨c1, cs1, rfl, hv, hst1⟩ := z_Lc hst
  obtain ⟨-, h1⟩ := hv
  subst h1
  obtain ⟨q, hq, hm⟩ := (z_okc hok).2.2.2.2.2.2.2.2.2.2.2.1
  obtain ⟨g1, g2, g3, g4, g5⟩ := (z_Fio hok).2.2.2
  have hts := hok.2.2.2.2.2.2.1
  have hsz := hlo.choose_spec.1.1
  have h8 : (cs1.map fun v => v.category).sum ≤ 8 := by rw [z_Lcs hst1]; exact hW
  have h40 : 40 ≤ (z_rm S.1 S.2.1 S.2.2.1).locals := by show 40 ≤ 40 * S.1; omega
  obtain ⟨q9, gs, x1, x2, ⟨cell, o1, o2, o3, -⟩, -⟩ := (hat.1.1 a _ hg).1
  obtain ⟨c0, k0, e1, e2, e3⟩ := hm
  have hC := (hok.2.2.2.2.2.2.2.1.1 4 _ rfl).2.1
  intro T hT X
  have ec : cell.cls = c0 := by
    have e9 := o2
    rw [o2]
    exact Option.some.inj (hC.symm.trans e1)
  obtain ⟨vm', X', step⟩ := z_gcI X hok.1 hok.2.2.2.2.2.1 (hts _ hl) (va_Nw.use rfl g2) (va_Nw.use rfl g1) (hts _ hsm) (hts _ hs) (hts _ hi) (va_Nw.use rfl g3) (va_Nw.use rfl g4) (va_Nw.use rfl g5) (hts _ hnat) e1 e2 ⟨cell, by rw [hT]; exact o1, ec, by rw [o3]; rfl⟩ e3 (g := F0 m pc ls (.ref (R.1 a) :: cs1)) rfl (by rw [← hsz]) rfl (by rw [hok.2.1]; exact hd) hrk (by show 2 * 0 + _ + _ ≤ _; have hw : nativeFrameWords "java/lang/Object" "getClass" 1 = 3 := (by decide); omega)
  obtain ⟨t, a1, b1⟩ := h p e s m args below meth c R0 hok R H locs ls (.ref q :: cs1) hat hlo ⟨⟨q, rfl, hq⟩, hst1⟩ (T.setVm vm') hT X'
  exact ⟨t, step t a1, b1⟩
theorem j_ldcC {idx : Nat} (hd : decode y.2.1 pc = .ok (.ldc idx, 2)) (hl : Cond.classLink y.1.cls idx "java/util/ArrayList" ∈ z_tbl) (h : z_J G l y S (pc + 2) lo (.retAddr 7 :: st) w kc ks) : z_J G l y S pc lo st w kc ks := by
  intro p e s m args below meth c R0 hok R H locs ls cst hat hlo hst
  obtain ⟨q, hq, hm⟩ := (z_okc hok).2.2.2.2.2.2.2.2.2.2.2.1
  exact va_ldcM hok.1 hok.2.1 hok.2.2.2.2.2.1 (hok.2.2.2.2.2.2.1 _ hl) hm hd (h p e s m args below meth c R0 hok R H locs ls (.ref q :: cst) hat hlo ⟨⟨q, rfl, hq⟩, hst⟩)
end ZGi
end ZM7
section ZM8
section ZLi
set_option maxRecDepth 100000 in
theorem nI_shr0 : ∀ n, n < 1601 → (nI n) >>> ((Int32.ofInt 1) &&& 31) = nI (n / 2) := by decide +kernel
theorem nI_shr {n : Nat} (h : n ≤ 1600) : (nI n) >>> ((Int32.ofInt 1) &&& 31) = nI (n / 2) := nI_shr0 n (by omega)
theorem nI_mx1 {k : Nat} (h : k < 2147483648) : (if (Int32.ofInt 1) < nI k then nI k else Int32.ofInt 1) = nI (max 1 k) := by
  have e1 : Int32.ofInt 1 = nI 1 := by decide
  rw [e1]
  by_cases hk : 1 < k
  · rw [if_pos ((nI_ltI (by omega) (by omega)).mpr hk), Nat.max_eq_right (by omega)]
  · rw [if_neg (fun z => hk ((nI_ltI (by omega) (by omega)).mp z)), Nat.max_eq_left (by omega)]
theorem nI_mn {a b : Nat} (ha : a < 2147483648) (hb : b < 2147483648) : (if nI b < nI a then nI b else nI a) = nI (min a b) := by
  by_cases hk : b < a
  · rw [if_pos ((nI_ltI (by omega) (by omega)).mpr hk), Nat.min_eq_right (by omega)]
  · rw [if_neg (fun z => hk ((nI_ltI (by omega) (by omega)).mp z)), Nat.min_eq_left (by omega)]
def z_nl (n : Nat) : Nat := n + max 1 (n / 2)
theorem z_nlI (n : Nat) : nI n + nI (max 1 (n / 2)) = nI (z_nl n) := nI_add _ _
theorem z_nl_lt (n : Nat) : n < z_nl n := by unfold z_nl; omega
theorem z_nl_le {n M : Nat} (h : n ≤ M) : z_nl n ≤ 2 * M + 10 := by unfold z_nl; omega
theorem z_nl_le2 {n : Nat} (h : n ≤ 1000) : z_nl n ≤ 1600 := by unfold z_nl; omega
theorem z_li.of {w : z_W} {ρ a : Nat} {mo : Int32} {L : List Value} {m n : Nat} {f : Nat → Value} (h1 : 1000 ≤ a) (h2 : a % 64 = ρ) (h3 : ∀ v ∈ L, z_ir v = true) (h : z_liA w ρ a mo L m n f) : z_li w ρ a mo L := ⟨h1, h2, h3, Or.inl ⟨m, n, f, h⟩⟩
theorem z_irS {L : List Value} {j : Nat} {x : Value} (h : ∀ v ∈ L, z_ir v = true) (hx : z_ir x = true) : ∀ v ∈ L.set j x, z_ir v = true := fun v hv => by
  rcases List.mem_or_eq_of_mem_set hv with h1 | h1
  · exact h v h1
  · rw [h1]; exact hx
theorem z_irA {L : List Value} {x : Value} (h : ∀ v ∈ L, z_ir v = true) (hx : z_ir x = true) : ∀ v ∈ L ++ [x], z_ir v = true := fun v hv => by
  rcases List.mem_append.mp hv with h1 | h1
  · exact h v h1
  · rw [List.mem_singleton.mp h1]; exact hx
theorem z_conS {L : List Value} {j n : Nat} {f : Nat → Value} {x : Value} (hn : n ≤ 1600) (hj : j < L.length) (hl : L.length ≤ n) (h : ∀ (q : Nat) (v : Value), L[q]? = some v → f q = v) : ∀ (q : Nat) (v : Value), (L.set j x)[q]? = some v → z_u f (nI j).toNatClampNeg x q = v := fun q v hq => by
  rw [z_cla (by omega)]
  by_cases hqj : q = j
  · subst hqj
    rw [List.getElem?_set_self hj] at hq
    rw [z_u_self]
    exact Option.some.inj hq
  · rw [List.getElem?_set_ne (Ne.symm hqj)] at hq
    rw [z_u_ne hqj]
    exact h q v hq
theorem z_conA {L : List Value} {n : Nat} {f : Nat → Value} {x : Value} (hn : n ≤ 1600) (hl : L.length < n) (h : ∀ (q : Nat) (v : Value), L[q]? = some v → f q = v) : ∀ (q : Nat) (v : Value), (L ++ [x])[q]? = some v → z_u f (nI L.length).toNatClampNeg x q = v := fun q v hq => by
  rw [z_cla (by omega)]
  by_cases hqj : q = L.length
  · subst hqj
    rw [List.getElem?_append_right (Nat.le_refl _), Nat.sub_self] at hq
    rw [z_u_self]
    exact Option.some.inj hq
  · have hq2 : q < L.length := by
      have := (List.getElem?_eq_some_iff.mp hq).1
      rw [List.length_append] at this
      have : q < L.length + 1 := this
      omega
    rw [List.getElem?_append_left hq2] at hq
    rw [z_u_ne hqj]
    exact h q v hq
theorem z_lenS {L : List Value} {j : Nat} {x : Value} : (L.set j x).length = L.length := List.length_set
theorem z_lenA {L : List Value} {x : Value} : (L ++ [x]).length = L.length + 1 := List.length_append
theorem z_conI {L : List Value} {j n : Nat} {f : Nat → Value} {x : Value} (hn : n ≤ 1600) (hj : j ≤ L.length) (hl : L.length < n) (h : ∀ (q : Nat) (v : Value), L[q]? = some v → f q = v) : ∀ (q : Nat) (v : Value), (L.take j ++ x :: L.drop j)[q]? = some v → z_u (va_cpy f f (nI j).toNatClampNeg (nI (j + 1)).toNatClampNeg (nI (L.length - j)).toNatClampNeg) (nI j).toNatClampNeg x q = v := fun q v hq => by
  rw [z_cla (n := j) (by omega), z_cla (n := j + 1) (by omega), z_cla (by omega)]
  have hlt : (L.take j).length = j := by rw [List.length_take]; omega
  by_cases hqj : q = j
  · subst hqj
    rw [List.getElem?_append_right (by omega), hlt, Nat.sub_self] at hq
    rw [z_u_self]
    exact Option.some.inj hq
  · rw [z_u_ne hqj]
    unfold va_cpy
    by_cases hq1 : q < j
    · rw [List.getElem?_append_left (by omega), List.getElem?_take_of_lt hq1] at hq
      rw [if_neg (by omega)]
      exact h q v hq
    · have hq2 : j < q := by omega
      rw [List.getElem?_append_right (by omega), hlt] at hq
      obtain ⟨k, rfl⟩ : ∃ k, q = j + 1 + k := ⟨q - j - 1, by omega⟩
      have e1 : j + 1 + k - j = k + 1 := by omega
      rw [e1, List.getElem?_cons_succ, List.getElem?_drop] at hq
      have hlen := (List.getElem?_eq_some_iff.mp hq).1
      rw [if_pos (by omega)]
      have e2 : j + (j + 1 + k - (j + 1)) = j + k := by omega
      rw [e2]
      exact h _ v hq
theorem z_lenI {L : List Value} {j : Nat} {x : Value} (hj : j ≤ L.length) : (L.take j ++ x :: L.drop j).length = L.length + 1 := by
  rw [List.length_append, List.length_cons, List.length_take, List.length_drop]
  omega
theorem z_irI {L : List Value} {j : Nat} {x : Value} (h : ∀ v ∈ L, z_ir v = true) (hx : z_ir x = true) : ∀ v ∈ L.take j ++ x :: L.drop j, z_ir v = true := fun v hv => by
  rcases List.mem_append.mp hv with h1 | h1
  · exact h v (List.mem_of_mem_take h1)
  · rcases List.mem_cons.mp h1 with h2 | h2
    · rw [h2]; exact hx
    · exact h v (List.mem_of_mem_drop h2)
theorem z_conR {L : List Value} {j n : Nat} {f : Nat → Value} (hn : n ≤ 1600) (hj : j + 1 < L.length) (hl : L.length ≤ n) (h : ∀ (q : Nat) (v : Value), L[q]? = some v → f q = v) : ∀ (q : Nat) (v : Value), (L.eraseIdx j)[q]? = some v → z_u (va_cpy f f (nI (j + 1)).toNatClampNeg (nI j).toNatClampNeg (nI (L.length - 1 - j)).toNatClampNeg) (nI (L.length - 1)).toNatClampNeg .null q = v := fun q v hq => by
  rw [z_cla (n := j) (by omega), z_cla (n := j + 1) (by omega), z_cla (n := L.length - 1 - j) (by omega), z_cla (by omega)]
  have hlen := (List.getElem?_eq_some_iff.mp hq).1
  rw [List.length_eraseIdx_of_lt (by omega)] at hlen
  rw [z_u_ne (by omega)]
  unfold va_cpy
  rw [List.getElem?_eraseIdx] at hq
  by_cases hq1 : q < j
  · rw [if_pos hq1] at hq
    rw [if_neg (by omega)]
    exact h q v hq
  · rw [if_neg hq1] at hq
    rw [if_pos (by omega)]
    have e2 : j + 1 + (q - j) = q + 1 := by omega
    rw [e2]
    exact h _ v hq
theorem z_conR2 {L : List Value} {j n : Nat} {f : Nat → Value} (hn : n ≤ 1600) (hj : j + 1 = L.length) (hl : L.length ≤ n) (h : ∀ (q : Nat) (v : Value), L[q]? = some v → f q = v) : ∀ (q : Nat) (v : Value), (L.eraseIdx j)[q]? = some v → z_u f (nI (L.length - 1)).toNatClampNeg .null q = v := fun q v hq => by
  rw [z_cla (by omega)]
  have hlen := (List.getElem?_eq_some_iff.mp hq).1
  rw [List.length_eraseIdx_of_lt (by omega)] at hlen
  rw [z_u_ne (by omega)]
  rw [List.getElem?_eraseIdx, if_pos (by omega)] at hq
  exact h q v hq
theorem z_lenR {L : List Value} {j : Nat} (hj : j < L.length) : (L.eraseIdx j).length = L.length - 1 := List.length_eraseIdx_of_lt hj
theorem z_irR {L : List Value} {j : Nat} (h : ∀ v ∈ L, z_ir v = true) : ∀ v ∈ L.eraseIdx j, z_ir v = true := fun v hv => h v (List.mem_of_mem_eraseIdx hv)
theorem z_elF {ρ : Nat} {w : z_W} {b : UInt32} : z_el ρ w (.float b) := ⟨Or.inl ⟨b, rfl⟩, "java/lang/Integer", rfl, cs_IO⟩
end ZLi
section ZLi2
theorem nI_o0 : Int32.ofInt 0 = nI 0 := by decide
theorem nI_o1 : Int32.ofInt 1 = nI 1 := by decide
theorem nI_inj {a b : Nat} (h : nI a = nI b) (ha : a < 2147483648) (hb : b < 2147483648) : a = b := by
  have e := congrArg Int32.toNatClampNeg h
  rw [z_cla ha, z_cla hb] at e
  exact e
theorem nI_sub1 (k : Nat) : nI (k + 1) - nI k = Int32.ofInt 1 := by
  rw [nI_o1, pk_sub (by omega)]
  congr 1
  omega
theorem z_isK {w w' : z_W} (hw : ∀ (k : Nat) (e : z_E), z_g w k = some e → z_g w' k = some e) {v : Value} {C : String} (h : z_is w v C) : z_is w' v C := by
  cases v with
  | ref n =>
    rcases h with ⟨o, q, h1, h2⟩ | ⟨x, ty, h1, h2⟩
    · exact Or.inl ⟨o, q, hw _ _ h1, h2⟩
    · exact Or.inr ⟨x, ty, hw _ _ h1, h2⟩
  | int x => exact h
  | long x => exact h
  | null => exact h
  | retAddr k => exact h
  | double b => exact h
  | float b => exact h
theorem z_inj3 {n : Nat} {a b c a' b' c' : Value} (e : some (Sum.inr (n, [a, b, c]) : z_E) = some (Sum.inr (n, [a', b', c']))) : a = a' ∧ b = b' ∧ c = c' := by cases e; exact ⟨rfl, rfl, rfl⟩
theorem z_cpy0 {n k j : Nat} {f g : Nat → Value} (hj : j < n) (hk : j < k) (h9 : n < 2147483648 ∨ k < 2147483648) : va_cpy f g (Int32.ofInt 0).toNatClampNeg (Int32.ofInt 0).toNatClampNeg (nI (min n k)).toNatClampNeg j = f j := by
  have e0 : (Int32.ofInt 0).toNatClampNeg = 0 := by decide
  unfold va_cpy
  rw [e0, z_cla (by omega), if_pos (by omega), Nat.zero_add, Nat.sub_zero]
theorem z_li.md {w w' : z_W} {ρ a : Nat} {mo mo' : Int32} {L : List Value} {v0 : Value} (h : z_li w ρ a mo L) (hg : z_g w a = some (.inr (4, [.int mo, v0, .int (nI L.length)]))) (u : z_up w a (.inr (4, [.int mo', v0, .int (nI L.length)])) w') : z_li w' ρ a mo' L := by
  obtain ⟨h1, h2, h3, h4⟩ := h
  refine ⟨h1, h2, h3, ?_⟩
  rcases h4 with ⟨m, n, f, a1, a2, a3, a4, a5, a6⟩ | ⟨k, a1, a2, a3⟩
  · have e := (z_inj3 (hg.symm.trans a4)).2.1
    subst e
    exact Or.inl ⟨m, n, f, a1, a2, a3, u.1, (u.2.1 m a3).trans a5, a6⟩
  · subst a1
    have e := (z_inj3 (hg.symm.trans a3)).2.1
    subst e
    exact Or.inr ⟨k, rfl, a2, u.1⟩
theorem z_elK {ρ : Nat} {w : z_W} {L : List Value} {m n a : Nat} {mo : Int32} {f : Nat → Value} (hel : ∀ v ∈ L, z_el ρ w v) (h : z_liA w ρ a mo L m n f) {j : Nat} (hj : j < L.length) : f j = .null ∨ ∃ C, z_is w (f j) C ∧ Cond.castable C "java/lang/Object" ∈ z_nst := by
  obtain ⟨-, -, -, -, -, -, -, h8⟩ := h
  have e := h8 j _ (List.getElem?_eq_getElem hj)
  rw [e]
  exact Or.inr (hel _ (List.getElem_mem hj)).2
theorem z_elM {ρ : Nat} {w w' : z_W} {L : List Value} (hel : ∀ v ∈ L, z_el ρ w v) (hw : z_fw ρ w w') : ∀ v ∈ L, z_el ρ w' v := fun v hv => (hel v hv).m hw.2.2
theorem z_lgx {x : Value} (h : z_ir x = true) {as bs : List Value} : (lg_sl (as ++ x :: bs)).length = (lg_sl as).length + (1 + (lg_sl bs).length) := by
  have e : lg_sl (as ++ x :: bs) = lg_sl as ++ (lg_sl [x] ++ lg_sl bs) := by
    unfold lg_sl
    rw [List.flatMap_append, List.flatMap_cons, List.flatMap_cons, List.flatMap_nil, List.append_nil]
  have e2 : (lg_sl [x]).length = 1 := by
    cases x <;> first | rfl | cases h
  rw [e, List.length_append, List.length_append, e2]
end ZLi2
end ZM8
section ZM9
section ZLs
variable {G : z_G} {l : Launch}
set_option maxRecDepth 100000 in
set_option maxHeartbeats 8000000 in
theorem cl_size (hl : l.stackTraces = false) (w : z_W) (ρ a : Nat) (mo : Int32) (L : List Value) (h : z_li w ρ a mo L) : z_Con G l mJx4a65c_size_8abf5 10 0 0 w [.ref a] (fun v w9 => v = some (.int (nI L.length)) ∧ w9 = w) (fun _ _ => False) := by
  obtain ⟨v0, hv0, ga⟩ := h.cell
  refine z_body hl (by decide) rfl (Nat.le_of_ble_eq_true rfl) ?_
  show z_J G l mJx4a65c_size_8abf5 _ 0 [(0, _)] [] _ 0 0
  refine j_aload_n dJx4a65c_size_8abf5_0 rfl rfl ?_
  refine j_getf dJx4a65c_size_8abf5_1 fJx4a65c_48 ga rfl ?_
  refine j_iret dJx4a65c_size_8abf5_4 rfl rfl ?_ (Nat.le_of_ble_eq_true rfl) (Nat.le_of_ble_eq_true rfl)
  exact ⟨rfl, rfl⟩
set_option maxRecDepth 100000 in
set_option maxHeartbeats 8000000 in
theorem cl_elD (hl : l.stackTraces = false) (w : z_W) (ρ a : Nat) (mo : Int32) (L : List Value) (j : Nat) (v0 : Value) (h : z_li w ρ a mo L) (hj : L[j]? = some v0) : z_Con G l mJx4a65c_elementData_915e3 10 0 0 w [.ref a, .int (nI j)] (fun v w9 => v = some v0 ∧ w9 = w) (fun _ _ => False) := by
  obtain ⟨m, n, f, a1, a2, a3, ga, gm, a6, a7, a8⟩ := h.one hj
  have hjl : j < L.length := (List.getElem?_eq_some_iff.mp hj).1
  refine z_body hl (by decide) rfl (Nat.le_of_ble_eq_true rfl) ?_
  show z_J G l mJx4a65c_elementData_915e3 _ 0 [(0, _), (1, _)] [] _ 0 0
  refine j_aload_n dJx4a65c_elementData_915e3_0 rfl rfl ?_
  refine j_getf dJx4a65c_elementData_915e3_1 fJx4a65c_9 ga rfl ?_
  refine j_iload_n dJx4a65c_elementData_915e3_4 rfl ?_
  refine j_aald dJx4a65c_elementData_915e3_5 gm rfl rfl (vp_in_nI (by omega) (by omega)) (show f (nI j).toNatClampNeg = v0 by rw [z_cla (by omega)]; exact a8 j v0 hj) ?_
  refine j_aret dJx4a65c_elementData_915e3_6 rfl (Or.inl ⟨_, rfl⟩) (h.ir hj) ?_ (Nat.le_of_ble_eq_true rfl) (Nat.le_of_ble_eq_true rfl)
  exact ⟨rfl, rfl⟩
set_option maxRecDepth 100000 in
set_option maxHeartbeats 8000000 in
theorem cl_get (hl : l.stackTraces = false) (w : z_W) (ρ a : Nat) (mo : Int32) (L : List Value) (j : Nat) (v0 : Value) (h : z_li w ρ a mo L) (hj : L[j]? = some v0) : z_Con G l mJx4a65c_get_915e3 13 0 0 w [.ref a, .int (nI j)] (fun v w9 => v = some v0 ∧ w9 = w) (fun _ _ => False) := by
  obtain ⟨m, n, f, a1, a2, a3, ga, gm, a6, a7, a8⟩ := h.one hj
  have hjl : j < L.length := (List.getElem?_eq_some_iff.mp hj).1
  refine z_body hl (by decide) rfl (Nat.le_of_ble_eq_true rfl) ?_
  show z_J G l mJx4a65c_get_915e3 _ 0 [(0, _), (1, _)] [] _ 0 0
  refine j_iload_n dJx4a65c_get_915e3_0 rfl ?_
  refine j_aload_n dJx4a65c_get_915e3_1 rfl rfl ?_
  refine j_getf dJx4a65c_get_915e3_2 fJx4a65c_48 ga rfl ?_
  refine j_callS dJx4a65c_get_915e3_5 kJ15_checkIndex_7cf53 lJx4a65c_118 stJ15_checkIndex_7cf53 (c_J15_checkIndex_7cf53 hl _ _ _ (nI_pos (by omega)) (nI_lt hjl (by omega))) (Nat.le_of_ble_eq_true rfl) ⟨(Nat.le_of_ble_eq_true rfl), (Nat.le_of_ble_eq_true rfl)⟩ rfl (Nat.le_of_ble_eq_true rfl) rfl rfl (fun _ _ h => h.elim) ?_
  rintro _ _ ⟨rfl, hw1⟩
  refine j_w w hw1 ?_
  refine j_pop dJx4a65c_get_915e3_8 rfl ?_
  refine j_aload_n dJx4a65c_get_915e3_9 rfl rfl ?_
  refine j_iload_n dJx4a65c_get_915e3_10 rfl ?_
  refine j_callV (q := (RJx4a65c, TJx4a65c, 3)) dJx4a65c_get_915e3_11 kJx4a65c_elementData_915e3 lJx4a65c_123 inJx4a65c_elementData_915e3 seJx4a65c_elementData_915e3 ga rfl (cl_elD hl w _ _ _ _ _ _ h hj) (Nat.le_of_ble_eq_true rfl) ⟨(Nat.le_of_ble_eq_true rfl), (Nat.le_of_ble_eq_true rfl)⟩ rfl (Nat.le_of_ble_eq_true rfl) rfl rfl (fun _ _ h => h.elim) ?_
  rintro _ _ ⟨rfl, hw2⟩
  refine j_w w hw2 ?_
  refine j_aret dJx4a65c_get_915e3_14 rfl (Or.inl ⟨_, rfl⟩) (h.ir hj) ?_ (Nat.le_of_ble_eq_true rfl) (Nat.le_of_ble_eq_true rfl)
  exact ⟨rfl, rfl⟩
set_option maxRecDepth 100000 in
set_option maxHeartbeats 8000000 in
theorem cl_set (hl : l.stackTraces = false) (w : z_W) (ρ a : Nat) (mo : Int32) (L : List Value) (j : Nat) (v0 x : Value) (h : z_li w ρ a mo L) (hj : L[j]? = some v0) (hx : z_el ρ w x) : z_Con G l mJx4a65c_set_bcc79 13 0 0 w [.ref a, .int (nI j), x] (fun v w9 => v = some v0 ∧ z_fw ρ w w9 ∧ z_li w9 ρ a mo (L.set j x)) (fun _ _ => False) := by
  obtain ⟨m, n, f, a1, a2, a3, ga, gm, a6, a7, a8⟩ := h.one hj
  have hjl : j < L.length := (List.getElem?_eq_some_iff.mp hj).1
  obtain ⟨C, hC1, hC2⟩ := hx.2
  rcases hx.1 with ⟨bx, rfl⟩ | ⟨rx, rfl, hrx⟩
  · have hj0 := hj
    refine z_body hl (by decide) rfl (Nat.le_of_ble_eq_true rfl) ?_
    show z_J G l mJx4a65c_set_bcc79 _ 0 [(0, _), (1, _), (2, _)] [] _ 0 0
    refine j_iload_n dJx4a65c_set_bcc79_0 rfl ?_
    refine j_aload_n dJx4a65c_set_bcc79_1 rfl rfl ?_
    refine j_getf dJx4a65c_set_bcc79_2 fJx4a65c_48 ga rfl ?_
    refine j_callS dJx4a65c_set_bcc79_5 kJ15_checkIndex_7cf53 lJx4a65c_118 stJ15_checkIndex_7cf53 (c_J15_checkIndex_7cf53 hl _ _ _ (nI_pos (by omega)) (nI_lt hjl (by omega))) (Nat.le_of_ble_eq_true rfl) ⟨(Nat.le_of_ble_eq_true rfl), (Nat.le_of_ble_eq_true rfl)⟩ rfl (Nat.le_of_ble_eq_true rfl) rfl rfl (fun _ _ h => h.elim) ?_
    rintro _ _ ⟨rfl, hw3⟩
    refine j_w w hw3 ?_
    refine j_pop dJx4a65c_set_bcc79_8 rfl ?_
    refine j_aload_n dJx4a65c_set_bcc79_9 rfl rfl ?_
    refine j_iload_n dJx4a65c_set_bcc79_10 rfl ?_
    refine j_callV (q := (RJx4a65c, TJx4a65c, 3)) dJx4a65c_set_bcc79_11 kJx4a65c_elementData_915e3 lJx4a65c_123 inJx4a65c_elementData_915e3 seJx4a65c_elementData_915e3 ga rfl (cl_elD hl w _ _ _ _ _ _ h hj) (Nat.le_of_ble_eq_true rfl) ⟨(Nat.le_of_ble_eq_true rfl), (Nat.le_of_ble_eq_true rfl)⟩ rfl (Nat.le_of_ble_eq_true rfl) rfl rfl (fun _ _ h => h.elim) ?_
    rintro _ _ ⟨rfl, hw4⟩
    refine j_w w hw4 ?_
    refine j_astore_n (lo' := [(3, _), (0, _), (1, _), (2, _)]) dJx4a65c_set_bcc79_14 (h.ir hj) (by decide) rfl ?_
    refine j_aload_n dJx4a65c_set_bcc79_15 rfl rfl ?_
    refine j_getf dJx4a65c_set_bcc79_16 fJx4a65c_9 ga rfl ?_
    refine j_iload_n dJx4a65c_set_bcc79_19 rfl ?_
    refine j_aload_n dJx4a65c_set_bcc79_20 rfl hx.ir ?_
    refine j_aastO (w' := _) dJx4a65c_set_bcc79_21 gm rfl hC1 hC2 (vp_in_nI (by omega) (by omega)) rfl ?_
    refine j_seal a1 ?_
    intro w1 u1
    have g1_a := (u1.2.1 _ (Ne.symm a3)).trans ga
    have g1_m := u1.1
    refine j_aload_n dJx4a65c_set_bcc79_22 rfl (h.ir hj) ?_
    refine j_aret dJx4a65c_set_bcc79_23 rfl (Or.inl ⟨_, rfl⟩) (h.ir hj) ?_ (Nat.le_of_ble_eq_true rfl) (Nat.le_of_ble_eq_true rfl)
    exact ⟨rfl, (u1.fw a1 a2), z_li.of h.1 h.2.1 (z_irS h.2.2.1 hx.ir) ⟨a1, a2, a3, by rw [z_lenS]; exact g1_a, g1_m, by rw [z_lenS]; exact a6, a7, z_conS a7 hjl a6 a8⟩⟩
  · have hj0 := hj
    refine z_body hl (by decide) rfl (Nat.le_of_ble_eq_true rfl) ?_
    show z_J G l mJx4a65c_set_bcc79 _ 0 [(0, _), (1, _), (2, _)] [] _ 0 0
    refine j_iload_n dJx4a65c_set_bcc79_0 rfl ?_
    refine j_aload_n dJx4a65c_set_bcc79_1 rfl rfl ?_
    refine j_getf dJx4a65c_set_bcc79_2 fJx4a65c_48 ga rfl ?_
    refine j_callS dJx4a65c_set_bcc79_5 kJ15_checkIndex_7cf53 lJx4a65c_118 stJ15_checkIndex_7cf53 (c_J15_checkIndex_7cf53 hl _ _ _ (nI_pos (by omega)) (nI_lt hjl (by omega))) (Nat.le_of_ble_eq_true rfl) ⟨(Nat.le_of_ble_eq_true rfl), (Nat.le_of_ble_eq_true rfl)⟩ rfl (Nat.le_of_ble_eq_true rfl) rfl rfl (fun _ _ h => h.elim) ?_
    rintro _ _ ⟨rfl, hw5⟩
    refine j_w w hw5 ?_
    refine j_pop dJx4a65c_set_bcc79_8 rfl ?_
    refine j_aload_n dJx4a65c_set_bcc79_9 rfl rfl ?_
    refine j_iload_n dJx4a65c_set_bcc79_10 rfl ?_
    refine j_callV (q := (RJx4a65c, TJx4a65c, 3)) dJx4a65c_set_bcc79_11 kJx4a65c_elementData_915e3 lJx4a65c_123 inJx4a65c_elementData_915e3 seJx4a65c_elementData_915e3 ga rfl (cl_elD hl w _ _ _ _ _ _ h hj) (Nat.le_of_ble_eq_true rfl) ⟨(Nat.le_of_ble_eq_true rfl), (Nat.le_of_ble_eq_true rfl)⟩ rfl (Nat.le_of_ble_eq_true rfl) rfl rfl (fun _ _ h => h.elim) ?_
    rintro _ _ ⟨rfl, hw6⟩
    refine j_w w hw6 ?_
    refine j_astore_n (lo' := [(3, _), (0, _), (1, _), (2, _)]) dJx4a65c_set_bcc79_14 (h.ir hj) (by decide) rfl ?_
    refine j_aload_n dJx4a65c_set_bcc79_15 rfl rfl ?_
    refine j_getf dJx4a65c_set_bcc79_16 fJx4a65c_9 ga rfl ?_
    refine j_iload_n dJx4a65c_set_bcc79_19 rfl ?_
    refine j_aload_n dJx4a65c_set_bcc79_20 rfl hx.ir ?_
    refine j_aastO (w' := _) dJx4a65c_set_bcc79_21 gm rfl hC1 hC2 (vp_in_nI (by omega) (by omega)) rfl ?_
    refine j_seal a1 ?_
    intro w1 u1
    have g1_a := (u1.2.1 _ (Ne.symm a3)).trans ga
    have g1_m := u1.1
    refine j_aload_n dJx4a65c_set_bcc79_22 rfl (h.ir hj) ?_
    refine j_aret dJx4a65c_set_bcc79_23 rfl (Or.inl ⟨_, rfl⟩) (h.ir hj) ?_ (Nat.le_of_ble_eq_true rfl) (Nat.le_of_ble_eq_true rfl)
    exact ⟨rfl, (u1.fw a1 a2), z_li.of h.1 h.2.1 (z_irS h.2.2.1 hx.ir) ⟨a1, a2, a3, by rw [z_lenS]; exact g1_a, g1_m, by rw [z_lenS]; exact a6, a7, z_conS a7 hjl a6 a8⟩⟩
set_option maxRecDepth 100000 in
set_option maxHeartbeats 8000000 in
theorem cl_newL (hl : l.stackTraces = false) (w : z_W) (n : Nat) (hn : n ≤ 1000) : z_Con G l mJ8_newLength_cabcc 11 0 0 w [.int (nI n), .int (Int32.ofInt 1), .int (nI (n / 2))] (fun v w9 => v = some (.int (nI (z_nl n))) ∧ w9 = w) (fun _ _ => False) := by
  have hb := z_nl_le2 hn
  have hp := z_nl_lt n
  refine z_body hl (by decide) rfl (Nat.le_of_ble_eq_true rfl) ?_
  show z_J G l mJ8_newLength_cabcc _ 0 [(0, _), (1, _), (2, _)] [] _ 0 0
  refine j_iload_n dJ8_newLength_cabcc_0 rfl ?_
  refine j_iload_n dJ8_newLength_cabcc_1 rfl ?_
  refine j_iload_n dJ8_newLength_cabcc_2 rfl ?_
  refine j_mmax dJ8_newLength_cabcc_3 lJ8_194 (Nat.le_of_ble_eq_true rfl) (Nat.le_of_ble_eq_true rfl) (Nat.le_of_ble_eq_true rfl) (Nat.le_of_ble_eq_true rfl) ?_
  refine j_top (congrArg Value.int (nI_mx1 (k := n / 2) (by omega))) ?_
  refine j_iadd dJ8_newLength_cabcc_6 ?_
  refine j_top (congrArg Value.int (z_nlI n)) ?_
  refine j_istore_n (lo' := [(3, _), (0, _), (1, _), (2, _)]) dJ8_newLength_cabcc_7 (by decide) rfl ?_
  refine j_iconst (v := 0) dJ8_newLength_cabcc_8 (by decide) ?_
  refine j_iload_n dJ8_newLength_cabcc_9 rfl ?_
  refine j_icmp_ge (tgt := 21) dJ8_newLength_cabcc_10 (by decide) (fun c_10_12 => ?_) (fun c_10_12 => ?_)
  · exact absurd ((nI_leI (a := z_nl n) (b := 0) (by omega) (by omega)).mp (nI_o0 ▸ c_10_12)) (by omega)
  · refine j_iload_n dJ8_newLength_cabcc_13 rfl ?_
    refine j_ldc dJ8_newLength_cabcc_14 kcJ8_200 ?_
    refine j_icmp_gt (tgt := 21) dJ8_newLength_cabcc_16 (by decide) (fun c_16_16 => ?_) (fun c_16_16 => ?_)
    · exact absurd c_16_16 (Int32.not_lt.mpr (Int32.le_trans ((nI_leI (a := z_nl n) (b := 1600) (by omega) (by omega)).mpr hb) (by decide)))
    · refine j_iload_n dJ8_newLength_cabcc_19 rfl ?_
      refine j_iret dJ8_newLength_cabcc_20 rfl rfl ?_ (Nat.le_of_ble_eq_true rfl) (Nat.le_of_ble_eq_true rfl)
      exact ⟨rfl, rfl⟩
set_option maxRecDepth 100000 in
set_option maxHeartbeats 8000000 in
theorem cl_cpA (hl : l.stackTraces = false) (w : z_W) (ρ m n q : Nat) (f : Nat → Value) (hρ : ρ < 64) (hf : z_fn w) (gm : z_g w m = some (.inl (3, n, f))) (hn : n ≤ 1600) (hq : q ≤ 1600) (hel : ∀ j, j < n → j < q → f j = .null ∨ ∃ C, z_is w (f j) C ∧ Cond.castable C "java/lang/Object" ∈ z_nst) : z_Con G l mJ7_copyOf_6403c 12 1 q w [.ref m, .int (nI q), .retAddr 6] (fun v w9 => ∃ (m9 : Nat) (g : Nat → Value), v = some (.ref m9) ∧ z_fw ρ w w9 ∧ 1000 ≤ m9 ∧ m9 % 64 = ρ ∧ (∀ k e, z_g w k = some e → k ≠ m9) ∧ z_g w9 m9 = some (.inl (3, q, g)) ∧ (∀ k e, z_g w k = some e → z_g w9 k = some e) ∧ ∀ j, j < n → j < q → g j = f j) (fun _ _ => False) := by
  refine z_body hl (by decide) rfl (Nat.le_of_ble_eq_true rfl) ?_
  show z_J G l mJ7_copyOf_6403c _ 0 [(0, _), (1, _), (2, _)] [] _ 0 0
  refine j_aload_n dJ7_copyOf_6403c_0 rfl rfl ?_
  refine j_ldcM dJ7_copyOf_6403c_1 cl_110 ?_
  refine j_acmp_neK (tgt := 13) dJ7_copyOf_6403c_3 (by decide) ?_
  refine j_iload_n dJ7_copyOf_6403c_6 rfl ?_
  obtain ⟨x1, hx1a, hx1b, hx1c⟩ := z_fresh ρ hρ hf
  have n_m_x1 := z_neF hx1c gm
  refine j_anew (kd := 3) (N := q) (w' := _) (n := x1) dJ7_copyOf_6403c_7 rfl aJ7_2 ao_Object (nI_pos (by omega)) (z_cla (by omega)) (by omega) (z_alW hx1c hx1a) (Nat.le_of_ble_eq_true rfl) (by show _ ≤ q; omega) ?_
  refine j_seal hx1a ?_
  intro w1 u1
  have g1_m := (u1.2.1 _ n_m_x1).trans gm
  have g1_x1 := u1.1
  have hf1 := u1.2.2.2 hf
  refine j_goto (tgt := 24) dJ7_copyOf_6403c_10 (by decide) ?_
  refine j_astore_n (lo' := [(3, _), (0, _), (1, _), (2, _)]) dJ7_copyOf_6403c_24 rfl (by decide) rfl ?_
  refine j_aload_n dJ7_copyOf_6403c_25 rfl rfl ?_
  refine j_iconst (v := 0) dJ7_copyOf_6403c_26 (by decide) ?_
  refine j_aload_n dJ7_copyOf_6403c_27 rfl rfl ?_
  refine j_iconst (v := 0) dJ7_copyOf_6403c_28 (by decide) ?_
  refine j_aload_n dJ7_copyOf_6403c_29 rfl rfl ?_
  refine j_alen dJ7_copyOf_6403c_30 g1_m rfl rfl ?_
  refine j_iload_n dJ7_copyOf_6403c_31 rfl ?_
  refine j_mmin dJ7_copyOf_6403c_32 lJ7_304 (Nat.le_of_ble_eq_true rfl) (Nat.le_of_ble_eq_true rfl) (Nat.le_of_ble_eq_true rfl) (by show _ ≤ q; omega) ?_
  refine j_top (congrArg Value.int (nI_mn (a := n) (b := q) (by omega) (by omega))) ?_
  refine j_acopy (w' := _) dJ7_copyOf_6403c_35 lJ7_150 ac_n ac_s ac_i g1_m g1_x1 rfl (by decide) (by decide) (nI_pos (by omega)) (by rw [z_cla (by omega)]; show 0 + _ ≤ n; omega) (by rw [z_cla (by omega)]; show 0 + _ ≤ q; omega) (fun i hi => by rw [z_cla (by omega)] at hi; show _ ∨ (f (0 + i) = .null ∧ _) ∨ ∃ C E, _ ∧ z_is _ (f (0 + i)) C ∧ _; rw [Nat.zero_add]; rcases hel i (by omega) (by omega) with h1 | ⟨C, h1, h2⟩; exact Or.inr (Or.inl ⟨h1, rfl⟩); exact Or.inr (Or.inr ⟨C, "java/lang/Object", rfl, z_isK (fun k e hk => (u1.2.1 k (z_neF hx1c hk)).trans hk) h1, h2⟩)) (Nat.le_of_ble_eq_true rfl) (Nat.le_of_ble_eq_true rfl) rfl ?_
  refine j_seal hx1a ?_
  intro w2 u2
  have g2_m := (u2.2.1 _ n_m_x1).trans g1_m
  have g2_x1 := u2.1
  have hf2 := u2.2.2.2 hf1
  refine j_aload_n dJ7_copyOf_6403c_38 rfl rfl ?_
  refine j_aret dJ7_copyOf_6403c_39 rfl (Or.inr ⟨_, rfl⟩) rfl ?_ (Nat.le_of_ble_eq_true rfl) (by show _ ≤ q; omega)
  exact ⟨x1, _, rfl, ((u1.fw hx1a hx1b).tr (u2.fw hx1a hx1b)), hx1a, hx1b, fun k e hk => z_neF hx1c hk, g2_x1, fun k e hk => (u2.2.1 k (z_neF hx1c hk)).trans ((u1.2.1 k (z_neF hx1c hk)).trans hk), fun j h1 h2 => z_cpy0 h1 h2 (Or.inl (by omega))⟩
set_option maxRecDepth 100000 in
set_option maxHeartbeats 8000000 in
theorem cl_cpAK (hl : l.stackTraces = false) (w : z_W) (ρ k q : Nat) (hρ : ρ < 64) (hf : z_fn w) (hk : k < 2) (hq : q ≤ 1600) : z_Con G l mJ7_copyOf_6403c 12 1 q w [.retAddr k, .int (nI q), .retAddr 6] (fun v w9 => ∃ (m9 : Nat) (g : Nat → Value), v = some (.ref m9) ∧ z_fw ρ w w9 ∧ 1000 ≤ m9 ∧ m9 % 64 = ρ ∧ (∀ k e, z_g w k = some e → k ≠ m9) ∧ z_g w9 m9 = some (.inl (3, q, g)) ∧ (∀ k e, z_g w k = some e → z_g w9 k = some e)) (fun _ _ => False) := by
  refine z_body hl (by decide) rfl (Nat.le_of_ble_eq_true rfl) ?_
  show z_J G l mJ7_copyOf_6403c _ 0 [(0, _), (1, _), (2, _)] [] _ 0 0
  refine j_aload_n dJ7_copyOf_6403c_0 rfl rfl ?_
  refine j_ldcM dJ7_copyOf_6403c_1 cl_110 ?_
  refine j_acmp_neK (tgt := 13) dJ7_copyOf_6403c_3 (by decide) ?_
  refine j_iload_n dJ7_copyOf_6403c_6 rfl ?_
  obtain ⟨x1, hx1a, hx1b, hx1c⟩ := z_fresh ρ hρ hf
  refine j_anew (kd := 3) (N := q) (w' := _) (n := x1) dJ7_copyOf_6403c_7 rfl aJ7_2 ao_Object (nI_pos (by omega)) (z_cla (by omega)) (by omega) (z_alW hx1c hx1a) (Nat.le_of_ble_eq_true rfl) (by show _ ≤ q; omega) ?_
  refine j_seal hx1a ?_
  intro w1 u1
  have g1_x1 := u1.1
  have hf1 := u1.2.2.2 hf
  refine j_goto (tgt := 24) dJ7_copyOf_6403c_10 (by decide) ?_
  refine j_astore_n (lo' := [(3, _), (0, _), (1, _), (2, _)]) dJ7_copyOf_6403c_24 rfl (by decide) rfl ?_
  refine j_aload_n dJ7_copyOf_6403c_25 rfl rfl ?_
  refine j_iconst (v := 0) dJ7_copyOf_6403c_26 (by decide) ?_
  refine j_aload_n dJ7_copyOf_6403c_27 rfl rfl ?_
  refine j_iconst (v := 0) dJ7_copyOf_6403c_28 (by decide) ?_
  refine j_aload_n dJ7_copyOf_6403c_29 rfl rfl ?_
  refine j_alenK (k := k) (N := 0) dJ7_copyOf_6403c_30 (fun U q h hkq => h.2.2.2.1 k q hk hkq) ?_
  refine j_iload_n dJ7_copyOf_6403c_31 rfl ?_
  refine j_mmin dJ7_copyOf_6403c_32 lJ7_304 (Nat.le_of_ble_eq_true rfl) (Nat.le_of_ble_eq_true rfl) (Nat.le_of_ble_eq_true rfl) (by show _ ≤ q; omega) ?_
  refine j_top (congrArg Value.int (nI_mn (a := 0) (b := q) (by omega) (by omega))) ?_
  refine j_acopyK (k := k) (n0 := 0) (kd := 3) (ty := .object "java/lang/Object") dJ7_copyOf_6403c_35 lJ7_150 ac_n ac_s ac_i (fun U q9 h hkq => by obtain ⟨f9, hf9⟩ := h.2.2.2.1 k q9 hk hkq; exact ⟨f9, hf9, fun j hj => absurd hj (Nat.not_lt_zero _)⟩) g1_x1 rfl (by decide) (by decide) (nI_pos (by omega)) (by rw [z_cla (by omega)]; show 0 + _ ≤ 0; omega) (by rw [z_cla (by omega)]; show 0 + _ ≤ q; omega) (Nat.le_of_ble_eq_true rfl) (Nat.le_of_ble_eq_true rfl) ?_
  intro f9 _
  refine j_seal hx1a ?_
  intro w2 u2
  have g2_x1 := u2.1
  have hf2 := u2.2.2.2 hf1
  refine j_aload_n dJ7_copyOf_6403c_38 rfl rfl ?_
  refine j_aret dJ7_copyOf_6403c_39 rfl (Or.inr ⟨_, rfl⟩) rfl ?_ (Nat.le_of_ble_eq_true rfl) (by show _ ≤ q; omega)
  exact ⟨x1, _, rfl, ((u1.fw hx1a hx1b).tr (u2.fw hx1a hx1b)), hx1a, hx1b, fun k e hk => z_neF hx1c hk, g2_x1, fun k e hk => (u2.2.1 k (z_neF hx1c hk)).trans ((u1.2.1 k (z_neF hx1c hk)).trans hk)⟩
set_option maxRecDepth 100000 in
set_option maxHeartbeats 8000000 in
theorem cl_cpB (hl : l.stackTraces = false) (w : z_W) (ρ m n q : Nat) (f : Nat → Value) (hρ : ρ < 64) (hf : z_fn w) (gm : z_g w m = some (.inl (3, n, f))) (hn : n ≤ 1600) (hq : q ≤ 1600) (hel : ∀ j, j < n → j < q → f j = .null ∨ ∃ C, z_is w (f j) C ∧ Cond.castable C "java/lang/Object" ∈ z_nst) : z_Con G l mJ7_copyOf_1904c 13 1 q w [.ref m, .int (nI q)] (fun v w9 => ∃ (m9 : Nat) (g : Nat → Value), v = some (.ref m9) ∧ z_fw ρ w w9 ∧ 1000 ≤ m9 ∧ m9 % 64 = ρ ∧ (∀ k e, z_g w k = some e → k ≠ m9) ∧ z_g w9 m9 = some (.inl (3, q, g)) ∧ (∀ k e, z_g w k = some e → z_g w9 k = some e) ∧ ∀ j, j < n → j < q → g j = f j) (fun _ _ => False) := by
  refine z_body hl (by decide) rfl (Nat.le_of_ble_eq_true rfl) ?_
  show z_J G l mJ7_copyOf_1904c _ 0 [(0, _), (1, _)] [] _ 0 0
  refine j_aload_n dJ7_copyOf_1904c_0 rfl rfl ?_
  refine j_iload_n dJ7_copyOf_1904c_1 rfl ?_
  refine j_aload_n dJ7_copyOf_1904c_2 rfl rfl ?_
  refine j_getC dJ7_copyOf_1904c_3 lJ7_86 gc_d gc_s gc_i gc_n gm (Nat.le_of_ble_eq_true rfl) (Nat.le_of_ble_eq_true rfl) ?_
  refine j_callS dJ7_copyOf_1904c_6 kJ7_copyOf_6403c lJ7_300 stJ7_copyOf_6403c (cl_cpA hl w ρ m n q f hρ hf gm hn hq hel) (Nat.le_of_ble_eq_true rfl) ⟨(Nat.le_of_ble_eq_true rfl), (by show _ ≤ q; omega)⟩ rfl (Nat.le_of_ble_eq_true rfl) rfl rfl (fun _ _ h => h.elim) ?_
  rintro _ w1 ⟨m9, g9, rfl, fw1, c1, c2, c3, c4, c5, c6⟩
  have hf1 := fw1.2.1 hf
  refine j_aret dJ7_copyOf_1904c_9 rfl (Or.inr ⟨_, rfl⟩) rfl ?_ (Nat.le_of_ble_eq_true rfl) (by show _ ≤ q; omega)
  exact ⟨m9, g9, rfl, fw1, c1, c2, c3, c4, c5, c6⟩
set_option maxRecDepth 100000 in
set_option maxHeartbeats 8000000 in
theorem cl_cpBK (hl : l.stackTraces = false) (w : z_W) (ρ k q : Nat) (hρ : ρ < 64) (hf : z_fn w) (hk : k < 2) (hq : q ≤ 1600) : z_Con G l mJ7_copyOf_1904c 13 1 q w [.retAddr k, .int (nI q)] (fun v w9 => ∃ (m9 : Nat) (g : Nat → Value), v = some (.ref m9) ∧ z_fw ρ w w9 ∧ 1000 ≤ m9 ∧ m9 % 64 = ρ ∧ (∀ k e, z_g w k = some e → k ≠ m9) ∧ z_g w9 m9 = some (.inl (3, q, g)) ∧ (∀ k e, z_g w k = some e → z_g w9 k = some e)) (fun _ _ => False) := by
  refine z_body hl (by decide) rfl (Nat.le_of_ble_eq_true rfl) ?_
  show z_J G l mJ7_copyOf_1904c _ 0 [(0, _), (1, _)] [] _ 0 0
  refine j_aload_n dJ7_copyOf_1904c_0 rfl rfl ?_
  refine j_iload_n dJ7_copyOf_1904c_1 rfl ?_
  refine j_aload_n dJ7_copyOf_1904c_2 rfl rfl ?_
  refine j_getCK dJ7_copyOf_1904c_3 lJ7_86 gc_d gc_s gc_i gc_n hk (Nat.le_of_ble_eq_true rfl) (Nat.le_of_ble_eq_true rfl) ?_
  refine j_callS dJ7_copyOf_1904c_6 kJ7_copyOf_6403c lJ7_300 stJ7_copyOf_6403c (cl_cpAK hl w ρ k q hρ hf hk hq) (Nat.le_of_ble_eq_true rfl) ⟨(Nat.le_of_ble_eq_true rfl), (by show _ ≤ q; omega)⟩ rfl (Nat.le_of_ble_eq_true rfl) rfl rfl (fun _ _ h => h.elim) ?_
  rintro _ w1 ⟨m9, g9, rfl, fw1, c1, c2, c3, c4, c5⟩
  have hf1 := fw1.2.1 hf
  refine j_aret dJ7_copyOf_1904c_9 rfl (Or.inr ⟨_, rfl⟩) rfl ?_ (Nat.le_of_ble_eq_true rfl) (by show _ ≤ q; omega)
  exact ⟨m9, g9, rfl, fw1, c1, c2, c3, c4, c5⟩
set_option maxRecDepth 100000 in
set_option maxHeartbeats 8000000 in
theorem cl_growI (hl : l.stackTraces = false) (w : z_W) (ρ a : Nat) (mo : Int32) (L : List Value) (M : Nat) (h : z_li w ρ a mo L) (hρ : ρ < 64) (hf : z_fn w) (hM : L.length ≤ M) (hM2 : M ≤ 1000) (hel : ∀ v ∈ L, z_el ρ w v) (hfull : ∀ m n f, z_liA w ρ a mo L m n f → n = L.length) : z_Con G l mJx4a65c_grow_92f84 14 1 (2 * M + 10) w [.ref a, .int (nI (L.length + 1))] (fun v w9 => ∃ (m9 n9 : Nat) (g : Nat → Value), v = some (.ref m9) ∧ z_fw ρ w w9 ∧ z_liA w9 ρ a mo L m9 n9 g ∧ L.length < n9) (fun _ _ => False) := by
  rcases h.2.2.2 with ⟨m, n, f, hA⟩ | ⟨k, hL, hk, ga⟩
  · obtain ⟨a1, a2, a3, ga, gm, a6, a7, a8⟩ := id hA
    have hn : n = L.length := hfull m n f hA
    have hnl := z_nl_le (n := n) (M := M) (by omega)
    refine z_body hl (by decide) rfl (Nat.le_of_ble_eq_true rfl) ?_
    show z_J G l mJx4a65c_grow_92f84 _ 0 [(0, _), (1, _)] [] _ 0 0
    refine j_aload_n dJx4a65c_grow_92f84_0 rfl rfl ?_
    refine j_getf dJx4a65c_grow_92f84_1 fJx4a65c_9 ga rfl ?_
    refine j_alen dJx4a65c_grow_92f84_4 gm rfl rfl ?_
    refine j_istore_n (lo' := [(2, _), (0, _), (1, _)]) dJx4a65c_grow_92f84_5 (by decide) rfl ?_
    refine j_iload_n dJx4a65c_grow_92f84_6 rfl ?_
    refine j_if_gt (tgt := 20) dJx4a65c_grow_92f84_7 (by decide) (fun c_7_7 => ?_) (fun c_7_7 => ?_)
    · refine j_iload_n dJx4a65c_grow_92f84_20 rfl ?_
      refine j_iload_n dJx4a65c_grow_92f84_21 rfl ?_
      refine j_iload_n dJx4a65c_grow_92f84_22 rfl ?_
      refine j_isub dJx4a65c_grow_92f84_23 ?_
      refine j_top (congrArg Value.int (show nI (L.length + 1) - nI n = Int32.ofInt 1 by rw [hn]; exact nI_sub1 _)) ?_
      refine j_iload_n dJx4a65c_grow_92f84_24 rfl ?_
      refine j_iconst (v := 1) dJx4a65c_grow_92f84_25 (by decide) ?_
      refine j_ishr dJx4a65c_grow_92f84_26 ?_
      refine j_top (congrArg Value.int (nI_shr (n := n) (by omega))) ?_
      refine j_callS dJx4a65c_grow_92f84_27 kJ8_newLength_cabcc lJx4a65c_73 stJ8_newLength_cabcc (cl_newL hl w n (by omega)) (Nat.le_of_ble_eq_true rfl) ⟨(Nat.le_of_ble_eq_true rfl), (Nat.le_of_ble_eq_true rfl)⟩ rfl (Nat.le_of_ble_eq_true rfl) rfl rfl (fun _ _ h => h.elim) ?_
      rintro _ _ ⟨rfl, hw7⟩
      refine j_w w hw7 ?_
      refine j_istore_n (lo' := [(3, _), (2, _), (0, _), (1, _)]) dJx4a65c_grow_92f84_30 (by decide) rfl ?_
      refine j_aload_n dJx4a65c_grow_92f84_31 rfl rfl ?_
      refine j_aload_n dJx4a65c_grow_92f84_32 rfl rfl ?_
      refine j_getf dJx4a65c_grow_92f84_33 fJx4a65c_9 ga rfl ?_
      refine j_iload_n dJx4a65c_grow_92f84_36 rfl ?_
      refine j_callS dJx4a65c_grow_92f84_37 kJ7_copyOf_1904c lJx4a65c_66 stJ7_copyOf_1904c (cl_cpB hl w ρ m n (z_nl n) f hρ hf gm (by omega) (z_nl_le2 (by omega)) (fun j hj _ => z_elK hel hA (by omega))) (Nat.le_of_ble_eq_true rfl) ⟨(Nat.le_of_ble_eq_true rfl), (by show _ ≤ 2 * M + 10; omega)⟩ rfl (Nat.le_of_ble_eq_true rfl) rfl rfl (fun _ _ h => h.elim) ?_
      rintro _ w1 ⟨m9, g9, rfl, fw1, c1, c2, c3, c4, c5, c6⟩
      have hf1 := fw1.2.1 hf
      have g1_a := c5 a _ ga
      refine j_dup_x1 dJx4a65c_grow_92f84_40 rfl rfl ?_
      refine j_put (w' := _) dJx4a65c_grow_92f84_41 fJx4a65c_9 tJx4a65c_1 g1_a (Or.inr ⟨_, rfl⟩) rfl ?_
      refine j_seal h.1 ?_
      intro w2 u2
      have g2_m2 := (u2.2.1 _ (Ne.symm (c3 a _ ga))).trans c4
      have g2_a := u2.1
      have hf2 := u2.2.2.2 hf1
      refine j_aret dJx4a65c_grow_92f84_44 rfl (Or.inr ⟨_, rfl⟩) rfl ?_ (Nat.le_of_ble_eq_true rfl) (by show _ ≤ 2 * M + 10; omega)
      exact ⟨m9, _, g9, rfl, (fw1.tr (u2.fw h.1 h.2.1)), ⟨c1, c2, Ne.symm (c3 a _ ga), g2_a, g2_m2, Nat.le_of_lt (Nat.lt_of_le_of_lt a6 (z_nl_lt n)), z_nl_le2 (by omega), fun q v hq => by have hq2 := (List.getElem?_eq_some_iff.mp hq).1; rw [c6 q (by omega) (by have := z_nl_lt n; omega)]; exact a8 q v hq⟩, Nat.lt_of_le_of_lt a6 (z_nl_lt n)⟩
    · refine j_aload_n dJx4a65c_grow_92f84_10 rfl rfl ?_
      refine j_getf dJx4a65c_grow_92f84_11 fJx4a65c_9 ga rfl ?_
      refine j_gets dJx4a65c_grow_92f84_14 (List.mem_of_getElem? (i := 2) rfl) rfl (z_w 1353 ((lwg_6 108).trans rfl) (by decide +kernel)) ?_
      refine j_acmp_eqR (tgt := 45) dJx4a65c_grow_92f84_17 (by decide) ?_
      refine j_iload_n dJx4a65c_grow_92f84_20 rfl ?_
      refine j_iload_n dJx4a65c_grow_92f84_21 rfl ?_
      refine j_iload_n dJx4a65c_grow_92f84_22 rfl ?_
      refine j_isub dJx4a65c_grow_92f84_23 ?_
      refine j_top (congrArg Value.int (show nI (L.length + 1) - nI n = Int32.ofInt 1 by rw [hn]; exact nI_sub1 _)) ?_
      refine j_iload_n dJx4a65c_grow_92f84_24 rfl ?_
      refine j_iconst (v := 1) dJx4a65c_grow_92f84_25 (by decide) ?_
      refine j_ishr dJx4a65c_grow_92f84_26 ?_
      refine j_top (congrArg Value.int (nI_shr (n := n) (by omega))) ?_
      refine j_callS dJx4a65c_grow_92f84_27 kJ8_newLength_cabcc lJx4a65c_73 stJ8_newLength_cabcc (cl_newL hl w n (by omega)) (Nat.le_of_ble_eq_true rfl) ⟨(Nat.le_of_ble_eq_true rfl), (Nat.le_of_ble_eq_true rfl)⟩ rfl (Nat.le_of_ble_eq_true rfl) rfl rfl (fun _ _ h => h.elim) ?_
      rintro _ _ ⟨rfl, hw8⟩
      refine j_w w hw8 ?_
      refine j_istore_n (lo' := [(3, _), (2, _), (0, _), (1, _)]) dJx4a65c_grow_92f84_30 (by decide) rfl ?_
      refine j_aload_n dJx4a65c_grow_92f84_31 rfl rfl ?_
      refine j_aload_n dJx4a65c_grow_92f84_32 rfl rfl ?_
      refine j_getf dJx4a65c_grow_92f84_33 fJx4a65c_9 ga rfl ?_
      refine j_iload_n dJx4a65c_grow_92f84_36 rfl ?_
      refine j_callS dJx4a65c_grow_92f84_37 kJ7_copyOf_1904c lJx4a65c_66 stJ7_copyOf_1904c (cl_cpB hl w ρ m n (z_nl n) f hρ hf gm (by omega) (z_nl_le2 (by omega)) (fun j hj _ => z_elK hel hA (by omega))) (Nat.le_of_ble_eq_true rfl) ⟨(Nat.le_of_ble_eq_true rfl), (by show _ ≤ 2 * M + 10; omega)⟩ rfl (Nat.le_of_ble_eq_true rfl) rfl rfl (fun _ _ h => h.elim) ?_
      rintro _ w3 ⟨m9, g9, rfl, fw3, c1, c2, c3, c4, c5, c6⟩
      have hf3 := fw3.2.1 hf
      have g3_a := c5 a _ ga
      refine j_dup_x1 dJx4a65c_grow_92f84_40 rfl rfl ?_
      refine j_put (w' := _) dJx4a65c_grow_92f84_41 fJx4a65c_9 tJx4a65c_1 g3_a (Or.inr ⟨_, rfl⟩) rfl ?_
      refine j_seal h.1 ?_
      intro w4 u4
      have g4_m2 := (u4.2.1 _ (Ne.symm (c3 a _ ga))).trans c4
      have g4_a := u4.1
      have hf4 := u4.2.2.2 hf3
      refine j_aret dJx4a65c_grow_92f84_44 rfl (Or.inr ⟨_, rfl⟩) rfl ?_ (Nat.le_of_ble_eq_true rfl) (by show _ ≤ 2 * M + 10; omega)
      exact ⟨m9, _, g9, rfl, (fw3.tr (u4.fw h.1 h.2.1)), ⟨c1, c2, Ne.symm (c3 a _ ga), g4_a, g4_m2, Nat.le_of_lt (Nat.lt_of_le_of_lt a6 (z_nl_lt n)), z_nl_le2 (by omega), fun q v hq => by have hq2 := (List.getElem?_eq_some_iff.mp hq).1; rw [c6 q (by omega) (by have := z_nl_lt n; omega)]; exact a8 q v hq⟩, Nat.lt_of_le_of_lt a6 (z_nl_lt n)⟩
  · subst hL
    have hnl : z_nl 0 ≤ 2 * M + 10 := z_nl_le (Nat.zero_le _)
    refine z_body hl (by decide) rfl (Nat.le_of_ble_eq_true rfl) ?_
    show z_J G l mJx4a65c_grow_92f84 _ 0 [(0, _), (1, _)] [] _ 0 0
    refine j_aload_n dJx4a65c_grow_92f84_0 rfl rfl ?_
    refine j_getf dJx4a65c_grow_92f84_1 fJx4a65c_9 ga rfl ?_
    refine j_alenK (k := k) (N := 0) dJx4a65c_grow_92f84_4 (fun U q h hkq => h.2.2.2.1 k q hk hkq) ?_
    refine j_istore_n (lo' := [(2, _), (0, _), (1, _)]) dJx4a65c_grow_92f84_5 (by decide) rfl ?_
    refine j_iload_n dJx4a65c_grow_92f84_6 rfl ?_
    refine j_if_gt (tgt := 20) dJx4a65c_grow_92f84_7 (by decide) (fun c_7_7 => ?_) (fun c_7_7 => ?_)
    · exact absurd c_7_7 (by decide)
    · refine j_aload_n dJx4a65c_grow_92f84_10 rfl rfl ?_
      refine j_getf dJx4a65c_grow_92f84_11 fJx4a65c_9 ga rfl ?_
      refine j_gets dJx4a65c_grow_92f84_14 (List.mem_of_getElem? (i := 2) rfl) rfl (z_w 1353 ((lwg_6 108).trans rfl) (by decide +kernel)) ?_
      refine j_acmp_eqKK (tgt := 45) dJx4a65c_grow_92f84_17 (by decide) ?_ ?_
      · refine j_aload_n dJx4a65c_grow_92f84_45 rfl rfl ?_
        refine j_bipush (v := 10) dJx4a65c_grow_92f84_46 (by decide) ?_
        refine j_iload_n dJx4a65c_grow_92f84_48 rfl ?_
        refine j_mmax dJx4a65c_grow_92f84_49 lJx4a65c_79 (Nat.le_of_ble_eq_true rfl) (Nat.le_of_ble_eq_true rfl) (Nat.le_of_ble_eq_true rfl) (by show _ ≤ 2 * M + 10; omega) ?_
        refine j_top (congrArg Value.int (show _ = nI 10 by decide)) ?_
        obtain ⟨x1, hx1a, hx1b, hx1c⟩ := z_fresh ρ hρ hf
        have n_a_x1 := z_neF hx1c ga
        refine j_anew (kd := 3) (N := 10) (w' := _) (n := x1) dJx4a65c_grow_92f84_52 rfl aJx4a65c_7 ao_Object (nI_pos (by omega)) (z_cla (by omega)) (by omega) (z_alW hx1c hx1a) (Nat.le_of_ble_eq_true rfl) (by show _ ≤ 2 * M + 10; omega) ?_
        refine j_seal hx1a ?_
        intro w1 u1
        have g1_a := (u1.2.1 _ n_a_x1).trans ga
        have g1_x1 := u1.1
        have hf1 := u1.2.2.2 hf
        refine j_dup_x1 dJx4a65c_grow_92f84_55 rfl rfl ?_
        refine j_put (w' := _) dJx4a65c_grow_92f84_56 fJx4a65c_9 tJx4a65c_1 g1_a (Or.inr ⟨_, rfl⟩) rfl ?_
        refine j_seal h.1 ?_
        intro w2 u2
        have g2_x1 := (u2.2.1 _ (Ne.symm n_a_x1)).trans g1_x1
        have g2_a := u2.1
        have hf2 := u2.2.2.2 hf1
        refine j_aret dJx4a65c_grow_92f84_59 rfl (Or.inr ⟨_, rfl⟩) rfl ?_ (Nat.le_of_ble_eq_true rfl) (by show _ ≤ 2 * M + 10; omega)
        exact ⟨x1, 10, _, rfl, ((u1.fw hx1a hx1b).tr (u2.fw h.1 h.2.1)), ⟨hx1a, hx1b, Ne.symm n_a_x1, g2_a, g2_x1, Nat.zero_le _, by omega, fun q v hq => by simp at hq⟩, by decide⟩
      · refine j_iload_n dJx4a65c_grow_92f84_20 rfl ?_
        refine j_iload_n dJx4a65c_grow_92f84_21 rfl ?_
        refine j_iload_n dJx4a65c_grow_92f84_22 rfl ?_
        refine j_isub dJx4a65c_grow_92f84_23 ?_
        refine j_top (congrArg Value.int (show nI (0 + 1) - nI 0 = Int32.ofInt 1 by exact nI_sub1 0)) ?_
        refine j_iload_n dJx4a65c_grow_92f84_24 rfl ?_
        refine j_iconst (v := 1) dJx4a65c_grow_92f84_25 (by decide) ?_
        refine j_ishr dJx4a65c_grow_92f84_26 ?_
        refine j_top (congrArg Value.int (nI_shr (n := 0) (by omega))) ?_
        refine j_callS dJx4a65c_grow_92f84_27 kJ8_newLength_cabcc lJx4a65c_73 stJ8_newLength_cabcc (cl_newL hl w 0 (by omega)) (Nat.le_of_ble_eq_true rfl) ⟨(Nat.le_of_ble_eq_true rfl), (Nat.le_of_ble_eq_true rfl)⟩ rfl (Nat.le_of_ble_eq_true rfl) rfl rfl (fun _ _ h => h.elim) ?_
        rintro _ _ ⟨rfl, hw9⟩
        refine j_w w hw9 ?_
        refine j_istore_n (lo' := [(3, _), (2, _), (0, _), (1, _)]) dJx4a65c_grow_92f84_30 (by decide) rfl ?_
        refine j_aload_n dJx4a65c_grow_92f84_31 rfl rfl ?_
        refine j_aload_n dJx4a65c_grow_92f84_32 rfl rfl ?_
        refine j_getf dJx4a65c_grow_92f84_33 fJx4a65c_9 ga rfl ?_
        refine j_iload_n dJx4a65c_grow_92f84_36 rfl ?_
        refine j_callS dJx4a65c_grow_92f84_37 kJ7_copyOf_1904c lJx4a65c_66 stJ7_copyOf_1904c (cl_cpBK hl w ρ k (z_nl 0) hρ hf hk (by decide)) (Nat.le_of_ble_eq_true rfl) ⟨(Nat.le_of_ble_eq_true rfl), (by show _ ≤ 2 * M + 10; omega)⟩ rfl (Nat.le_of_ble_eq_true rfl) rfl rfl (fun _ _ h => h.elim) ?_
        rintro _ w3 ⟨m9, g9, rfl, fw3, c1, c2, c3, c4, c5⟩
        have hf3 := fw3.2.1 hf
        have g3_a := c5 a _ ga
        refine j_dup_x1 dJx4a65c_grow_92f84_40 rfl rfl ?_
        refine j_put (w' := _) dJx4a65c_grow_92f84_41 fJx4a65c_9 tJx4a65c_1 g3_a (Or.inr ⟨_, rfl⟩) rfl ?_
        refine j_seal h.1 ?_
        intro w4 u4
        have g4_m2 := (u4.2.1 _ (Ne.symm (c3 a _ ga))).trans c4
        have g4_a := u4.1
        have hf4 := u4.2.2.2 hf3
        refine j_aret dJx4a65c_grow_92f84_44 rfl (Or.inr ⟨_, rfl⟩) rfl ?_ (Nat.le_of_ble_eq_true rfl) (by show _ ≤ 2 * M + 10; omega)
        exact ⟨m9, _, g9, rfl, (fw3.tr (u4.fw h.1 h.2.1)), ⟨c1, c2, Ne.symm (c3 a _ ga), g4_a, g4_m2, Nat.zero_le _, z_nl_le2 (by omega), fun q v hq => by simp at hq⟩, Nat.lt_of_le_of_lt (Nat.zero_le _) (z_nl_lt 0)⟩
set_option maxRecDepth 100000 in
set_option maxHeartbeats 8000000 in
theorem cl_grow (hl : l.stackTraces = false) (w : z_W) (ρ a : Nat) (mo : Int32) (L : List Value) (M : Nat) (h : z_li w ρ a mo L) (hρ : ρ < 64) (hf : z_fn w) (hM : L.length ≤ M) (hM2 : M ≤ 1000) (hel : ∀ v ∈ L, z_el ρ w v) (hfull : ∀ m n f, z_liA w ρ a mo L m n f → n = L.length) : z_Con G l mJx4a65c_grow_d5877 15 1 (2 * M + 10) w [.ref a] (fun v w9 => ∃ (m9 n9 : Nat) (g : Nat → Value), v = some (.ref m9) ∧ z_fw ρ w w9 ∧ z_liA w9 ρ a mo L m9 n9 g ∧ L.length < n9) (fun _ _ => False) := by
  obtain ⟨v0, hv0, ga⟩ := h.cell
  refine z_body hl (by decide) rfl (Nat.le_of_ble_eq_true rfl) ?_
  show z_J G l mJx4a65c_grow_d5877 _ 0 [(0, _)] [] _ 0 0
  refine j_aload_n dJx4a65c_grow_d5877_0 rfl rfl ?_
  refine j_aload_n dJx4a65c_grow_d5877_1 rfl rfl ?_
  refine j_getf dJx4a65c_grow_d5877_2 fJx4a65c_48 ga rfl ?_
  refine j_iconst (v := 1) dJx4a65c_grow_d5877_5 (by decide) ?_
  refine j_iadd dJx4a65c_grow_d5877_6 ?_
  refine j_top (congrArg Value.int (nI_1 L.length)) ?_
  refine j_callV (q := (RJx4a65c, TJx4a65c, 3)) dJx4a65c_grow_d5877_7 kJx4a65c_grow_92f84 lJx4a65c_69 inJx4a65c_grow_92f84 seJx4a65c_grow_92f84 ga rfl (cl_growI hl w ρ a mo L M h hρ hf hM hM2 hel hfull) (Nat.le_of_ble_eq_true rfl) ⟨(Nat.le_of_ble_eq_true rfl), (by show _ ≤ 2 * M + 10; omega)⟩ rfl (Nat.le_of_ble_eq_true rfl) rfl rfl (fun _ _ h => h.elim) ?_
  rintro _ w1 ⟨m9, n9, g9, rfl, fw1, hA9, hl9⟩
  refine j_aret dJx4a65c_grow_d5877_10 rfl (Or.inr ⟨_, rfl⟩) rfl ?_ (Nat.le_of_ble_eq_true rfl) (by show _ ≤ 2 * M + 10; omega)
  exact ⟨m9, n9, g9, rfl, fw1, hA9, hl9⟩
set_option maxRecDepth 100000 in
set_option maxHeartbeats 8000000 in
theorem cl_addA (hl : l.stackTraces = false) (w : z_W) (ρ a : Nat) (mo : Int32) (L : List Value) (M : Nat) (x v0 : Value) (h : z_li w ρ a mo L) (hρ : ρ < 64) (hf : z_fn w) (hM : L.length ≤ M) (hM2 : M ≤ 1000) (hel : ∀ v ∈ L, z_el ρ w v) (hx : z_el ρ w x) (hg : z_g w a = some (.inr (4, [.int mo, v0, .int (nI L.length)]))) (hv0 : z_ir v0 = true) : z_Con G l mJx4a65c_add_72be8 16 1 (2 * M + 10) w [.ref a, x, v0, .int (nI L.length)] (fun v w9 => v = none ∧ z_fw ρ w w9 ∧ z_li w9 ρ a mo (L ++ [x])) (fun _ _ => False) := by
  obtain ⟨C, hC1, hC2⟩ := hx.2
  rcases hx.1 with ⟨bx, rfl⟩ | ⟨rx, rfl, hrx⟩ <;> rcases h.2.2.2 with ⟨m, n, f, hA⟩ | ⟨k, hL, hk, ga⟩
  · obtain ⟨a1, a2, a3, ga, gm, a6, a7, a8⟩ := id hA
    have e9 := (z_inj3 (hg.symm.trans ga)).2.1
    subst e9
    refine z_body hl (by decide) rfl (Nat.le_of_ble_eq_true rfl) ?_
    show z_J G l mJx4a65c_add_72be8 _ 0 [(0, _), (1, _), (2, _), (3, _)] [] _ 0 0
    refine j_iload_n dJx4a65c_add_72be8_0 rfl ?_
    refine j_aload_n dJx4a65c_add_72be8_1 rfl rfl ?_
    refine j_alen dJx4a65c_add_72be8_2 gm rfl rfl ?_
    refine j_icmp_ne (tgt := 11) dJx4a65c_add_72be8_3 (by decide) (fun c_3_5 => ?_) (fun c_3_5 => ?_)
    · have hlt : L.length < n := by rcases Nat.lt_or_eq_of_le a6 with h1 | h1; exact h1; exact absurd (congrArg nI h1) c_3_5
      refine j_aload_n dJx4a65c_add_72be8_11 rfl rfl ?_
      refine j_iload_n dJx4a65c_add_72be8_12 rfl ?_
      refine j_aload_n dJx4a65c_add_72be8_13 rfl hx.ir ?_
      refine j_aastO (w' := _) dJx4a65c_add_72be8_14 gm rfl hC1 hC2 (vp_in_nI (by omega) (by omega)) rfl ?_
      refine j_seal a1 ?_
      intro w1 u1
      have g1_a := (u1.2.1 _ (Ne.symm a3)).trans ga
      have g1_m := u1.1
      have hf1 := u1.2.2.2 hf
      refine j_aload_n dJx4a65c_add_72be8_15 rfl rfl ?_
      refine j_iload_n dJx4a65c_add_72be8_16 rfl ?_
      refine j_iconst (v := 1) dJx4a65c_add_72be8_17 (by decide) ?_
      refine j_iadd dJx4a65c_add_72be8_18 ?_
      refine j_top (congrArg Value.int (nI_1 L.length)) ?_
      refine j_put (w' := _) dJx4a65c_add_72be8_19 fJx4a65c_48 tJx4a65c_2 g1_a ⟨rfl, rfl⟩ rfl ?_
      refine j_seal h.1 ?_
      intro w2 u2
      have g2_m := (u2.2.1 _ a3).trans g1_m
      have g2_a := u2.1
      have hf2 := u2.2.2.2 hf1
      refine j_vret dJx4a65c_add_72be8_22 rfl ?_ (Nat.le_of_ble_eq_true rfl) (by show _ ≤ 2 * M + 10; omega)
      exact ⟨rfl, ((u1.fw a1 a2).tr (u2.fw h.1 h.2.1)), z_li.of h.1 h.2.1 (z_irA h.2.2.1 hx.ir) ⟨a1, a2, a3, by rw [z_lenA]; exact g2_a, g2_m, by rw [z_lenA]; omega, a7, z_conA a7 (by omega) a8⟩⟩
    · have hfl : L.length = n := nI_inj c_3_5 (by omega) (by omega)
      refine j_aload_n dJx4a65c_add_72be8_6 rfl rfl ?_
      refine j_callV (q := (RJx4a65c, TJx4a65c, 3)) dJx4a65c_add_72be8_7 kJx4a65c_grow_d5877 lJx4a65c_129 inJx4a65c_grow_d5877 seJx4a65c_grow_d5877 ga rfl (cl_grow hl w ρ a mo _ M h hρ hf hM hM2 hel (fun m2 n2 f2 h2 => by obtain ⟨-, -, -, h4, h5, -⟩ := h2; have e := (z_inj3 (h4.symm.trans ga)).2.1; cases e; have e5 := h5.symm.trans gm; cases e5; omega)) (Nat.le_of_ble_eq_true rfl) ⟨(Nat.le_of_ble_eq_true rfl), (by show _ ≤ 2 * M + 10; omega)⟩ rfl (Nat.le_of_ble_eq_true rfl) rfl rfl (fun _ _ h => h.elim) ?_
      rintro _ w3 ⟨m9, n9, g9, rfl, fw3, hA9, hl9⟩
      have hf3 := fw3.2.1 hf
      obtain ⟨b1, b2, b3, gb_a, gb_m, b6, b7, b8⟩ := id hA9
      obtain ⟨C9, hD1, hD2⟩ := (hx.m fw3.2.2).2
      refine j_astore_n (lo' := [(2, _), (0, _), (1, _), (3, _)]) dJx4a65c_add_72be8_10 rfl (by decide) rfl ?_
      refine j_aload_n dJx4a65c_add_72be8_11 rfl rfl ?_
      refine j_iload_n dJx4a65c_add_72be8_12 rfl ?_
      refine j_aload_n dJx4a65c_add_72be8_13 rfl hx.ir ?_
      refine j_aastO (w' := _) dJx4a65c_add_72be8_14 gb_m rfl hD1 hD2 (vp_in_nI (by omega) (by omega)) rfl ?_
      refine j_seal b1 ?_
      intro w4 u4
      have g4_a := (u4.2.1 _ (Ne.symm b3)).trans gb_a
      have g4_m2 := u4.1
      have hf4 := u4.2.2.2 hf3
      refine j_aload_n dJx4a65c_add_72be8_15 rfl rfl ?_
      refine j_iload_n dJx4a65c_add_72be8_16 rfl ?_
      refine j_iconst (v := 1) dJx4a65c_add_72be8_17 (by decide) ?_
      refine j_iadd dJx4a65c_add_72be8_18 ?_
      refine j_top (congrArg Value.int (nI_1 L.length)) ?_
      refine j_put (w' := _) dJx4a65c_add_72be8_19 fJx4a65c_48 tJx4a65c_2 g4_a ⟨rfl, rfl⟩ rfl ?_
      refine j_seal h.1 ?_
      intro w5 u5
      have g5_m2 := (u5.2.1 _ b3).trans g4_m2
      have g5_a := u5.1
      have hf5 := u5.2.2.2 hf4
      refine j_vret dJx4a65c_add_72be8_22 rfl ?_ (Nat.le_of_ble_eq_true rfl) (by show _ ≤ 2 * M + 10; omega)
      exact ⟨rfl, ((fw3.tr (u4.fw b1 b2)).tr (u5.fw h.1 h.2.1)), z_li.of h.1 h.2.1 (z_irA h.2.2.1 hx.ir) ⟨b1, b2, b3, by rw [z_lenA]; exact g5_a, g5_m2, by rw [z_lenA]; omega, b7, z_conA b7 hl9 b8⟩⟩
  · subst hL
    have e9 := (z_inj3 (hg.symm.trans ga)).2.1
    subst e9
    refine z_body hl (by decide) rfl (Nat.le_of_ble_eq_true rfl) ?_
    show z_J G l mJx4a65c_add_72be8 _ 0 [(0, _), (1, _), (2, _), (3, _)] [] _ 0 0
    refine j_iload_n dJx4a65c_add_72be8_0 rfl ?_
    refine j_aload_n dJx4a65c_add_72be8_1 rfl rfl ?_
    refine j_alenK (k := k) (N := 0) dJx4a65c_add_72be8_2 (fun U q h hkq => h.2.2.2.1 k q hk hkq) ?_
    refine j_icmp_ne (tgt := 11) dJx4a65c_add_72be8_3 (by decide) (fun c_3_5 => ?_) (fun c_3_5 => ?_)
    · exact absurd rfl c_3_5
    · refine j_aload_n dJx4a65c_add_72be8_6 rfl rfl ?_
      refine j_callV (q := (RJx4a65c, TJx4a65c, 3)) dJx4a65c_add_72be8_7 kJx4a65c_grow_d5877 lJx4a65c_129 inJx4a65c_grow_d5877 seJx4a65c_grow_d5877 ga rfl (cl_grow hl w ρ a mo _ M h hρ hf hM hM2 hel (fun m2 n2 f2 h2 => by obtain ⟨-, -, -, h4, -⟩ := h2; have e := (z_inj3 (h4.symm.trans ga)).2.1; cases e)) (Nat.le_of_ble_eq_true rfl) ⟨(Nat.le_of_ble_eq_true rfl), (by show _ ≤ 2 * M + 10; omega)⟩ rfl (Nat.le_of_ble_eq_true rfl) rfl rfl (fun _ _ h => h.elim) ?_
      rintro _ w1 ⟨m9, n9, g9, rfl, fw1, hA9, hl9⟩
      have hf1 := fw1.2.1 hf
      obtain ⟨b1, b2, b3, gb_a, gb_m, b6, b7, b8⟩ := id hA9
      obtain ⟨C9, hD1, hD2⟩ := (hx.m fw1.2.2).2
      refine j_astore_n (lo' := [(2, _), (0, _), (1, _), (3, _)]) dJx4a65c_add_72be8_10 rfl (by decide) rfl ?_
      refine j_aload_n dJx4a65c_add_72be8_11 rfl rfl ?_
      refine j_iload_n dJx4a65c_add_72be8_12 rfl ?_
      refine j_aload_n dJx4a65c_add_72be8_13 rfl hx.ir ?_
      refine j_aastO (w' := _) dJx4a65c_add_72be8_14 gb_m rfl hD1 hD2 (vp_in_nI (by omega) (by omega)) rfl ?_
      refine j_seal b1 ?_
      intro w2 u2
      have g2_a := (u2.2.1 _ (Ne.symm b3)).trans gb_a
      have g2_m2 := u2.1
      have hf2 := u2.2.2.2 hf1
      refine j_aload_n dJx4a65c_add_72be8_15 rfl rfl ?_
      refine j_iload_n dJx4a65c_add_72be8_16 rfl ?_
      refine j_iconst (v := 1) dJx4a65c_add_72be8_17 (by decide) ?_
      refine j_iadd dJx4a65c_add_72be8_18 ?_
      refine j_top (congrArg Value.int (nI_1 0)) ?_
      refine j_put (w' := _) dJx4a65c_add_72be8_19 fJx4a65c_48 tJx4a65c_2 g2_a ⟨rfl, rfl⟩ rfl ?_
      refine j_seal h.1 ?_
      intro w3 u3
      have g3_m2 := (u3.2.1 _ b3).trans g2_m2
      have g3_a := u3.1
      have hf3 := u3.2.2.2 hf2
      refine j_vret dJx4a65c_add_72be8_22 rfl ?_ (Nat.le_of_ble_eq_true rfl) (by show _ ≤ 2 * M + 10; omega)
      exact ⟨rfl, ((fw1.tr (u2.fw b1 b2)).tr (u3.fw h.1 h.2.1)), z_li.of h.1 h.2.1 (z_irA h.2.2.1 hx.ir) ⟨b1, b2, b3, by rw [z_lenA]; exact g3_a, g3_m2, by rw [z_lenA]; omega, b7, z_conA b7 hl9 b8⟩⟩
  · obtain ⟨a1, a2, a3, ga, gm, a6, a7, a8⟩ := id hA
    have e9 := (z_inj3 (hg.symm.trans ga)).2.1
    subst e9
    refine z_body hl (by decide) rfl (Nat.le_of_ble_eq_true rfl) ?_
    show z_J G l mJx4a65c_add_72be8 _ 0 [(0, _), (1, _), (2, _), (3, _)] [] _ 0 0
    refine j_iload_n dJx4a65c_add_72be8_0 rfl ?_
    refine j_aload_n dJx4a65c_add_72be8_1 rfl rfl ?_
    refine j_alen dJx4a65c_add_72be8_2 gm rfl rfl ?_
    refine j_icmp_ne (tgt := 11) dJx4a65c_add_72be8_3 (by decide) (fun c_3_5 => ?_) (fun c_3_5 => ?_)
    · have hlt : L.length < n := by rcases Nat.lt_or_eq_of_le a6 with h1 | h1; exact h1; exact absurd (congrArg nI h1) c_3_5
      refine j_aload_n dJx4a65c_add_72be8_11 rfl rfl ?_
      refine j_iload_n dJx4a65c_add_72be8_12 rfl ?_
      refine j_aload_n dJx4a65c_add_72be8_13 rfl hx.ir ?_
      refine j_aastO (w' := _) dJx4a65c_add_72be8_14 gm rfl hC1 hC2 (vp_in_nI (by omega) (by omega)) rfl ?_
      refine j_seal a1 ?_
      intro w1 u1
      have g1_a := (u1.2.1 _ (Ne.symm a3)).trans ga
      have g1_m := u1.1
      have hf1 := u1.2.2.2 hf
      refine j_aload_n dJx4a65c_add_72be8_15 rfl rfl ?_
      refine j_iload_n dJx4a65c_add_72be8_16 rfl ?_
      refine j_iconst (v := 1) dJx4a65c_add_72be8_17 (by decide) ?_
      refine j_iadd dJx4a65c_add_72be8_18 ?_
      refine j_top (congrArg Value.int (nI_1 L.length)) ?_
      refine j_put (w' := _) dJx4a65c_add_72be8_19 fJx4a65c_48 tJx4a65c_2 g1_a ⟨rfl, rfl⟩ rfl ?_
      refine j_seal h.1 ?_
      intro w2 u2
      have g2_m := (u2.2.1 _ a3).trans g1_m
      have g2_a := u2.1
      have hf2 := u2.2.2.2 hf1
      refine j_vret dJx4a65c_add_72be8_22 rfl ?_ (Nat.le_of_ble_eq_true rfl) (by show _ ≤ 2 * M + 10; omega)
      exact ⟨rfl, ((u1.fw a1 a2).tr (u2.fw h.1 h.2.1)), z_li.of h.1 h.2.1 (z_irA h.2.2.1 hx.ir) ⟨a1, a2, a3, by rw [z_lenA]; exact g2_a, g2_m, by rw [z_lenA]; omega, a7, z_conA a7 (by omega) a8⟩⟩
    · have hfl : L.length = n := nI_inj c_3_5 (by omega) (by omega)
      refine j_aload_n dJx4a65c_add_72be8_6 rfl rfl ?_
      refine j_callV (q := (RJx4a65c, TJx4a65c, 3)) dJx4a65c_add_72be8_7 kJx4a65c_grow_d5877 lJx4a65c_129 inJx4a65c_grow_d5877 seJx4a65c_grow_d5877 ga rfl (cl_grow hl w ρ a mo _ M h hρ hf hM hM2 hel (fun m2 n2 f2 h2 => by obtain ⟨-, -, -, h4, h5, -⟩ := h2; have e := (z_inj3 (h4.symm.trans ga)).2.1; cases e; have e5 := h5.symm.trans gm; cases e5; omega)) (Nat.le_of_ble_eq_true rfl) ⟨(Nat.le_of_ble_eq_true rfl), (by show _ ≤ 2 * M + 10; omega)⟩ rfl (Nat.le_of_ble_eq_true rfl) rfl rfl (fun _ _ h => h.elim) ?_
      rintro _ w3 ⟨m9, n9, g9, rfl, fw3, hA9, hl9⟩
      have hf3 := fw3.2.1 hf
      obtain ⟨b1, b2, b3, gb_a, gb_m, b6, b7, b8⟩ := id hA9
      obtain ⟨C9, hD1, hD2⟩ := (hx.m fw3.2.2).2
      refine j_astore_n (lo' := [(2, _), (0, _), (1, _), (3, _)]) dJx4a65c_add_72be8_10 rfl (by decide) rfl ?_
      refine j_aload_n dJx4a65c_add_72be8_11 rfl rfl ?_
      refine j_iload_n dJx4a65c_add_72be8_12 rfl ?_
      refine j_aload_n dJx4a65c_add_72be8_13 rfl hx.ir ?_
      refine j_aastO (w' := _) dJx4a65c_add_72be8_14 gb_m rfl hD1 hD2 (vp_in_nI (by omega) (by omega)) rfl ?_
      refine j_seal b1 ?_
      intro w4 u4
      have g4_a := (u4.2.1 _ (Ne.symm b3)).trans gb_a
      have g4_m2 := u4.1
      have hf4 := u4.2.2.2 hf3
      refine j_aload_n dJx4a65c_add_72be8_15 rfl rfl ?_
      refine j_iload_n dJx4a65c_add_72be8_16 rfl ?_
      refine j_iconst (v := 1) dJx4a65c_add_72be8_17 (by decide) ?_
      refine j_iadd dJx4a65c_add_72be8_18 ?_
      refine j_top (congrArg Value.int (nI_1 L.length)) ?_
      refine j_put (w' := _) dJx4a65c_add_72be8_19 fJx4a65c_48 tJx4a65c_2 g4_a ⟨rfl, rfl⟩ rfl ?_
      refine j_seal h.1 ?_
      intro w5 u5
      have g5_m2 := (u5.2.1 _ b3).trans g4_m2
      have g5_a := u5.1
      have hf5 := u5.2.2.2 hf4
      refine j_vret dJx4a65c_add_72be8_22 rfl ?_ (Nat.le_of_ble_eq_true rfl) (by show _ ≤ 2 * M + 10; omega)
      exact ⟨rfl, ((fw3.tr (u4.fw b1 b2)).tr (u5.fw h.1 h.2.1)), z_li.of h.1 h.2.1 (z_irA h.2.2.1 hx.ir) ⟨b1, b2, b3, by rw [z_lenA]; exact g5_a, g5_m2, by rw [z_lenA]; omega, b7, z_conA b7 hl9 b8⟩⟩
  · subst hL
    have e9 := (z_inj3 (hg.symm.trans ga)).2.1
    subst e9
    refine z_body hl (by decide) rfl (Nat.le_of_ble_eq_true rfl) ?_
    show z_J G l mJx4a65c_add_72be8 _ 0 [(0, _), (1, _), (2, _), (3, _)] [] _ 0 0
    refine j_iload_n dJx4a65c_add_72be8_0 rfl ?_
    refine j_aload_n dJx4a65c_add_72be8_1 rfl rfl ?_
    refine j_alenK (k := k) (N := 0) dJx4a65c_add_72be8_2 (fun U q h hkq => h.2.2.2.1 k q hk hkq) ?_
    refine j_icmp_ne (tgt := 11) dJx4a65c_add_72be8_3 (by decide) (fun c_3_5 => ?_) (fun c_3_5 => ?_)
    · exact absurd rfl c_3_5
    · refine j_aload_n dJx4a65c_add_72be8_6 rfl rfl ?_
      refine j_callV (q := (RJx4a65c, TJx4a65c, 3)) dJx4a65c_add_72be8_7 kJx4a65c_grow_d5877 lJx4a65c_129 inJx4a65c_grow_d5877 seJx4a65c_grow_d5877 ga rfl (cl_grow hl w ρ a mo _ M h hρ hf hM hM2 hel (fun m2 n2 f2 h2 => by obtain ⟨-, -, -, h4, -⟩ := h2; have e := (z_inj3 (h4.symm.trans ga)).2.1; cases e)) (Nat.le_of_ble_eq_true rfl) ⟨(Nat.le_of_ble_eq_true rfl), (by show _ ≤ 2 * M + 10; omega)⟩ rfl (Nat.le_of_ble_eq_true rfl) rfl rfl (fun _ _ h => h.elim) ?_
      rintro _ w1 ⟨m9, n9, g9, rfl, fw1, hA9, hl9⟩
      have hf1 := fw1.2.1 hf
      obtain ⟨b1, b2, b3, gb_a, gb_m, b6, b7, b8⟩ := id hA9
      obtain ⟨C9, hD1, hD2⟩ := (hx.m fw1.2.2).2
      refine j_astore_n (lo' := [(2, _), (0, _), (1, _), (3, _)]) dJx4a65c_add_72be8_10 rfl (by decide) rfl ?_
      refine j_aload_n dJx4a65c_add_72be8_11 rfl rfl ?_
      refine j_iload_n dJx4a65c_add_72be8_12 rfl ?_
      refine j_aload_n dJx4a65c_add_72be8_13 rfl hx.ir ?_
      refine j_aastO (w' := _) dJx4a65c_add_72be8_14 gb_m rfl hD1 hD2 (vp_in_nI (by omega) (by omega)) rfl ?_
      refine j_seal b1 ?_
      intro w2 u2
      have g2_a := (u2.2.1 _ (Ne.symm b3)).trans gb_a
      have g2_m2 := u2.1
      have hf2 := u2.2.2.2 hf1
      refine j_aload_n dJx4a65c_add_72be8_15 rfl rfl ?_
      refine j_iload_n dJx4a65c_add_72be8_16 rfl ?_
      refine j_iconst (v := 1) dJx4a65c_add_72be8_17 (by decide) ?_
      refine j_iadd dJx4a65c_add_72be8_18 ?_
      refine j_top (congrArg Value.int (nI_1 0)) ?_
      refine j_put (w' := _) dJx4a65c_add_72be8_19 fJx4a65c_48 tJx4a65c_2 g2_a ⟨rfl, rfl⟩ rfl ?_
      refine j_seal h.1 ?_
      intro w3 u3
      have g3_m2 := (u3.2.1 _ b3).trans g2_m2
      have g3_a := u3.1
      have hf3 := u3.2.2.2 hf2
      refine j_vret dJx4a65c_add_72be8_22 rfl ?_ (Nat.le_of_ble_eq_true rfl) (by show _ ≤ 2 * M + 10; omega)
      exact ⟨rfl, ((fw1.tr (u2.fw b1 b2)).tr (u3.fw h.1 h.2.1)), z_li.of h.1 h.2.1 (z_irA h.2.2.1 hx.ir) ⟨b1, b2, b3, by rw [z_lenA]; exact g3_a, g3_m2, by rw [z_lenA]; omega, b7, z_conA b7 hl9 b8⟩⟩
set_option maxRecDepth 100000 in
set_option maxHeartbeats 8000000 in
theorem cl_add (hl : l.stackTraces = false) (w : z_W) (ρ a : Nat) (mo : Int32) (L : List Value) (M : Nat) (x : Value) (h : z_li w ρ a mo L) (hρ : ρ < 64) (hf : z_fn w) (hM : L.length ≤ M) (hM2 : M ≤ 1000) (hel : ∀ v ∈ L, z_el ρ w v) (hx : z_el ρ w x) : z_Con G l mJx4a65c_add_9ea2d 17 1 (2 * M + 10) w [.ref a, x] (fun v w9 => v = some (.int (Int32.ofInt 1)) ∧ z_fw ρ w w9 ∧ ∃ mo9, z_li w9 ρ a mo9 (L ++ [x])) (fun _ _ => False) := by
  obtain ⟨v0, hv0, ga⟩ := h.cell
  refine z_body hl (by decide) rfl (by show (lg_sl ([.ref a] ++ x :: [])).length ≤ _; rw [z_lgx hx.ir]; exact Nat.le_of_ble_eq_true rfl) ?_
  show z_J G l mJx4a65c_add_9ea2d _ 0 [(0, _), (1, _)] [] _ 0 0
  refine j_aload_n dJx4a65c_add_9ea2d_0 rfl rfl ?_
  refine j_dup dJx4a65c_add_9ea2d_1 rfl ?_
  refine j_getf dJx4a65c_add_9ea2d_2 fJx4a65c_63 ga rfl ?_
  refine j_iconst (v := 1) dJx4a65c_add_9ea2d_5 (by decide) ?_
  refine j_iadd dJx4a65c_add_9ea2d_6 ?_
  refine j_put (w' := _) dJx4a65c_add_9ea2d_7 fJx4a65c_63 tJx4a65c_0 ga ⟨rfl, rfl⟩ rfl ?_
  refine j_seal h.1 ?_
  intro w1 u1
  have g1_a := u1.1
  have hf1 := u1.2.2.2 hf
  have hl1 := h.md ga u1
  refine j_aload_n dJx4a65c_add_9ea2d_10 rfl rfl ?_
  refine j_aload_n dJx4a65c_add_9ea2d_11 rfl hx.ir ?_
  refine j_aload_n dJx4a65c_add_9ea2d_12 rfl rfl ?_
  refine j_getf dJx4a65c_add_9ea2d_13 fJx4a65c_9 g1_a rfl ?_
  refine j_aload_n dJx4a65c_add_9ea2d_16 rfl rfl ?_
  refine j_getf dJx4a65c_add_9ea2d_17 fJx4a65c_48 g1_a rfl ?_
  refine j_callV (q := (RJx4a65c, TJx4a65c, 3)) dJx4a65c_add_9ea2d_20 kJx4a65c_add_72be8 lJx4a65c_131 inJx4a65c_add_72be8 seJx4a65c_add_72be8 g1_a rfl (cl_addA hl w1 ρ a _ L M x v0 hl1 hρ hf1 hM hM2 (z_elM hel (u1.fw h.1 h.2.1)) (hx.m (u1.fw h.1 h.2.1).2.2) g1_a hv0) (Nat.le_of_ble_eq_true rfl) ⟨(Nat.le_of_ble_eq_true rfl), (by show _ ≤ 2 * M + 10; omega)⟩ rfl (Nat.le_of_ble_eq_true rfl) rfl rfl (fun _ _ h => h.elim) ?_
  rintro _ w2 ⟨rfl, fw2, hr2⟩
  have hf2 := fw2.2.1 hf1
  refine j_iconst (v := 1) dJx4a65c_add_9ea2d_23 (by decide) ?_
  refine j_iret dJx4a65c_add_9ea2d_24 rfl rfl ?_ (Nat.le_of_ble_eq_true rfl) (by show _ ≤ 2 * M + 10; omega)
  exact ⟨rfl, ((u1.fw h.1 h.2.1).tr fw2), _, hr2⟩
set_option maxRecDepth 100000 in
set_option maxHeartbeats 8000000 in
theorem cl_fRem (hl : l.stackTraces = false) (w : z_W) (ρ a : Nat) (mo : Int32) (L : List Value) (m n j : Nat) (f : Nat → Value) (h : z_li w ρ a mo L) (hA : z_liA w ρ a mo L m n f) (hjl : j < L.length) (hf : z_fn w) (hel : ∀ v ∈ L, z_el ρ w v) : z_Con G l mJx4a65c_fastRemove_b59b0 12 0 0 w [.ref a, .ref m, .int (nI j)] (fun v w9 => v = none ∧ z_fw ρ w w9 ∧ ∃ mo9, z_li w9 ρ a mo9 (L.eraseIdx j)) (fun _ _ => False) := by
  obtain ⟨a1, a2, a3, ga, gm, a6, a7, a8⟩ := id hA
  have hL1 : nI L.length - Int32.ofInt 1 = nI (L.length - 1) := by rw [nI_o1]; exact pk_sub (by omega)
  refine z_body hl (by decide) rfl (Nat.le_of_ble_eq_true rfl) ?_
  show z_J G l mJx4a65c_fastRemove_b59b0 _ 0 [(0, _), (1, _), (2, _)] [] _ 0 0
  refine j_aload_n dJx4a65c_fastRemove_b59b0_0 rfl rfl ?_
  refine j_dup dJx4a65c_fastRemove_b59b0_1 rfl ?_
  refine j_getf dJx4a65c_fastRemove_b59b0_2 fJx4a65c_63 ga rfl ?_
  refine j_iconst (v := 1) dJx4a65c_fastRemove_b59b0_5 (by decide) ?_
  refine j_iadd dJx4a65c_fastRemove_b59b0_6 ?_
  refine j_put (w' := _) dJx4a65c_fastRemove_b59b0_7 fJx4a65c_63 tJx4a65c_0 ga ⟨rfl, rfl⟩ rfl ?_
  refine j_seal h.1 ?_
  intro w1 u1
  have g1_m := (u1.2.1 _ a3).trans gm
  have g1_a := u1.1
  have hf1 := u1.2.2.2 hf
  refine j_aload_n dJx4a65c_fastRemove_b59b0_10 rfl rfl ?_
  refine j_getf dJx4a65c_fastRemove_b59b0_11 fJx4a65c_48 g1_a rfl ?_
  refine j_iconst (v := 1) dJx4a65c_fastRemove_b59b0_14 (by decide) ?_
  refine j_isub dJx4a65c_fastRemove_b59b0_15 ?_
  refine j_top (congrArg Value.int hL1) ?_
  refine j_dup dJx4a65c_fastRemove_b59b0_16 rfl ?_
  refine j_istore_n (lo' := [(3, _), (0, _), (1, _), (2, _)]) dJx4a65c_fastRemove_b59b0_17 (by decide) rfl ?_
  refine j_iload_n dJx4a65c_fastRemove_b59b0_18 rfl ?_
  refine j_icmp_le (tgt := 34) dJx4a65c_fastRemove_b59b0_19 (by decide) (fun c_19_21 => ?_) (fun c_19_21 => ?_)
  · have hjk : j + 1 = L.length := by have := (nI_leI (a := L.length - 1) (b := j) (by omega) (by omega)).mp c_19_21; omega
    refine j_aload_n dJx4a65c_fastRemove_b59b0_34 rfl rfl ?_
    refine j_aload_n dJx4a65c_fastRemove_b59b0_35 rfl rfl ?_
    refine j_iload_n dJx4a65c_fastRemove_b59b0_36 rfl ?_
    refine j_dup_x1 dJx4a65c_fastRemove_b59b0_37 rfl rfl ?_
    refine j_put (w' := _) dJx4a65c_fastRemove_b59b0_38 fJx4a65c_48 tJx4a65c_2 g1_a ⟨rfl, rfl⟩ rfl ?_
    refine j_seal h.1 ?_
    intro w2 u2
    have g2_m := (u2.2.1 _ a3).trans g1_m
    have g2_a := u2.1
    have hf2 := u2.2.2.2 hf1
    refine j_null dJx4a65c_fastRemove_b59b0_41 ?_
    refine j_aastN (w' := _) dJx4a65c_fastRemove_b59b0_42 g2_m rfl (vp_in_nI (by omega) (by omega)) rfl ?_
    refine j_seal a1 ?_
    intro w3 u3
    have g3_a := (u3.2.1 _ (Ne.symm a3)).trans g2_a
    have g3_m := u3.1
    have hf3 := u3.2.2.2 hf2
    refine j_vret dJx4a65c_fastRemove_b59b0_43 rfl ?_ (Nat.le_of_ble_eq_true rfl) (Nat.le_of_ble_eq_true rfl)
    exact ⟨rfl, (((u1.fw h.1 h.2.1).tr (u2.fw h.1 h.2.1)).tr (u3.fw a1 a2)), _, z_li.of h.1 h.2.1 (z_irR h.2.2.1) ⟨a1, a2, a3, by rw [z_lenR hjl]; exact g3_a, g3_m, by rw [z_lenR hjl]; omega, a7, z_conR2 a7 (by omega) a6 a8⟩⟩
  · refine j_aload_n dJx4a65c_fastRemove_b59b0_22 rfl rfl ?_
    refine j_iload_n dJx4a65c_fastRemove_b59b0_23 rfl ?_
    refine j_iconst (v := 1) dJx4a65c_fastRemove_b59b0_24 (by decide) ?_
    refine j_iadd dJx4a65c_fastRemove_b59b0_25 ?_
    refine j_top (congrArg Value.int (nI_1 j)) ?_
    refine j_aload_n dJx4a65c_fastRemove_b59b0_26 rfl rfl ?_
    refine j_iload_n dJx4a65c_fastRemove_b59b0_27 rfl ?_
    refine j_iload_n dJx4a65c_fastRemove_b59b0_28 rfl ?_
    refine j_iload_n dJx4a65c_fastRemove_b59b0_29 rfl ?_
    refine j_isub dJx4a65c_fastRemove_b59b0_30 ?_
    refine j_top (congrArg Value.int (pk_sub (a := L.length - 1) (b := j) (by omega))) ?_
    have hjk : j + 1 < L.length := by have h9 : ¬ (L.length - 1 ≤ j) := fun z => c_19_21 ((nI_leI (a := L.length - 1) (b := j) (by omega) (by omega)).mpr z); omega
    have hcp : ∀ i, i < (nI (L.length - 1 - j)).toNatClampNeg → (∃ x, f ((nI (j + 1)).toNatClampNeg + i) = .int x ∧ fits (.object "java/lang/Object") (.int x) = true) ∨ (f ((nI (j + 1)).toNatClampNeg + i) = .null ∧ (FieldType.object "java/lang/Object").isReference = true) ∨ ∃ C E, FieldType.object "java/lang/Object" = .object E ∧ z_is w1 (f ((nI (j + 1)).toNatClampNeg + i)) C ∧ Cond.castable C E ∈ z_nst := fun i hi => by
      rw [z_cla (n := L.length - 1 - j) (by omega)] at hi
      rw [z_cla (n := j + 1) (by omega)]
      rcases z_elK (z_elM hel (u1.fw h.1 h.2.1)) (⟨a1, a2, a3, g1_a, g1_m, a6, a7, a8⟩ : z_liA w1 ρ a _ L m n f) (j := j + 1 + i) (by omega) with h1 | ⟨C, h1, h2⟩
      · exact Or.inr (Or.inl ⟨h1, rfl⟩)
      · exact Or.inr (Or.inr ⟨C, "java/lang/Object", rfl, h1, h2⟩)
    refine j_acopy (w' := _) dJx4a65c_fastRemove_b59b0_31 lJx4a65c_112 ac_n ac_s ac_i g1_m g1_m rfl (nI_pos (by omega)) (nI_pos (by omega)) (nI_pos (by omega)) (by rw [z_cla (n := (j + 1)) (by omega), z_cla (n := (L.length - 1 - j)) (by omega)]; omega) (by rw [z_cla (n := j) (by omega), z_cla (n := (L.length - 1 - j)) (by omega)]; omega) hcp (Nat.le_of_ble_eq_true rfl) (Nat.le_of_ble_eq_true rfl) rfl ?_
    refine j_seal a1 ?_
    intro w4 u4
    have g4_a := (u4.2.1 _ (Ne.symm a3)).trans g1_a
    have g4_m := u4.1
    have hf4 := u4.2.2.2 hf1
    refine j_aload_n dJx4a65c_fastRemove_b59b0_34 rfl rfl ?_
    refine j_aload_n dJx4a65c_fastRemove_b59b0_35 rfl rfl ?_
    refine j_iload_n dJx4a65c_fastRemove_b59b0_36 rfl ?_
    refine j_dup_x1 dJx4a65c_fastRemove_b59b0_37 rfl rfl ?_
    refine j_put (w' := _) dJx4a65c_fastRemove_b59b0_38 fJx4a65c_48 tJx4a65c_2 g4_a ⟨rfl, rfl⟩ rfl ?_
    refine j_seal h.1 ?_
    intro w5 u5
    have g5_m := (u5.2.1 _ a3).trans g4_m
    have g5_a := u5.1
    have hf5 := u5.2.2.2 hf4
    refine j_null dJx4a65c_fastRemove_b59b0_41 ?_
    refine j_aastN (w' := _) dJx4a65c_fastRemove_b59b0_42 g5_m rfl (vp_in_nI (by omega) (by omega)) rfl ?_
    refine j_seal a1 ?_
    intro w6 u6
    have g6_a := (u6.2.1 _ (Ne.symm a3)).trans g5_a
    have g6_m := u6.1
    have hf6 := u6.2.2.2 hf5
    refine j_vret dJx4a65c_fastRemove_b59b0_43 rfl ?_ (Nat.le_of_ble_eq_true rfl) (Nat.le_of_ble_eq_true rfl)
    exact ⟨rfl, ((((u1.fw h.1 h.2.1).tr (u4.fw a1 a2)).tr (u5.fw h.1 h.2.1)).tr (u6.fw a1 a2)), _, z_li.of h.1 h.2.1 (z_irR h.2.2.1) ⟨a1, a2, a3, by rw [z_lenR hjl]; exact g6_a, g6_m, by rw [z_lenR hjl]; omega, a7, z_conR a7 (by omega) a6 a8⟩⟩
set_option maxRecDepth 100000 in
set_option maxHeartbeats 8000000 in
theorem cl_rem (hl : l.stackTraces = false) (w : z_W) (ρ a : Nat) (mo : Int32) (L : List Value) (j : Nat) (v0 : Value) (h : z_li w ρ a mo L) (hj : L[j]? = some v0) (hf : z_fn w) (hel : ∀ v ∈ L, z_el ρ w v) : z_Con G l mJx4a65c_remove_915e3 14 0 0 w [.ref a, .int (nI j)] (fun v w9 => v = some v0 ∧ z_fw ρ w w9 ∧ ∃ mo9, z_li w9 ρ a mo9 (L.eraseIdx j)) (fun _ _ => False) := by
  obtain ⟨m, n, f, hA⟩ := h.one hj
  obtain ⟨a1, a2, a3, ga, gm, a6, a7, a8⟩ := id hA
  have hjl : j < L.length := (List.getElem?_eq_some_iff.mp hj).1
  refine z_body hl (by decide) rfl (Nat.le_of_ble_eq_true rfl) ?_
  show z_J G l mJx4a65c_remove_915e3 _ 0 [(0, _), (1, _)] [] _ 0 0
  refine j_iload_n dJx4a65c_remove_915e3_0 rfl ?_
  refine j_aload_n dJx4a65c_remove_915e3_1 rfl rfl ?_
  refine j_getf dJx4a65c_remove_915e3_2 fJx4a65c_48 ga rfl ?_
  refine j_callS dJx4a65c_remove_915e3_5 kJ15_checkIndex_7cf53 lJx4a65c_118 stJ15_checkIndex_7cf53 (c_J15_checkIndex_7cf53 hl _ _ _ (nI_pos (by omega)) (nI_lt hjl (by omega))) (Nat.le_of_ble_eq_true rfl) ⟨(Nat.le_of_ble_eq_true rfl), (Nat.le_of_ble_eq_true rfl)⟩ rfl (Nat.le_of_ble_eq_true rfl) rfl rfl (fun _ _ h => h.elim) ?_
  rintro _ _ ⟨rfl, hw10⟩
  refine j_w w hw10 ?_
  refine j_pop dJx4a65c_remove_915e3_8 rfl ?_
  refine j_aload_n dJx4a65c_remove_915e3_9 rfl rfl ?_
  refine j_getf dJx4a65c_remove_915e3_10 fJx4a65c_9 ga rfl ?_
  refine j_astore_n (lo' := [(2, _), (0, _), (1, _)]) dJx4a65c_remove_915e3_13 rfl (by decide) rfl ?_
  refine j_aload_n dJx4a65c_remove_915e3_14 rfl rfl ?_
  refine j_iload_n dJx4a65c_remove_915e3_15 rfl ?_
  refine j_aald dJx4a65c_remove_915e3_16 gm rfl rfl (vp_in_nI (by omega) (by omega)) (show f (nI j).toNatClampNeg = v0 by rw [z_cla (by omega)]; exact a8 j v0 hj) ?_
  refine j_astore_n (lo' := [(3, _), (2, _), (0, _), (1, _)]) dJx4a65c_remove_915e3_17 (h.ir hj) (by decide) rfl ?_
  refine j_aload_n dJx4a65c_remove_915e3_18 rfl rfl ?_
  refine j_aload_n dJx4a65c_remove_915e3_19 rfl rfl ?_
  refine j_iload_n dJx4a65c_remove_915e3_20 rfl ?_
  refine j_callV (q := (RJx4a65c, TJx4a65c, 3)) dJx4a65c_remove_915e3_21 kJx4a65c_fastRemove_b59b0 lJx4a65c_144 inJx4a65c_fastRemove_b59b0 seJx4a65c_fastRemove_b59b0 ga rfl (cl_fRem hl w ρ a mo L m n j f h hA hjl hf hel) (Nat.le_of_ble_eq_true rfl) ⟨(Nat.le_of_ble_eq_true rfl), (Nat.le_of_ble_eq_true rfl)⟩ rfl (Nat.le_of_ble_eq_true rfl) rfl rfl (fun _ _ h => h.elim) ?_
  rintro _ w1 ⟨rfl, fw1, hr1⟩
  refine j_aload_n dJx4a65c_remove_915e3_24 rfl (h.ir hj) ?_
  refine j_aret dJx4a65c_remove_915e3_25 rfl (Or.inl ⟨_, rfl⟩) (h.ir hj) ?_ (Nat.le_of_ble_eq_true rfl) (Nat.le_of_ble_eq_true rfl)
  exact ⟨rfl, fw1, hr1⟩
set_option maxRecDepth 100000 in
set_option maxHeartbeats 8000000 in
theorem cl_rck (hl : l.stackTraces = false) (w : z_W) (ρ a : Nat) (mo : Int32) (L : List Value) (j : Nat) (h : z_li w ρ a mo L) (hj : j ≤ L.length) : z_Con G l mJx4a65c_rangeCheckForAdd_d00df 10 0 0 w [.ref a, .int (nI j)] (fun v w9 => v = none ∧ w9 = w) (fun _ _ => False) := by
  obtain ⟨v0, hv0, ga⟩ := h.cell
  have hlen := h.len
  refine z_body hl (by decide) rfl (Nat.le_of_ble_eq_true rfl) ?_
  show z_J G l mJx4a65c_rangeCheckForAdd_d00df _ 0 [(0, _), (1, _)] [] _ 0 0
  refine j_iload_n dJx4a65c_rangeCheckForAdd_d00df_0 rfl ?_
  refine j_aload_n dJx4a65c_rangeCheckForAdd_d00df_1 rfl rfl ?_
  refine j_getf dJx4a65c_rangeCheckForAdd_d00df_2 fJx4a65c_48 ga rfl ?_
  refine j_icmp_gt (tgt := 12) dJx4a65c_rangeCheckForAdd_d00df_5 (by decide) (fun c_5_5 => ?_) (fun c_5_5 => ?_)
  · exact absurd (show nI L.length < nI j from c_5_5) (Int32.not_lt.mpr ((nI_leI (by omega) (by omega)).mpr hj))
  · refine j_iload_n dJx4a65c_rangeCheckForAdd_d00df_8 rfl ?_
    refine j_if_ge (tgt := 25) dJx4a65c_rangeCheckForAdd_d00df_9 (by decide) (fun c_9_8 => ?_) (fun c_9_8 => ?_)
    · refine j_vret dJx4a65c_rangeCheckForAdd_d00df_25 rfl ?_ (Nat.le_of_ble_eq_true rfl) (Nat.le_of_ble_eq_true rfl)
      exact ⟨rfl, rfl⟩
    · exact absurd (nI_pos' (n := j) (by omega)) c_9_8
set_option maxRecDepth 100000 in
set_option maxHeartbeats 8000000 in
theorem cl_addI (hl : l.stackTraces = false) (w : z_W) (ρ a : Nat) (mo : Int32) (L : List Value) (M : Nat) (j : Nat) (x : Value) (h : z_li w ρ a mo L) (hρ : ρ < 64) (hf : z_fn w) (hM : L.length ≤ M) (hM2 : M ≤ 1000) (hel : ∀ v ∈ L, z_el ρ w v) (hx : z_el ρ w x) (hj : j ≤ L.length) : z_Con G l mJx4a65c_add_7a177 17 1 (2 * M + 10) w [.ref a, .int (nI j), x] (fun v w9 => v = none ∧ z_fw ρ w w9 ∧ ∃ mo9, z_li w9 ρ a mo9 (L.take j ++ x :: L.drop j)) (fun _ _ => False) := by
  rcases hx.1 with ⟨bx, rfl⟩ | ⟨rx, rfl, hrx⟩ <;> rcases h.2.2.2 with ⟨m, n, f, hA⟩ | ⟨k, hL, hk, ga⟩
  · obtain ⟨a1, a2, a3, ga, gm, a6, a7, a8⟩ := id hA
    refine z_body hl (by decide) rfl (Nat.le_of_ble_eq_true rfl) ?_
    show z_J G l mJx4a65c_add_7a177 _ 0 [(0, _), (1, _), (2, _)] [] _ 0 0
    refine j_aload_n dJx4a65c_add_7a177_0 rfl rfl ?_
    refine j_iload_n dJx4a65c_add_7a177_1 rfl ?_
    refine j_callV (q := (RJx4a65c, TJx4a65c, 3)) dJx4a65c_add_7a177_2 kJx4a65c_rangeCheckForAdd_d00df lJx4a65c_135 inJx4a65c_rangeCheckForAdd_d00df seJx4a65c_rangeCheckForAdd_d00df ga rfl (cl_rck hl w _ _ _ _ j h hj) (Nat.le_of_ble_eq_true rfl) ⟨(Nat.le_of_ble_eq_true rfl), (Nat.le_of_ble_eq_true rfl)⟩ rfl (Nat.le_of_ble_eq_true rfl) rfl rfl (fun _ _ h => h.elim) ?_
    rintro _ _ ⟨rfl, hw11⟩
    refine j_w w hw11 ?_
    refine j_aload_n dJx4a65c_add_7a177_5 rfl rfl ?_
    refine j_dup dJx4a65c_add_7a177_6 rfl ?_
    refine j_getf dJx4a65c_add_7a177_7 fJx4a65c_63 ga rfl ?_
    refine j_iconst (v := 1) dJx4a65c_add_7a177_10 (by decide) ?_
    refine j_iadd dJx4a65c_add_7a177_11 ?_
    refine j_put (w' := _) dJx4a65c_add_7a177_12 fJx4a65c_63 tJx4a65c_0 ga ⟨rfl, rfl⟩ rfl ?_
    refine j_seal h.1 ?_
    intro w1 u1
    have g1_m := (u1.2.1 _ a3).trans gm
    have g1_a := u1.1
    have hf1 := u1.2.2.2 hf
    have hl1 := h.md ga u1
    refine j_aload_n dJx4a65c_add_7a177_15 rfl rfl ?_
    refine j_getf dJx4a65c_add_7a177_16 fJx4a65c_48 g1_a rfl ?_
    refine j_dup dJx4a65c_add_7a177_19 rfl ?_
    refine j_istore_n (lo' := [(3, _), (0, _), (1, _), (2, _)]) dJx4a65c_add_7a177_20 (by decide) rfl ?_
    refine j_aload_n dJx4a65c_add_7a177_21 rfl rfl ?_
    refine j_getf dJx4a65c_add_7a177_22 fJx4a65c_9 g1_a rfl ?_
    refine j_dup dJx4a65c_add_7a177_25 rfl ?_
    refine j_astore (lo' := [(4, _), (3, _), (0, _), (1, _), (2, _)]) dJx4a65c_add_7a177_26 rfl (by decide) rfl ?_
    refine j_alen dJx4a65c_add_7a177_28 g1_m rfl rfl ?_
    refine j_icmp_ne (tgt := 38) dJx4a65c_add_7a177_29 (by decide) (fun c_29_28 => ?_) (fun c_29_28 => ?_)
    · have hlt : L.length < n := by rcases Nat.lt_or_eq_of_le a6 with h1 | h1; exact h1; exact absurd (congrArg nI h1) c_29_28
      refine j_aload dJx4a65c_add_7a177_38 rfl rfl ?_
      refine j_iload_n dJx4a65c_add_7a177_40 rfl ?_
      refine j_aload dJx4a65c_add_7a177_41 rfl rfl ?_
      refine j_iload_n dJx4a65c_add_7a177_43 rfl ?_
      refine j_iconst (v := 1) dJx4a65c_add_7a177_44 (by decide) ?_
      refine j_iadd dJx4a65c_add_7a177_45 ?_
      refine j_top (congrArg Value.int (nI_1 j)) ?_
      refine j_iload_n dJx4a65c_add_7a177_46 rfl ?_
      refine j_iload_n dJx4a65c_add_7a177_47 rfl ?_
      refine j_isub dJx4a65c_add_7a177_48 ?_
      refine j_top (congrArg Value.int (pk_sub (a := L.length) (b := j) hj)) ?_
      have hcp : ∀ i, i < (nI (L.length - j)).toNatClampNeg → (∃ x, f ((nI (j)).toNatClampNeg + i) = .int x ∧ fits (.object "java/lang/Object") (.int x) = true) ∨ (f ((nI (j)).toNatClampNeg + i) = .null ∧ (FieldType.object "java/lang/Object").isReference = true) ∨ ∃ C E, FieldType.object "java/lang/Object" = .object E ∧ z_is w1 (f ((nI (j)).toNatClampNeg + i)) C ∧ Cond.castable C E ∈ z_nst := fun i hi => by
        rw [z_cla (n := L.length - j) (by omega)] at hi
        rw [z_cla (n := j) (by omega)]
        rcases z_elK (z_elM hel (u1.fw h.1 h.2.1)) (⟨a1, a2, a3, g1_a, g1_m, a6, a7, a8⟩ : z_liA w1 ρ a _ L m n f) (j := j + i) (by omega) with h1 | ⟨C, h1, h2⟩
        · exact Or.inr (Or.inl ⟨h1, rfl⟩)
        · exact Or.inr (Or.inr ⟨C, "java/lang/Object", rfl, h1, h2⟩)
      refine j_acopy (w' := _) dJx4a65c_add_7a177_49 lJx4a65c_112 ac_n ac_s ac_i g1_m g1_m rfl (nI_pos (by omega)) (nI_pos (by omega)) (nI_pos (by omega)) (by rw [z_cla (n := j) (by omega), z_cla (n := (L.length - j)) (by omega)]; omega) (by rw [z_cla (n := (j + 1)) (by omega), z_cla (n := (L.length - j)) (by omega)]; omega) hcp (Nat.le_of_ble_eq_true rfl) (Nat.le_of_ble_eq_true rfl) rfl ?_
      refine j_seal a1 ?_
      intro w2 u2
      have g2_a := (u2.2.1 _ (Ne.symm a3)).trans g1_a
      have g2_m := u2.1
      have hf2 := u2.2.2.2 hf1
      refine j_aload dJx4a65c_add_7a177_52 rfl rfl ?_
      refine j_iload_n dJx4a65c_add_7a177_54 rfl ?_
      refine j_aload_n dJx4a65c_add_7a177_55 rfl hx.ir ?_
      obtain ⟨C9, hD1, hD2⟩ := (hx.m ((u1.fw h.1 h.2.1).tr (u2.fw a1 a2)).2.2).2
      refine j_aastO (w' := _) dJx4a65c_add_7a177_56 g2_m rfl hD1 hD2 (vp_in_nI (by omega) (by omega)) rfl ?_
      refine j_seal a1 ?_
      intro w3 u3
      have g3_a := (u3.2.1 _ (Ne.symm a3)).trans g2_a
      have g3_m := u3.1
      have hf3 := u3.2.2.2 hf2
      refine j_aload_n dJx4a65c_add_7a177_57 rfl rfl ?_
      refine j_iload_n dJx4a65c_add_7a177_58 rfl ?_
      refine j_iconst (v := 1) dJx4a65c_add_7a177_59 (by decide) ?_
      refine j_iadd dJx4a65c_add_7a177_60 ?_
      refine j_top (congrArg Value.int (nI_1 L.length)) ?_
      refine j_put (w' := _) dJx4a65c_add_7a177_61 fJx4a65c_48 tJx4a65c_2 g3_a ⟨rfl, rfl⟩ rfl ?_
      refine j_seal h.1 ?_
      intro w4 u4
      have g4_m := (u4.2.1 _ a3).trans g3_m
      have g4_a := u4.1
      have hf4 := u4.2.2.2 hf3
      refine j_vret dJx4a65c_add_7a177_64 rfl ?_ (Nat.le_of_ble_eq_true rfl) (by show _ ≤ 2 * M + 10; omega)
      exact ⟨rfl, ((((u1.fw h.1 h.2.1).tr (u2.fw a1 a2)).tr (u3.fw a1 a2)).tr (u4.fw h.1 h.2.1)), _, z_li.of h.1 h.2.1 (z_irI h.2.2.1 hx.ir) ⟨a1, a2, a3, by rw [z_lenI hj]; exact g4_a, g4_m, by rw [z_lenI hj]; omega, a7, z_conI a7 hj (by omega) a8⟩⟩
    · have hfl : L.length = n := nI_inj c_29_28 (by omega) (by omega)
      refine j_aload_n dJx4a65c_add_7a177_32 rfl rfl ?_
      refine j_callV (q := (RJx4a65c, TJx4a65c, 3)) dJx4a65c_add_7a177_33 kJx4a65c_grow_d5877 lJx4a65c_129 inJx4a65c_grow_d5877 seJx4a65c_grow_d5877 g1_a rfl (cl_grow hl w1 ρ a _ _ M hl1 hρ hf1 hM hM2 (z_elM hel (u1.fw h.1 h.2.1)) (fun m2 n2 f2 h2 => by obtain ⟨-, -, -, h4, h5, -⟩ := h2; have e := (z_inj3 (h4.symm.trans g1_a)).2.1; cases e; have e5 := h5.symm.trans g1_m; cases e5; omega)) (Nat.le_of_ble_eq_true rfl) ⟨(Nat.le_of_ble_eq_true rfl), (by show _ ≤ 2 * M + 10; omega)⟩ rfl (Nat.le_of_ble_eq_true rfl) rfl rfl (fun _ _ h => h.elim) ?_
      rintro _ w5 ⟨m9, n9, f9, rfl, fw5, hA9, hl9⟩
      have hf5 := fw5.2.1 hf1
      obtain ⟨b1, b2, b3, gb_a, gb_m, b6, b7, b8⟩ := id hA9
      refine j_astore (lo' := [(4, _), (3, _), (0, _), (1, _), (2, _)]) dJx4a65c_add_7a177_36 rfl (by decide) rfl ?_
      refine j_aload dJx4a65c_add_7a177_38 rfl rfl ?_
      refine j_iload_n dJx4a65c_add_7a177_40 rfl ?_
      refine j_aload dJx4a65c_add_7a177_41 rfl rfl ?_
      refine j_iload_n dJx4a65c_add_7a177_43 rfl ?_
      refine j_iconst (v := 1) dJx4a65c_add_7a177_44 (by decide) ?_
      refine j_iadd dJx4a65c_add_7a177_45 ?_
      refine j_top (congrArg Value.int (nI_1 j)) ?_
      refine j_iload_n dJx4a65c_add_7a177_46 rfl ?_
      refine j_iload_n dJx4a65c_add_7a177_47 rfl ?_
      refine j_isub dJx4a65c_add_7a177_48 ?_
      refine j_top (congrArg Value.int (pk_sub (a := L.length) (b := j) hj)) ?_
      have hcp : ∀ i, i < (nI (L.length - j)).toNatClampNeg → (∃ x, f9 ((nI (j)).toNatClampNeg + i) = .int x ∧ fits (.object "java/lang/Object") (.int x) = true) ∨ (f9 ((nI (j)).toNatClampNeg + i) = .null ∧ (FieldType.object "java/lang/Object").isReference = true) ∨ ∃ C E, FieldType.object "java/lang/Object" = .object E ∧ z_is w5 (f9 ((nI (j)).toNatClampNeg + i)) C ∧ Cond.castable C E ∈ z_nst := fun i hi => by
        rw [z_cla (n := L.length - j) (by omega)] at hi
        rw [z_cla (n := j) (by omega)]
        rcases z_elK (z_elM hel ((u1.fw h.1 h.2.1).tr fw5)) hA9 (j := j + i) (by omega) with h1 | ⟨C, h1, h2⟩
        · exact Or.inr (Or.inl ⟨h1, rfl⟩)
        · exact Or.inr (Or.inr ⟨C, "java/lang/Object", rfl, h1, h2⟩)
      refine j_acopy (w' := _) dJx4a65c_add_7a177_49 lJx4a65c_112 ac_n ac_s ac_i gb_m gb_m rfl (nI_pos (by omega)) (nI_pos (by omega)) (nI_pos (by omega)) (by rw [z_cla (n := j) (by omega), z_cla (n := (L.length - j)) (by omega)]; omega) (by rw [z_cla (n := (j + 1)) (by omega), z_cla (n := (L.length - j)) (by omega)]; omega) hcp (Nat.le_of_ble_eq_true rfl) (Nat.le_of_ble_eq_true rfl) rfl ?_
      refine j_seal b1 ?_
      intro w6 u6
      have g6_a := (u6.2.1 _ (Ne.symm b3)).trans gb_a
      have g6_m := u6.1
      have hf6 := u6.2.2.2 hf5
      refine j_aload dJx4a65c_add_7a177_52 rfl rfl ?_
      refine j_iload_n dJx4a65c_add_7a177_54 rfl ?_
      refine j_aload_n dJx4a65c_add_7a177_55 rfl hx.ir ?_
      obtain ⟨C9, hD1, hD2⟩ := (hx.m (((u1.fw h.1 h.2.1).tr fw5).tr (u6.fw b1 b2)).2.2).2
      refine j_aastO (w' := _) dJx4a65c_add_7a177_56 g6_m rfl hD1 hD2 (vp_in_nI (by omega) (by omega)) rfl ?_
      refine j_seal b1 ?_
      intro w7 u7
      have g7_a := (u7.2.1 _ (Ne.symm b3)).trans g6_a
      have g7_m := u7.1
      have hf7 := u7.2.2.2 hf6
      refine j_aload_n dJx4a65c_add_7a177_57 rfl rfl ?_
      refine j_iload_n dJx4a65c_add_7a177_58 rfl ?_
      refine j_iconst (v := 1) dJx4a65c_add_7a177_59 (by decide) ?_
      refine j_iadd dJx4a65c_add_7a177_60 ?_
      refine j_top (congrArg Value.int (nI_1 L.length)) ?_
      refine j_put (w' := _) dJx4a65c_add_7a177_61 fJx4a65c_48 tJx4a65c_2 g7_a ⟨rfl, rfl⟩ rfl ?_
      refine j_seal h.1 ?_
      intro w8 u8
      have g8_m := (u8.2.1 _ b3).trans g7_m
      have g8_a := u8.1
      have hf8 := u8.2.2.2 hf7
      refine j_vret dJx4a65c_add_7a177_64 rfl ?_ (Nat.le_of_ble_eq_true rfl) (by show _ ≤ 2 * M + 10; omega)
      exact ⟨rfl, (((((u1.fw h.1 h.2.1).tr fw5).tr (u6.fw b1 b2)).tr (u7.fw b1 b2)).tr (u8.fw h.1 h.2.1)), _, z_li.of h.1 h.2.1 (z_irI h.2.2.1 hx.ir) ⟨b1, b2, b3, by rw [z_lenI hj]; exact g8_a, g8_m, by rw [z_lenI hj]; omega, b7, z_conI b7 hj hl9 b8⟩⟩
  · subst hL
    refine z_body hl (by decide) rfl (Nat.le_of_ble_eq_true rfl) ?_
    show z_J G l mJx4a65c_add_7a177 _ 0 [(0, _), (1, _), (2, _)] [] _ 0 0
    refine j_aload_n dJx4a65c_add_7a177_0 rfl rfl ?_
    refine j_iload_n dJx4a65c_add_7a177_1 rfl ?_
    refine j_callV (q := (RJx4a65c, TJx4a65c, 3)) dJx4a65c_add_7a177_2 kJx4a65c_rangeCheckForAdd_d00df lJx4a65c_135 inJx4a65c_rangeCheckForAdd_d00df seJx4a65c_rangeCheckForAdd_d00df ga rfl (cl_rck hl w _ _ _ _ j h hj) (Nat.le_of_ble_eq_true rfl) ⟨(Nat.le_of_ble_eq_true rfl), (Nat.le_of_ble_eq_true rfl)⟩ rfl (Nat.le_of_ble_eq_true rfl) rfl rfl (fun _ _ h => h.elim) ?_
    rintro _ _ ⟨rfl, hw12⟩
    refine j_w w hw12 ?_
    refine j_aload_n dJx4a65c_add_7a177_5 rfl rfl ?_
    refine j_dup dJx4a65c_add_7a177_6 rfl ?_
    refine j_getf dJx4a65c_add_7a177_7 fJx4a65c_63 ga rfl ?_
    refine j_iconst (v := 1) dJx4a65c_add_7a177_10 (by decide) ?_
    refine j_iadd dJx4a65c_add_7a177_11 ?_
    refine j_put (w' := _) dJx4a65c_add_7a177_12 fJx4a65c_63 tJx4a65c_0 ga ⟨rfl, rfl⟩ rfl ?_
    refine j_seal h.1 ?_
    intro w1 u1
    have g1_a := u1.1
    have hf1 := u1.2.2.2 hf
    have hl1 := h.md ga u1
    refine j_aload_n dJx4a65c_add_7a177_15 rfl rfl ?_
    refine j_getf dJx4a65c_add_7a177_16 fJx4a65c_48 g1_a rfl ?_
    refine j_dup dJx4a65c_add_7a177_19 rfl ?_
    refine j_istore_n (lo' := [(3, _), (0, _), (1, _), (2, _)]) dJx4a65c_add_7a177_20 (by decide) rfl ?_
    refine j_aload_n dJx4a65c_add_7a177_21 rfl rfl ?_
    refine j_getf dJx4a65c_add_7a177_22 fJx4a65c_9 g1_a rfl ?_
    refine j_dup dJx4a65c_add_7a177_25 rfl ?_
    refine j_astore (lo' := [(4, _), (3, _), (0, _), (1, _), (2, _)]) dJx4a65c_add_7a177_26 rfl (by decide) rfl ?_
    refine j_alenK (k := k) (N := 0) dJx4a65c_add_7a177_28 (fun U q h hkq => h.2.2.2.1 k q hk hkq) ?_
    refine j_icmp_ne (tgt := 38) dJx4a65c_add_7a177_29 (by decide) (fun c_29_27 => ?_) (fun c_29_27 => ?_)
    · exact absurd rfl c_29_27
    · refine j_aload_n dJx4a65c_add_7a177_32 rfl rfl ?_
      refine j_callV (q := (RJx4a65c, TJx4a65c, 3)) dJx4a65c_add_7a177_33 kJx4a65c_grow_d5877 lJx4a65c_129 inJx4a65c_grow_d5877 seJx4a65c_grow_d5877 g1_a rfl (cl_grow hl w1 ρ a _ _ M hl1 hρ hf1 hM hM2 (z_elM hel (u1.fw h.1 h.2.1)) (fun m2 n2 f2 h2 => by obtain ⟨-, -, -, h4, -⟩ := h2; have e := (z_inj3 (h4.symm.trans g1_a)).2.1; cases e)) (Nat.le_of_ble_eq_true rfl) ⟨(Nat.le_of_ble_eq_true rfl), (by show _ ≤ 2 * M + 10; omega)⟩ rfl (Nat.le_of_ble_eq_true rfl) rfl rfl (fun _ _ h => h.elim) ?_
      rintro _ w2 ⟨m9, n9, f9, rfl, fw2, hA9, hl9⟩
      have hf2 := fw2.2.1 hf1
      obtain ⟨b1, b2, b3, gb_a, gb_m, b6, b7, b8⟩ := id hA9
      refine j_astore (lo' := [(4, _), (3, _), (0, _), (1, _), (2, _)]) dJx4a65c_add_7a177_36 rfl (by decide) rfl ?_
      refine j_aload dJx4a65c_add_7a177_38 rfl rfl ?_
      refine j_iload_n dJx4a65c_add_7a177_40 rfl ?_
      refine j_aload dJx4a65c_add_7a177_41 rfl rfl ?_
      refine j_iload_n dJx4a65c_add_7a177_43 rfl ?_
      refine j_iconst (v := 1) dJx4a65c_add_7a177_44 (by decide) ?_
      refine j_iadd dJx4a65c_add_7a177_45 ?_
      refine j_top (congrArg Value.int (nI_1 j)) ?_
      refine j_iload_n dJx4a65c_add_7a177_46 rfl ?_
      refine j_iload_n dJx4a65c_add_7a177_47 rfl ?_
      refine j_isub dJx4a65c_add_7a177_48 ?_
      refine j_top (congrArg Value.int (pk_sub (a := ([] : List Value).length) (b := j) hj)) ?_
      have hcp : ∀ i, i < (nI (([] : List Value).length - j)).toNatClampNeg → (∃ x, f9 ((nI (j)).toNatClampNeg + i) = .int x ∧ fits (.object "java/lang/Object") (.int x) = true) ∨ (f9 ((nI (j)).toNatClampNeg + i) = .null ∧ (FieldType.object "java/lang/Object").isReference = true) ∨ ∃ C E, FieldType.object "java/lang/Object" = .object E ∧ z_is w2 (f9 ((nI (j)).toNatClampNeg + i)) C ∧ Cond.castable C E ∈ z_nst := fun i hi => by
        rw [z_cla (n := ([] : List Value).length - j) (by omega)] at hi
        rw [z_cla (n := j) (by omega)]
        rcases z_elK (z_elM hel ((u1.fw h.1 h.2.1).tr fw2)) hA9 (j := j + i) (by omega) with h1 | ⟨C, h1, h2⟩
        · exact Or.inr (Or.inl ⟨h1, rfl⟩)
        · exact Or.inr (Or.inr ⟨C, "java/lang/Object", rfl, h1, h2⟩)
      refine j_acopy (w' := _) dJx4a65c_add_7a177_49 lJx4a65c_112 ac_n ac_s ac_i gb_m gb_m rfl (nI_pos (by omega)) (nI_pos (by omega)) (nI_pos (by omega)) (by rw [z_cla (n := j) (by omega), z_cla (n := (([] : List Value).length - j)) (by omega)]; omega) (by rw [z_cla (n := (j + 1)) (by omega), z_cla (n := (([] : List Value).length - j)) (by omega)]; omega) hcp (Nat.le_of_ble_eq_true rfl) (Nat.le_of_ble_eq_true rfl) rfl ?_
      refine j_seal b1 ?_
      intro w3 u3
      have g3_a := (u3.2.1 _ (Ne.symm b3)).trans gb_a
      have g3_m := u3.1
      have hf3 := u3.2.2.2 hf2
      refine j_aload dJx4a65c_add_7a177_52 rfl rfl ?_
      refine j_iload_n dJx4a65c_add_7a177_54 rfl ?_
      refine j_aload_n dJx4a65c_add_7a177_55 rfl hx.ir ?_
      obtain ⟨C9, hD1, hD2⟩ := (hx.m (((u1.fw h.1 h.2.1).tr fw2).tr (u3.fw b1 b2)).2.2).2
      refine j_aastO (w' := _) dJx4a65c_add_7a177_56 g3_m rfl hD1 hD2 (vp_in_nI (by omega) (by omega)) rfl ?_
      refine j_seal b1 ?_
      intro w4 u4
      have g4_a := (u4.2.1 _ (Ne.symm b3)).trans g3_a
      have g4_m := u4.1
      have hf4 := u4.2.2.2 hf3
      refine j_aload_n dJx4a65c_add_7a177_57 rfl rfl ?_
      refine j_iload_n dJx4a65c_add_7a177_58 rfl ?_
      refine j_iconst (v := 1) dJx4a65c_add_7a177_59 (by decide) ?_
      refine j_iadd dJx4a65c_add_7a177_60 ?_
      refine j_top (congrArg Value.int (nI_1 0)) ?_
      refine j_put (w' := _) dJx4a65c_add_7a177_61 fJx4a65c_48 tJx4a65c_2 g4_a ⟨rfl, rfl⟩ rfl ?_
      refine j_seal h.1 ?_
      intro w5 u5
      have g5_m := (u5.2.1 _ b3).trans g4_m
      have g5_a := u5.1
      have hf5 := u5.2.2.2 hf4
      refine j_vret dJx4a65c_add_7a177_64 rfl ?_ (Nat.le_of_ble_eq_true rfl) (by show _ ≤ 2 * M + 10; omega)
      exact ⟨rfl, (((((u1.fw h.1 h.2.1).tr fw2).tr (u3.fw b1 b2)).tr (u4.fw b1 b2)).tr (u5.fw h.1 h.2.1)), _, z_li.of h.1 h.2.1 (z_irI h.2.2.1 hx.ir) ⟨b1, b2, b3, by rw [z_lenI hj]; exact g5_a, g5_m, by rw [z_lenI hj]; omega, b7, z_conI b7 hj hl9 b8⟩⟩
  · obtain ⟨a1, a2, a3, ga, gm, a6, a7, a8⟩ := id hA
    refine z_body hl (by decide) rfl (Nat.le_of_ble_eq_true rfl) ?_
    show z_J G l mJx4a65c_add_7a177 _ 0 [(0, _), (1, _), (2, _)] [] _ 0 0
    refine j_aload_n dJx4a65c_add_7a177_0 rfl rfl ?_
    refine j_iload_n dJx4a65c_add_7a177_1 rfl ?_
    refine j_callV (q := (RJx4a65c, TJx4a65c, 3)) dJx4a65c_add_7a177_2 kJx4a65c_rangeCheckForAdd_d00df lJx4a65c_135 inJx4a65c_rangeCheckForAdd_d00df seJx4a65c_rangeCheckForAdd_d00df ga rfl (cl_rck hl w _ _ _ _ j h hj) (Nat.le_of_ble_eq_true rfl) ⟨(Nat.le_of_ble_eq_true rfl), (Nat.le_of_ble_eq_true rfl)⟩ rfl (Nat.le_of_ble_eq_true rfl) rfl rfl (fun _ _ h => h.elim) ?_
    rintro _ _ ⟨rfl, hw13⟩
    refine j_w w hw13 ?_
    refine j_aload_n dJx4a65c_add_7a177_5 rfl rfl ?_
    refine j_dup dJx4a65c_add_7a177_6 rfl ?_
    refine j_getf dJx4a65c_add_7a177_7 fJx4a65c_63 ga rfl ?_
    refine j_iconst (v := 1) dJx4a65c_add_7a177_10 (by decide) ?_
    refine j_iadd dJx4a65c_add_7a177_11 ?_
    refine j_put (w' := _) dJx4a65c_add_7a177_12 fJx4a65c_63 tJx4a65c_0 ga ⟨rfl, rfl⟩ rfl ?_
    refine j_seal h.1 ?_
    intro w1 u1
    have g1_m := (u1.2.1 _ a3).trans gm
    have g1_a := u1.1
    have hf1 := u1.2.2.2 hf
    have hl1 := h.md ga u1
    refine j_aload_n dJx4a65c_add_7a177_15 rfl rfl ?_
    refine j_getf dJx4a65c_add_7a177_16 fJx4a65c_48 g1_a rfl ?_
    refine j_dup dJx4a65c_add_7a177_19 rfl ?_
    refine j_istore_n (lo' := [(3, _), (0, _), (1, _), (2, _)]) dJx4a65c_add_7a177_20 (by decide) rfl ?_
    refine j_aload_n dJx4a65c_add_7a177_21 rfl rfl ?_
    refine j_getf dJx4a65c_add_7a177_22 fJx4a65c_9 g1_a rfl ?_
    refine j_dup dJx4a65c_add_7a177_25 rfl ?_
    refine j_astore (lo' := [(4, _), (3, _), (0, _), (1, _), (2, _)]) dJx4a65c_add_7a177_26 rfl (by decide) rfl ?_
    refine j_alen dJx4a65c_add_7a177_28 g1_m rfl rfl ?_
    refine j_icmp_ne (tgt := 38) dJx4a65c_add_7a177_29 (by decide) (fun c_29_28 => ?_) (fun c_29_28 => ?_)
    · have hlt : L.length < n := by rcases Nat.lt_or_eq_of_le a6 with h1 | h1; exact h1; exact absurd (congrArg nI h1) c_29_28
      refine j_aload dJx4a65c_add_7a177_38 rfl rfl ?_
      refine j_iload_n dJx4a65c_add_7a177_40 rfl ?_
      refine j_aload dJx4a65c_add_7a177_41 rfl rfl ?_
      refine j_iload_n dJx4a65c_add_7a177_43 rfl ?_
      refine j_iconst (v := 1) dJx4a65c_add_7a177_44 (by decide) ?_
      refine j_iadd dJx4a65c_add_7a177_45 ?_
      refine j_top (congrArg Value.int (nI_1 j)) ?_
      refine j_iload_n dJx4a65c_add_7a177_46 rfl ?_
      refine j_iload_n dJx4a65c_add_7a177_47 rfl ?_
      refine j_isub dJx4a65c_add_7a177_48 ?_
      refine j_top (congrArg Value.int (pk_sub (a := L.length) (b := j) hj)) ?_
      have hcp : ∀ i, i < (nI (L.length - j)).toNatClampNeg → (∃ x, f ((nI (j)).toNatClampNeg + i) = .int x ∧ fits (.object "java/lang/Object") (.int x) = true) ∨ (f ((nI (j)).toNatClampNeg + i) = .null ∧ (FieldType.object "java/lang/Object").isReference = true) ∨ ∃ C E, FieldType.object "java/lang/Object" = .object E ∧ z_is w1 (f ((nI (j)).toNatClampNeg + i)) C ∧ Cond.castable C E ∈ z_nst := fun i hi => by
        rw [z_cla (n := L.length - j) (by omega)] at hi
        rw [z_cla (n := j) (by omega)]
        rcases z_elK (z_elM hel (u1.fw h.1 h.2.1)) (⟨a1, a2, a3, g1_a, g1_m, a6, a7, a8⟩ : z_liA w1 ρ a _ L m n f) (j := j + i) (by omega) with h1 | ⟨C, h1, h2⟩
        · exact Or.inr (Or.inl ⟨h1, rfl⟩)
        · exact Or.inr (Or.inr ⟨C, "java/lang/Object", rfl, h1, h2⟩)
      refine j_acopy (w' := _) dJx4a65c_add_7a177_49 lJx4a65c_112 ac_n ac_s ac_i g1_m g1_m rfl (nI_pos (by omega)) (nI_pos (by omega)) (nI_pos (by omega)) (by rw [z_cla (n := j) (by omega), z_cla (n := (L.length - j)) (by omega)]; omega) (by rw [z_cla (n := (j + 1)) (by omega), z_cla (n := (L.length - j)) (by omega)]; omega) hcp (Nat.le_of_ble_eq_true rfl) (Nat.le_of_ble_eq_true rfl) rfl ?_
      refine j_seal a1 ?_
      intro w2 u2
      have g2_a := (u2.2.1 _ (Ne.symm a3)).trans g1_a
      have g2_m := u2.1
      have hf2 := u2.2.2.2 hf1
      refine j_aload dJx4a65c_add_7a177_52 rfl rfl ?_
      refine j_iload_n dJx4a65c_add_7a177_54 rfl ?_
      refine j_aload_n dJx4a65c_add_7a177_55 rfl hx.ir ?_
      obtain ⟨C9, hD1, hD2⟩ := (hx.m ((u1.fw h.1 h.2.1).tr (u2.fw a1 a2)).2.2).2
      refine j_aastO (w' := _) dJx4a65c_add_7a177_56 g2_m rfl hD1 hD2 (vp_in_nI (by omega) (by omega)) rfl ?_
      refine j_seal a1 ?_
      intro w3 u3
      have g3_a := (u3.2.1 _ (Ne.symm a3)).trans g2_a
      have g3_m := u3.1
      have hf3 := u3.2.2.2 hf2
      refine j_aload_n dJx4a65c_add_7a177_57 rfl rfl ?_
      refine j_iload_n dJx4a65c_add_7a177_58 rfl ?_
      refine j_iconst (v := 1) dJx4a65c_add_7a177_59 (by decide) ?_
      refine j_iadd dJx4a65c_add_7a177_60 ?_
      refine j_top (congrArg Value.int (nI_1 L.length)) ?_
      refine j_put (w' := _) dJx4a65c_add_7a177_61 fJx4a65c_48 tJx4a65c_2 g3_a ⟨rfl, rfl⟩ rfl ?_
      refine j_seal h.1 ?_
      intro w4 u4
      have g4_m := (u4.2.1 _ a3).trans g3_m
      have g4_a := u4.1
      have hf4 := u4.2.2.2 hf3
      refine j_vret dJx4a65c_add_7a177_64 rfl ?_ (Nat.le_of_ble_eq_true rfl) (by show _ ≤ 2 * M + 10; omega)
      exact ⟨rfl, ((((u1.fw h.1 h.2.1).tr (u2.fw a1 a2)).tr (u3.fw a1 a2)).tr (u4.fw h.1 h.2.1)), _, z_li.of h.1 h.2.1 (z_irI h.2.2.1 hx.ir) ⟨a1, a2, a3, by rw [z_lenI hj]; exact g4_a, g4_m, by rw [z_lenI hj]; omega, a7, z_conI a7 hj (by omega) a8⟩⟩
    · have hfl : L.length = n := nI_inj c_29_28 (by omega) (by omega)
      refine j_aload_n dJx4a65c_add_7a177_32 rfl rfl ?_
      refine j_callV (q := (RJx4a65c, TJx4a65c, 3)) dJx4a65c_add_7a177_33 kJx4a65c_grow_d5877 lJx4a65c_129 inJx4a65c_grow_d5877 seJx4a65c_grow_d5877 g1_a rfl (cl_grow hl w1 ρ a _ _ M hl1 hρ hf1 hM hM2 (z_elM hel (u1.fw h.1 h.2.1)) (fun m2 n2 f2 h2 => by obtain ⟨-, -, -, h4, h5, -⟩ := h2; have e := (z_inj3 (h4.symm.trans g1_a)).2.1; cases e; have e5 := h5.symm.trans g1_m; cases e5; omega)) (Nat.le_of_ble_eq_true rfl) ⟨(Nat.le_of_ble_eq_true rfl), (by show _ ≤ 2 * M + 10; omega)⟩ rfl (Nat.le_of_ble_eq_true rfl) rfl rfl (fun _ _ h => h.elim) ?_
      rintro _ w5 ⟨m9, n9, f9, rfl, fw5, hA9, hl9⟩
      have hf5 := fw5.2.1 hf1
      obtain ⟨b1, b2, b3, gb_a, gb_m, b6, b7, b8⟩ := id hA9
      refine j_astore (lo' := [(4, _), (3, _), (0, _), (1, _), (2, _)]) dJx4a65c_add_7a177_36 rfl (by decide) rfl ?_
      refine j_aload dJx4a65c_add_7a177_38 rfl rfl ?_
      refine j_iload_n dJx4a65c_add_7a177_40 rfl ?_
      refine j_aload dJx4a65c_add_7a177_41 rfl rfl ?_
      refine j_iload_n dJx4a65c_add_7a177_43 rfl ?_
      refine j_iconst (v := 1) dJx4a65c_add_7a177_44 (by decide) ?_
      refine j_iadd dJx4a65c_add_7a177_45 ?_
      refine j_top (congrArg Value.int (nI_1 j)) ?_
      refine j_iload_n dJx4a65c_add_7a177_46 rfl ?_
      refine j_iload_n dJx4a65c_add_7a177_47 rfl ?_
      refine j_isub dJx4a65c_add_7a177_48 ?_
      refine j_top (congrArg Value.int (pk_sub (a := L.length) (b := j) hj)) ?_
      have hcp : ∀ i, i < (nI (L.length - j)).toNatClampNeg → (∃ x, f9 ((nI (j)).toNatClampNeg + i) = .int x ∧ fits (.object "java/lang/Object") (.int x) = true) ∨ (f9 ((nI (j)).toNatClampNeg + i) = .null ∧ (FieldType.object "java/lang/Object").isReference = true) ∨ ∃ C E, FieldType.object "java/lang/Object" = .object E ∧ z_is w5 (f9 ((nI (j)).toNatClampNeg + i)) C ∧ Cond.castable C E ∈ z_nst := fun i hi => by
        rw [z_cla (n := L.length - j) (by omega)] at hi
        rw [z_cla (n := j) (by omega)]
        rcases z_elK (z_elM hel ((u1.fw h.1 h.2.1).tr fw5)) hA9 (j := j + i) (by omega) with h1 | ⟨C, h1, h2⟩
        · exact Or.inr (Or.inl ⟨h1, rfl⟩)
        · exact Or.inr (Or.inr ⟨C, "java/lang/Object", rfl, h1, h2⟩)
      refine j_acopy (w' := _) dJx4a65c_add_7a177_49 lJx4a65c_112 ac_n ac_s ac_i gb_m gb_m rfl (nI_pos (by omega)) (nI_pos (by omega)) (nI_pos (by omega)) (by rw [z_cla (n := j) (by omega), z_cla (n := (L.length - j)) (by omega)]; omega) (by rw [z_cla (n := (j + 1)) (by omega), z_cla (n := (L.length - j)) (by omega)]; omega) hcp (Nat.le_of_ble_eq_true rfl) (Nat.le_of_ble_eq_true rfl) rfl ?_
      refine j_seal b1 ?_
      intro w6 u6
      have g6_a := (u6.2.1 _ (Ne.symm b3)).trans gb_a
      have g6_m := u6.1
      have hf6 := u6.2.2.2 hf5
      refine j_aload dJx4a65c_add_7a177_52 rfl rfl ?_
      refine j_iload_n dJx4a65c_add_7a177_54 rfl ?_
      refine j_aload_n dJx4a65c_add_7a177_55 rfl hx.ir ?_
      obtain ⟨C9, hD1, hD2⟩ := (hx.m (((u1.fw h.1 h.2.1).tr fw5).tr (u6.fw b1 b2)).2.2).2
      refine j_aastO (w' := _) dJx4a65c_add_7a177_56 g6_m rfl hD1 hD2 (vp_in_nI (by omega) (by omega)) rfl ?_
      refine j_seal b1 ?_
      intro w7 u7
      have g7_a := (u7.2.1 _ (Ne.symm b3)).trans g6_a
      have g7_m := u7.1
      have hf7 := u7.2.2.2 hf6
      refine j_aload_n dJx4a65c_add_7a177_57 rfl rfl ?_
      refine j_iload_n dJx4a65c_add_7a177_58 rfl ?_
      refine j_iconst (v := 1) dJx4a65c_add_7a177_59 (by decide) ?_
      refine j_iadd dJx4a65c_add_7a177_60 ?_
      refine j_top (congrArg Value.int (nI_1 L.length)) ?_
      refine j_put (w' := _) dJx4a65c_add_7a177_61 fJx4a65c_48 tJx4a65c_2 g7_a ⟨rfl, rfl⟩ rfl ?_
      refine j_seal h.1 ?_
      intro w8 u8
      have g8_m := (u8.2.1 _ b3).trans g7_m
      have g8_a := u8.1
      have hf8 := u8.2.2.2 hf7
      refine j_vret dJx4a65c_add_7a177_64 rfl ?_ (Nat.le_of_ble_eq_true rfl) (by show _ ≤ 2 * M + 10; omega)
      exact ⟨rfl, (((((u1.fw h.1 h.2.1).tr fw5).tr (u6.fw b1 b2)).tr (u7.fw b1 b2)).tr (u8.fw h.1 h.2.1)), _, z_li.of h.1 h.2.1 (z_irI h.2.2.1 hx.ir) ⟨b1, b2, b3, by rw [z_lenI hj]; exact g8_a, g8_m, by rw [z_lenI hj]; omega, b7, z_conI b7 hj hl9 b8⟩⟩
  · subst hL
    refine z_body hl (by decide) rfl (Nat.le_of_ble_eq_true rfl) ?_
    show z_J G l mJx4a65c_add_7a177 _ 0 [(0, _), (1, _), (2, _)] [] _ 0 0
    refine j_aload_n dJx4a65c_add_7a177_0 rfl rfl ?_
    refine j_iload_n dJx4a65c_add_7a177_1 rfl ?_
    refine j_callV (q := (RJx4a65c, TJx4a65c, 3)) dJx4a65c_add_7a177_2 kJx4a65c_rangeCheckForAdd_d00df lJx4a65c_135 inJx4a65c_rangeCheckForAdd_d00df seJx4a65c_rangeCheckForAdd_d00df ga rfl (cl_rck hl w _ _ _ _ j h hj) (Nat.le_of_ble_eq_true rfl) ⟨(Nat.le_of_ble_eq_true rfl), (Nat.le_of_ble_eq_true rfl)⟩ rfl (Nat.le_of_ble_eq_true rfl) rfl rfl (fun _ _ h => h.elim) ?_
    rintro _ _ ⟨rfl, hw14⟩
    refine j_w w hw14 ?_
    refine j_aload_n dJx4a65c_add_7a177_5 rfl rfl ?_
    refine j_dup dJx4a65c_add_7a177_6 rfl ?_
    refine j_getf dJx4a65c_add_7a177_7 fJx4a65c_63 ga rfl ?_
    refine j_iconst (v := 1) dJx4a65c_add_7a177_10 (by decide) ?_
    refine j_iadd dJx4a65c_add_7a177_11 ?_
    refine j_put (w' := _) dJx4a65c_add_7a177_12 fJx4a65c_63 tJx4a65c_0 ga ⟨rfl, rfl⟩ rfl ?_
    refine j_seal h.1 ?_
    intro w1 u1
    have g1_a := u1.1
    have hf1 := u1.2.2.2 hf
    have hl1 := h.md ga u1
    refine j_aload_n dJx4a65c_add_7a177_15 rfl rfl ?_
    refine j_getf dJx4a65c_add_7a177_16 fJx4a65c_48 g1_a rfl ?_
    refine j_dup dJx4a65c_add_7a177_19 rfl ?_
    refine j_istore_n (lo' := [(3, _), (0, _), (1, _), (2, _)]) dJx4a65c_add_7a177_20 (by decide) rfl ?_
    refine j_aload_n dJx4a65c_add_7a177_21 rfl rfl ?_
    refine j_getf dJx4a65c_add_7a177_22 fJx4a65c_9 g1_a rfl ?_
    refine j_dup dJx4a65c_add_7a177_25 rfl ?_
    refine j_astore (lo' := [(4, _), (3, _), (0, _), (1, _), (2, _)]) dJx4a65c_add_7a177_26 rfl (by decide) rfl ?_
    refine j_alenK (k := k) (N := 0) dJx4a65c_add_7a177_28 (fun U q h hkq => h.2.2.2.1 k q hk hkq) ?_
    refine j_icmp_ne (tgt := 38) dJx4a65c_add_7a177_29 (by decide) (fun c_29_27 => ?_) (fun c_29_27 => ?_)
    · exact absurd rfl c_29_27
    · refine j_aload_n dJx4a65c_add_7a177_32 rfl rfl ?_
      refine j_callV (q := (RJx4a65c, TJx4a65c, 3)) dJx4a65c_add_7a177_33 kJx4a65c_grow_d5877 lJx4a65c_129 inJx4a65c_grow_d5877 seJx4a65c_grow_d5877 g1_a rfl (cl_grow hl w1 ρ a _ _ M hl1 hρ hf1 hM hM2 (z_elM hel (u1.fw h.1 h.2.1)) (fun m2 n2 f2 h2 => by obtain ⟨-, -, -, h4, -⟩ := h2; have e := (z_inj3 (h4.symm.trans g1_a)).2.1; cases e)) (Nat.le_of_ble_eq_true rfl) ⟨(Nat.le_of_ble_eq_true rfl), (by show _ ≤ 2 * M + 10; omega)⟩ rfl (Nat.le_of_ble_eq_true rfl) rfl rfl (fun _ _ h => h.elim) ?_
      rintro _ w2 ⟨m9, n9, f9, rfl, fw2, hA9, hl9⟩
      have hf2 := fw2.2.1 hf1
      obtain ⟨b1, b2, b3, gb_a, gb_m, b6, b7, b8⟩ := id hA9
      refine j_astore (lo' := [(4, _), (3, _), (0, _), (1, _), (2, _)]) dJx4a65c_add_7a177_36 rfl (by decide) rfl ?_
      refine j_aload dJx4a65c_add_7a177_38 rfl rfl ?_
      refine j_iload_n dJx4a65c_add_7a177_40 rfl ?_
      refine j_aload dJx4a65c_add_7a177_41 rfl rfl ?_
      refine j_iload_n dJx4a65c_add_7a177_43 rfl ?_
      refine j_iconst (v := 1) dJx4a65c_add_7a177_44 (by decide) ?_
      refine j_iadd dJx4a65c_add_7a177_45 ?_
      refine j_top (congrArg Value.int (nI_1 j)) ?_
      refine j_iload_n dJx4a65c_add_7a177_46 rfl ?_
      refine j_iload_n dJx4a65c_add_7a177_47 rfl ?_
      refine j_isub dJx4a65c_add_7a177_48 ?_
      refine j_top (congrArg Value.int (pk_sub (a := ([] : List Value).length) (b := j) hj)) ?_
      have hcp : ∀ i, i < (nI (([] : List Value).length - j)).toNatClampNeg → (∃ x, f9 ((nI (j)).toNatClampNeg + i) = .int x ∧ fits (.object "java/lang/Object") (.int x) = true) ∨ (f9 ((nI (j)).toNatClampNeg + i) = .null ∧ (FieldType.object "java/lang/Object").isReference = true) ∨ ∃ C E, FieldType.object "java/lang/Object" = .object E ∧ z_is w2 (f9 ((nI (j)).toNatClampNeg + i)) C ∧ Cond.castable C E ∈ z_nst := fun i hi => by
        rw [z_cla (n := ([] : List Value).length - j) (by omega)] at hi
        rw [z_cla (n := j) (by omega)]
        rcases z_elK (z_elM hel ((u1.fw h.1 h.2.1).tr fw2)) hA9 (j := j + i) (by omega) with h1 | ⟨C, h1, h2⟩
        · exact Or.inr (Or.inl ⟨h1, rfl⟩)
        · exact Or.inr (Or.inr ⟨C, "java/lang/Object", rfl, h1, h2⟩)
      refine j_acopy (w' := _) dJx4a65c_add_7a177_49 lJx4a65c_112 ac_n ac_s ac_i gb_m gb_m rfl (nI_pos (by omega)) (nI_pos (by omega)) (nI_pos (by omega)) (by rw [z_cla (n := j) (by omega), z_cla (n := (([] : List Value).length - j)) (by omega)]; omega) (by rw [z_cla (n := (j + 1)) (by omega), z_cla (n := (([] : List Value).length - j)) (by omega)]; omega) hcp (Nat.le_of_ble_eq_true rfl) (Nat.le_of_ble_eq_true rfl) rfl ?_
      refine j_seal b1 ?_
      intro w3 u3
      have g3_a := (u3.2.1 _ (Ne.symm b3)).trans gb_a
      have g3_m := u3.1
      have hf3 := u3.2.2.2 hf2
      refine j_aload dJx4a65c_add_7a177_52 rfl rfl ?_
      refine j_iload_n dJx4a65c_add_7a177_54 rfl ?_
      refine j_aload_n dJx4a65c_add_7a177_55 rfl hx.ir ?_
      obtain ⟨C9, hD1, hD2⟩ := (hx.m (((u1.fw h.1 h.2.1).tr fw2).tr (u3.fw b1 b2)).2.2).2
      refine j_aastO (w' := _) dJx4a65c_add_7a177_56 g3_m rfl hD1 hD2 (vp_in_nI (by omega) (by omega)) rfl ?_
      refine j_seal b1 ?_
      intro w4 u4
      have g4_a := (u4.2.1 _ (Ne.symm b3)).trans g3_a
      have g4_m := u4.1
      have hf4 := u4.2.2.2 hf3
      refine j_aload_n dJx4a65c_add_7a177_57 rfl rfl ?_
      refine j_iload_n dJx4a65c_add_7a177_58 rfl ?_
      refine j_iconst (v := 1) dJx4a65c_add_7a177_59 (by decide) ?_
      refine j_iadd dJx4a65c_add_7a177_60 ?_
      refine j_top (congrArg Value.int (nI_1 0)) ?_
      refine j_put (w' := _) dJx4a65c_add_7a177_61 fJx4a65c_48 tJx4a65c_2 g4_a ⟨rfl, rfl⟩ rfl ?_
      refine j_seal h.1 ?_
      intro w5 u5
      have g5_m := (u5.2.1 _ b3).trans g4_m
      have g5_a := u5.1
      have hf5 := u5.2.2.2 hf4
      refine j_vret dJx4a65c_add_7a177_64 rfl ?_ (Nat.le_of_ble_eq_true rfl) (by show _ ≤ 2 * M + 10; omega)
      exact ⟨rfl, (((((u1.fw h.1 h.2.1).tr fw2).tr (u3.fw b1 b2)).tr (u4.fw b1 b2)).tr (u5.fw h.1 h.2.1)), _, z_li.of h.1 h.2.1 (z_irI h.2.2.1 hx.ir) ⟨b1, b2, b3, by rw [z_lenI hj]; exact g5_a, g5_m, by rw [z_lenI hj]; omega, b7, z_conI b7 hj hl9 b8⟩⟩
end ZLs
end ZM9
section ZM10
section ZLt
variable {G : z_G} {l : Launch}
set_option maxRecDepth 100000 in
set_option maxHeartbeats 8000000 in
theorem cl_clear (hl : l.stackTraces = false) (w : z_W) (ρ a : Nat) (mo : Int32) (L : List Value) (h : z_li w ρ a mo L) (hf : z_fn w) : z_Con G l mJx4a65c_clear_da8c8 11 0 0 w [.ref a] (fun v w9 => v = none ∧ z_fw ρ w w9 ∧ ∃ mo9, z_li w9 ρ a mo9 []) (fun _ _ => False) := by
  rcases h.2.2.2 with ⟨m, n, f, hA⟩ | ⟨k, hL, hk, ga⟩
  · obtain ⟨a1, a2, a3, ga, gm, a6, a7, a8⟩ := id hA
    clear hf
    refine z_body hl (by decide) rfl (Nat.le_of_ble_eq_true rfl) ?_
    show z_J G l mJx4a65c_clear_da8c8 _ 0 [(0, _)] [] _ 0 0
    refine j_aload_n dJx4a65c_clear_da8c8_0 rfl rfl ?_
    refine j_dup dJx4a65c_clear_da8c8_1 rfl ?_
    refine j_getf dJx4a65c_clear_da8c8_2 fJx4a65c_63 ga rfl ?_
    refine j_iconst (v := 1) dJx4a65c_clear_da8c8_5 (by decide) ?_
    refine j_iadd dJx4a65c_clear_da8c8_6 ?_
    refine j_put (w' := _) dJx4a65c_clear_da8c8_7 fJx4a65c_63 tJx4a65c_0 ga ⟨rfl, rfl⟩ rfl ?_
    refine j_seal h.1 ?_
    intro w1 u1
    have g1_m := (u1.2.1 _ a3).trans gm
    have g1_a := u1.1
    refine j_aload_n dJx4a65c_clear_da8c8_10 rfl rfl ?_
    refine j_getf dJx4a65c_clear_da8c8_11 fJx4a65c_9 g1_a rfl ?_
    refine j_astore_n (lo' := [(1, _), (0, _)]) dJx4a65c_clear_da8c8_14 rfl (by decide) rfl ?_
    refine j_aload_n dJx4a65c_clear_da8c8_15 rfl rfl ?_
    refine j_getf dJx4a65c_clear_da8c8_16 fJx4a65c_48 g1_a rfl ?_
    refine j_istore_n (lo' := [(2, _), (1, _), (0, _)]) dJx4a65c_clear_da8c8_19 (by decide) rfl ?_
    refine j_aload_n dJx4a65c_clear_da8c8_20 rfl rfl ?_
    refine j_iconst (v := 0) dJx4a65c_clear_da8c8_21 (by decide) ?_
    refine j_top (congrArg Value.int nI_o0) ?_
    refine j_dup_x1 dJx4a65c_clear_da8c8_22 rfl rfl ?_
    refine j_put (w' := _) dJx4a65c_clear_da8c8_23 fJx4a65c_48 tJx4a65c_2 g1_a ⟨rfl, rfl⟩ rfl ?_
    refine j_seal h.1 ?_
    intro w2 u2
    have g2_m := (u2.2.1 _ a3).trans g1_m
    have g2_a := u2.1
    refine j_istore_n (lo' := [(3, _), (2, _), (1, _), (0, _)]) dJx4a65c_clear_da8c8_26 (by decide) rfl ?_
    have loop27 : ∀ (n9 : Nat) (w3 : z_W) (j : Nat) (F : Nat → Value), (j ≤ L.length) → (L.length < j + n9) → (z_fw ρ w w3) → (z_g w3 a = some (.inr (4, [.int (mo + Int32.ofInt 1), .ref m, .int (nI 0)]))) → (z_g w3 m = some (.inl (3, n, F))) → z_J G l mJx4a65c_clear_da8c8 (11, 0, 0, w, (fun v w9 => v = none ∧ z_fw ρ w w9 ∧ ∃ mo9, z_li w9 ρ a mo9 []), (fun _ _ => False)) 27 [(0, .ref a), (1, .ref m), (2, .int (nI L.length)), (3, .int (nI j))] [] w3 0 0 := by
      intro n9
      induction n9 with
      | zero => intro w3 j F k1 k0 k2 k3 k4; exact absurd k0 (by omega)
      | succ n9 ih =>
        intro w3 j F k1 k0 k2 k3 k4
        refine j_iload_n dJx4a65c_clear_da8c8_27 rfl ?_
        refine j_iload_n dJx4a65c_clear_da8c8_28 rfl ?_
        refine j_icmp_ge (tgt := 42) dJx4a65c_clear_da8c8_29 (by decide) (fun c_29_36 => ?_) (fun c_29_36 => ?_)
        · refine j_vret dJx4a65c_clear_da8c8_42 rfl ?_ (Nat.le_of_ble_eq_true rfl) (Nat.le_of_ble_eq_true rfl)
          exact ⟨rfl, k2, _, z_li.of h.1 h.2.1 (fun v hv => by cases hv) ⟨a1, a2, a3, k3, k4, Nat.zero_le _, a7, fun q v hq => by simp at hq⟩⟩
        · have hj : j < L.length := Nat.not_le.mp (fun z => c_29_36 ((nI_leI (by omega) (by omega)).mpr z))
          refine j_aload_n dJx4a65c_clear_da8c8_32 rfl rfl ?_
          refine j_iload_n dJx4a65c_clear_da8c8_33 rfl ?_
          refine j_null dJx4a65c_clear_da8c8_34 ?_
          refine j_aastN (w' := _) dJx4a65c_clear_da8c8_35 k4 rfl (vp_in_nI (by omega) (by omega)) rfl ?_
          refine j_seal a1 ?_
          intro w4 u4
          have g4_a := (u4.2.1 _ (Ne.symm a3)).trans k3
          have g4_m := u4.1
          refine j_iinc (lo' := [(3, _), (0, _), (1, _), (2, _)]) dJx4a65c_clear_da8c8_36 rfl (z_inc _) (by decide) rfl ?_
          refine j_goto (tgt := 27) dJx4a65c_clear_da8c8_39 (by decide) ?_
          exact j_lo2 (ih w4 (j + 1) _ (by omega) (by omega) (k2.tr (u4.fw a1 a2)) g4_a g4_m) (z_q1 rfl (z_q1 rfl (z_q1 rfl (z_q1 rfl z_q0))))
    exact j_lo2 (loop27 (L.length + 1) w2 0 f (Nat.zero_le _) (by omega) ((u1.fw h.1 h.2.1).tr (u2.fw h.1 h.2.1)) g2_a g2_m) (z_q1 rfl (z_q1 rfl (z_q1 rfl (z_q1 rfl z_q0))))
  · subst hL
    clear hf
    refine z_body hl (by decide) rfl (Nat.le_of_ble_eq_true rfl) ?_
    show z_J G l mJx4a65c_clear_da8c8 _ 0 [(0, _)] [] _ 0 0
    refine j_aload_n dJx4a65c_clear_da8c8_0 rfl rfl ?_
    refine j_dup dJx4a65c_clear_da8c8_1 rfl ?_
    refine j_getf dJx4a65c_clear_da8c8_2 fJx4a65c_63 ga rfl ?_
    refine j_iconst (v := 1) dJx4a65c_clear_da8c8_5 (by decide) ?_
    refine j_iadd dJx4a65c_clear_da8c8_6 ?_
    refine j_put (w' := _) dJx4a65c_clear_da8c8_7 fJx4a65c_63 tJx4a65c_0 ga ⟨rfl, rfl⟩ rfl ?_
    refine j_seal h.1 ?_
    intro w1 u1
    have g1_a := u1.1
    refine j_aload_n dJx4a65c_clear_da8c8_10 rfl rfl ?_
    refine j_getf dJx4a65c_clear_da8c8_11 fJx4a65c_9 g1_a rfl ?_
    refine j_astore_n (lo' := [(1, _), (0, _)]) dJx4a65c_clear_da8c8_14 rfl (by decide) rfl ?_
    refine j_aload_n dJx4a65c_clear_da8c8_15 rfl rfl ?_
    refine j_getf dJx4a65c_clear_da8c8_16 fJx4a65c_48 g1_a rfl ?_
    refine j_istore_n (lo' := [(2, _), (1, _), (0, _)]) dJx4a65c_clear_da8c8_19 (by decide) rfl ?_
    refine j_aload_n dJx4a65c_clear_da8c8_20 rfl rfl ?_
    refine j_iconst (v := 0) dJx4a65c_clear_da8c8_21 (by decide) ?_
    refine j_dup_x1 dJx4a65c_clear_da8c8_22 rfl rfl ?_
    refine j_put (w' := _) dJx4a65c_clear_da8c8_23 fJx4a65c_48 tJx4a65c_2 g1_a ⟨rfl, rfl⟩ rfl ?_
    refine j_seal h.1 ?_
    intro w2 u2
    have g2_a := u2.1
    refine j_istore_n (lo' := [(3, _), (2, _), (1, _), (0, _)]) dJx4a65c_clear_da8c8_26 (by decide) rfl ?_
    refine j_iload_n dJx4a65c_clear_da8c8_27 rfl ?_
    refine j_iload_n dJx4a65c_clear_da8c8_28 rfl ?_
    refine j_icmp_ge (tgt := 42) dJx4a65c_clear_da8c8_29 (by decide) (fun c_29_27 => ?_) (fun c_29_27 => ?_)
    · refine j_vret dJx4a65c_clear_da8c8_42 rfl ?_ (Nat.le_of_ble_eq_true rfl) (Nat.le_of_ble_eq_true rfl)
      exact ⟨rfl, ((u1.fw h.1 h.2.1).tr (u2.fw h.1 h.2.1)), _, h.1, h.2.1, (fun v hv => by cases hv), Or.inr ⟨k, rfl, hk, g2_a⟩⟩
    · exact absurd (by decide) c_29_27
set_option maxRecDepth 100000 in
set_option maxHeartbeats 8000000 in
theorem cl_ALi (hl : l.stackTraces = false) (w : z_W) (ρ a : Nat) (h1 : 1000 ≤ a) (h2 : a % 64 = ρ) (ga : z_g w a = some (.inr (4, [.int 0, .null, .int 0]))) : z_Con G l mJxc12de_init_da8c8 11 0 0 w [.ref a] (fun v w9 => v = none ∧ z_fw ρ w w9 ∧ (∀ k, k ≠ a → z_g w9 k = z_g w k) ∧ z_g w9 a = some (.inr (4, [.int 0, .null, .int 0]))) (fun _ _ => False) := by
  refine z_body hl (by decide) rfl (Nat.le_of_ble_eq_true rfl) ?_
  show z_J G l mJxc12de_init_da8c8 _ 0 [(0, _)] [] _ 0 0
  refine j_aload_n dJxc12de_init_da8c8_0 rfl rfl ?_
  refine j_callI dJxc12de_init_da8c8_1 kJxa1e45_init_da8c8 rfl lJxc12de_1 inJxa1e45_init_da8c8 rfl (c_Jxa1e45_init_da8c8 hl w _) (Nat.le_of_ble_eq_true rfl) ⟨(Nat.le_of_ble_eq_true rfl), (Nat.le_of_ble_eq_true rfl)⟩ rfl (Nat.le_of_ble_eq_true rfl) rfl rfl (fun _ _ h => h.elim) ?_
  rintro _ _ ⟨rfl, hw15⟩
  refine j_w w hw15 ?_
  refine j_aload_n dJxc12de_init_da8c8_4 rfl rfl ?_
  refine j_iconst (v := 0) dJxc12de_init_da8c8_5 (by decide) ?_
  refine j_put (w' := _) dJxc12de_init_da8c8_6 fJxc12de_7 tJx4a65c_0 ga ⟨rfl, rfl⟩ rfl ?_
  refine j_seal h1 ?_
  intro w1 u1
  have g1_a := u1.1
  refine j_vret dJxc12de_init_da8c8_9 rfl ?_ (Nat.le_of_ble_eq_true rfl) (Nat.le_of_ble_eq_true rfl)
  exact ⟨rfl, (u1.fw h1 h2), u1.2.1, g1_a⟩
set_option maxRecDepth 100000 in
set_option maxHeartbeats 8000000 in
theorem cl_init (hl : l.stackTraces = false) (w : z_W) (ρ a : Nat) (h1 : 1000 ≤ a) (h2 : a % 64 = ρ) (ga : z_g w a = some (.inr (4, [.int 0, .null, .int 0]))) : z_Con G l mJx4a65c_init_da8c8 12 0 0 w [.ref a] (fun v w9 => v = none ∧ z_fw ρ w w9 ∧ (∀ k, k ≠ a → z_g w9 k = z_g w k) ∧ z_li w9 ρ a 0 []) (fun _ _ => False) := by
  refine z_body hl (by decide) rfl (Nat.le_of_ble_eq_true rfl) ?_
  show z_J G l mJx4a65c_init_da8c8 _ 0 [(0, _)] [] _ 0 0
  refine j_aload_n dJx4a65c_init_da8c8_0 rfl rfl ?_
  refine j_callI dJx4a65c_init_da8c8_1 kJxc12de_init_da8c8 rfl lJx4a65c_1 inJxc12de_init_da8c8 rfl (cl_ALi hl w ρ a h1 h2 ga) (Nat.le_of_ble_eq_true rfl) ⟨(Nat.le_of_ble_eq_true rfl), (Nat.le_of_ble_eq_true rfl)⟩ rfl (Nat.le_of_ble_eq_true rfl) rfl rfl (fun _ _ h => h.elim) ?_
  rintro _ w1 ⟨rfl, fw1, hk1, gz1⟩
  refine j_aload_n dJx4a65c_init_da8c8_4 rfl rfl ?_
  refine j_gets dJx4a65c_init_da8c8_5 (List.mem_of_getElem? (i := 2) rfl) rfl (z_w 1353 ((lwg_6 108).trans rfl) (by decide +kernel)) ?_
  refine j_put (w' := _) dJx4a65c_init_da8c8_8 fJx4a65c_9 tJx4a65c_1 gz1 (Or.inr ⟨_, rfl⟩) rfl ?_
  refine j_seal h1 ?_
  intro w2 u2
  have g2_a := u2.1
  refine j_vret dJx4a65c_init_da8c8_11 rfl ?_ (Nat.le_of_ble_eq_true rfl) (Nat.le_of_ble_eq_true rfl)
  exact ⟨rfl, (fw1.tr (u2.fw h1 h2)), fun k hk => (u2.2.1 k hk).trans (hk1 k hk), h1, h2, fun v hv => (by cases hv), Or.inr ⟨0, rfl, by decide, g2_a⟩⟩
set_option maxRecDepth 100000 in
set_option maxHeartbeats 8000000 in
theorem cl_itI (hl : l.stackTraces = false) (w : z_W) (γ ρ i a : Nat) (mo : Int32) (L : List Value) (h : z_li w ρ a mo L) (h1 : 1000 ≤ i) (h2 : i % 64 = γ) (hne : a ≠ i) (gi : z_g w i = some (.inr (3, [.int 0, .int 0, .int 0, .null]))) : z_Con G l mJx35411_init_45d68 11 0 0 w [.ref i, .ref a] (fun v w9 => v = none ∧ z_fw γ w w9 ∧ z_g w9 i = some (.inr (3, [.int (nI 0), .int (Int32.ofInt (-1)), .int mo, .ref a]))) (fun _ _ => False) := by
  obtain ⟨v0, hv0, ga⟩ := h.cell
  refine z_body hl (by decide) rfl (Nat.le_of_ble_eq_true rfl) ?_
  show z_J G l mJx35411_init_45d68 _ 0 [(0, _), (1, _)] [] _ 0 0
  refine j_aload_n dJx35411_init_45d68_0 rfl rfl ?_
  refine j_aload_n dJx35411_init_45d68_1 rfl rfl ?_
  refine j_putF (w' := _) dJx35411_init_45d68_2 fJx35411_1 tJx35411_3 rfl (z_dc rfl rfl (z_w 1754 ((lwg_8 29).trans rfl) (by decide +kernel))) gi (Or.inl ⟨_, rfl⟩) rfl ?_
  refine j_seal h1 ?_
  intro w1 u1
  have g1_a := (u1.2.1 _ hne).trans ga
  have g1_i := u1.1
  refine j_aload_n dJx35411_init_45d68_5 rfl rfl ?_
  refine j_objI dJx35411_init_45d68_6 oJx35411_7 z_oi1 z_oi2 (Nat.le_of_ble_eq_true rfl) (Nat.le_of_ble_eq_true rfl) ?_
  refine j_aload_n dJx35411_init_45d68_9 rfl rfl ?_
  refine j_iconst (v := (-1)) dJx35411_init_45d68_10 (by decide) ?_
  refine j_put (w' := _) dJx35411_init_45d68_11 fJx35411_13 tJx35411_1 g1_i ⟨rfl, rfl⟩ rfl ?_
  refine j_seal h1 ?_
  intro w2 u2
  have g2_a := (u2.2.1 _ hne).trans g1_a
  have g2_i := u2.1
  refine j_aload_n dJx35411_init_45d68_14 rfl rfl ?_
  refine j_aload_n dJx35411_init_45d68_15 rfl rfl ?_
  refine j_getf dJx35411_init_45d68_16 fJx35411_1 g2_i rfl ?_
  refine j_getf dJx35411_init_45d68_19 fJx35411_17 g2_a rfl ?_
  refine j_put (w' := _) dJx35411_init_45d68_22 fJx35411_22 tJx35411_2 g2_i ⟨rfl, rfl⟩ rfl ?_
  refine j_seal h1 ?_
  intro w3 u3
  have g3_a := (u3.2.1 _ hne).trans g2_a
  have g3_i := u3.1
  refine j_vret dJx35411_init_45d68_25 rfl ?_ (Nat.le_of_ble_eq_true rfl) (Nat.le_of_ble_eq_true rfl)
  exact ⟨rfl, (((u1.fw h1 h2).tr (u2.fw h1 h2)).tr (u3.fw h1 h2)), g3_i⟩
set_option maxRecDepth 100000 in
set_option maxHeartbeats 8000000 in
theorem cl_iter (hl : l.stackTraces = false) (w : z_W) (γ ρ a : Nat) (mo : Int32) (L : List Value) (h : z_li w ρ a mo L) (hγ : γ < 64) (hne : ρ ≠ γ) (hf : z_fn w) : z_Con G l mJx4a65c_iterator_32c93 12 1 4 w [.ref a] (fun v w9 => ∃ i : Nat, v = some (.ref i) ∧ z_fw γ w w9 ∧ 1000 ≤ i ∧ i % 64 = γ ∧ z_g w i = none ∧ z_it w9 i a mo 0) (fun _ _ => False) := by
  obtain ⟨v0, hv0, ga⟩ := h.cell
  refine z_body hl (by decide) rfl (Nat.le_of_ble_eq_true rfl) ?_
  show z_J G l mJx4a65c_iterator_32c93 _ 0 [(0, _)] [] _ 0 0
  obtain ⟨x1, hx1a, hx1b, hx1c⟩ := z_fresh (γ) hγ hf
  have n_a_x1 := z_neF hx1c ga
  refine j_new (w' := _) (n := x1) dJx4a65c_iterator_32c93_0 nJx4a65c_267 rfl (z_alW hx1c hx1a) (Nat.le_of_ble_eq_true rfl) (Nat.le_of_ble_eq_true rfl) ?_
  refine j_seal hx1a ?_
  intro w1 u1
  have g1_a := (u1.2.1 _ n_a_x1).trans ga
  have g1_x1 := u1.1
  have hf1 := u1.2.2.2 hf
  refine j_dup dJx4a65c_iterator_32c93_3 rfl ?_
  refine j_aload_n dJx4a65c_iterator_32c93_4 rfl rfl ?_
  refine j_callI dJx4a65c_iterator_32c93_5 kJx35411_init_45d68 rfl lJx4a65c_269 inJx35411_init_45d68 rfl (cl_itI hl w1 γ ρ x1 a mo L (h.fw (u1.fw hx1a hx1b) hne) hx1a hx1b n_a_x1 g1_x1) (Nat.le_of_ble_eq_true rfl) ⟨(Nat.le_of_ble_eq_true rfl), (Nat.le_of_ble_eq_true rfl)⟩ rfl (Nat.le_of_ble_eq_true rfl) rfl rfl (fun _ _ h => h.elim) ?_
  rintro _ w2 ⟨rfl, fw2, gz2⟩
  have hf2 := fw2.2.1 hf1
  refine j_aret dJx4a65c_iterator_32c93_8 rfl (Or.inl ⟨_, rfl⟩) rfl ?_ (Nat.le_of_ble_eq_true rfl) (Nat.le_of_ble_eq_true rfl)
  exact ⟨x1, rfl, ((u1.fw hx1a hx1b).tr fw2), hx1a, hx1b, hx1c, _, gz2⟩
set_option maxRecDepth 100000 in
set_option maxHeartbeats 8000000 in
theorem cl_hasN (hl : l.stackTraces = false) (w : z_W) (i ρ a k : Nat) (mo : Int32) (L : List Value) (h : z_li w ρ a mo L) (hi : z_it w i a mo k) (hk : k ≤ L.length) : z_Con G l mJx35411_hasNext_aae02 10 0 0 w [.ref i] (fun v w9 => (∃ x : Int32, v = some (.int x) ∧ (x = 0 → k = L.length) ∧ (¬ x = 0 → k < L.length)) ∧ w9 = w) (fun _ _ => False) := by
  obtain ⟨v0, hv0, ga⟩ := h.cell
  obtain ⟨la, gi⟩ := hi
  have hlen := h.len
  refine z_body hl (by decide) rfl (Nat.le_of_ble_eq_true rfl) ?_
  show z_J G l mJx35411_hasNext_aae02 _ 0 [(0, _)] [] _ 0 0
  refine j_aload_n dJx35411_hasNext_aae02_0 rfl rfl ?_
  refine j_getf dJx35411_hasNext_aae02_1 fJx35411_25 gi rfl ?_
  refine j_aload_n dJx35411_hasNext_aae02_4 rfl rfl ?_
  refine j_getf dJx35411_hasNext_aae02_5 fJx35411_1 gi rfl ?_
  refine j_getf dJx35411_hasNext_aae02_8 fJx35411_28 ga rfl ?_
  refine j_icmp_eq (tgt := 18) dJx35411_hasNext_aae02_11 (by decide) (fun c_11_7 => ?_) (fun c_11_7 => ?_)
  · have he : k = L.length := nI_inj c_11_7 (by omega) (by omega)
    refine j_iconst (v := 0) dJx35411_hasNext_aae02_18 (by decide) ?_
    refine j_iret dJx35411_hasNext_aae02_19 rfl rfl ?_ (Nat.le_of_ble_eq_true rfl) (Nat.le_of_ble_eq_true rfl)
    exact ⟨⟨_, rfl, fun _ => he, fun z => absurd rfl z⟩, rfl⟩
  · have he : k < L.length := by rcases Nat.lt_or_eq_of_le hk with z | z; exact z; exact absurd (congrArg nI z) c_11_7
    refine j_iconst (v := 1) dJx35411_hasNext_aae02_14 (by decide) ?_
    refine j_goto (tgt := 19) dJx35411_hasNext_aae02_15 (by decide) ?_
    refine j_iret dJx35411_hasNext_aae02_19 rfl rfl ?_ (Nat.le_of_ble_eq_true rfl) (Nat.le_of_ble_eq_true rfl)
    exact ⟨⟨_, rfl, fun z => absurd z (by decide), fun _ => he⟩, rfl⟩
set_option maxRecDepth 100000 in
set_option maxHeartbeats 8000000 in
theorem cl_chkC (hl : l.stackTraces = false) (w : z_W) (i ρ a k : Nat) (mo : Int32) (L : List Value) (h : z_li w ρ a mo L) (hi : z_it w i a mo k) : z_Con G l mJx35411_checkForComodification_da8c8 10 0 0 w [.ref i] (fun v w9 => v = none ∧ w9 = w) (fun _ _ => False) := by
  obtain ⟨v0, hv0, ga⟩ := h.cell
  obtain ⟨la, gi⟩ := hi
  have hlen := h.len
  refine z_body hl (by decide) rfl (Nat.le_of_ble_eq_true rfl) ?_
  show z_J G l mJx35411_checkForComodification_da8c8 _ 0 [(0, _)] [] _ 0 0
  refine j_aload_n dJx35411_checkForComodification_da8c8_0 rfl rfl ?_
  refine j_getf dJx35411_checkForComodification_da8c8_1 fJx35411_1 gi rfl ?_
  refine j_getf dJx35411_checkForComodification_da8c8_4 fJx35411_17 ga rfl ?_
  refine j_aload_n dJx35411_checkForComodification_da8c8_7 rfl rfl ?_
  refine j_getf dJx35411_checkForComodification_da8c8_8 fJx35411_22 gi rfl ?_
  refine j_icmp_eq (tgt := 22) dJx35411_checkForComodification_da8c8_11 (by decide) (fun c_11_7 => ?_) (fun c_11_7 => ?_)
  · refine j_vret dJx35411_checkForComodification_da8c8_22 rfl ?_ (Nat.le_of_ble_eq_true rfl) (Nat.le_of_ble_eq_true rfl)
    exact ⟨rfl, rfl⟩
  · exact absurd rfl c_11_7
set_option maxRecDepth 100000 in
set_option maxHeartbeats 8000000 in
theorem cl_next (hl : l.stackTraces = false) (w : z_W) (γ i ρ a k : Nat) (mo : Int32) (L : List Value) (v0 : Value) (h : z_li w ρ a mo L) (hi : z_it w i a mo k) (hj : L[k]? = some v0) (h1 : 1000 ≤ i) (h2 : i % 64 = γ) (hne : ρ ≠ γ) : z_Con G l mJx35411_next_0502b 12 0 0 w [.ref i] (fun v w9 => v = some v0 ∧ z_fw γ w w9 ∧ z_it w9 i a mo (k + 1)) (fun _ _ => False) := by
  obtain ⟨m, n, f, a1, a2, a3, ga, gm, a6, a7, a8⟩ := h.one hj
  have h3 := h.2.1
  have hjl : k < L.length := (List.getElem?_eq_some_iff.mp hj).1
  obtain ⟨la, gi⟩ := id hi
  refine z_body hl (by decide) rfl (Nat.le_of_ble_eq_true rfl) ?_
  show z_J G l mJx35411_next_0502b _ 0 [(0, _)] [] _ 0 0
  refine j_aload_n dJx35411_next_0502b_0 rfl rfl ?_
  refine j_callV (q := (RJx35411, TJx35411, 4)) dJx35411_next_0502b_1 kJx35411_checkForComodification_da8c8 lJx35411_31 inJx35411_checkForComodification_da8c8 seJx35411_checkForComodification_da8c8 gi rfl (cl_chkC hl w i ρ a k mo L h hi) (Nat.le_of_ble_eq_true rfl) ⟨(Nat.le_of_ble_eq_true rfl), (Nat.le_of_ble_eq_true rfl)⟩ rfl (Nat.le_of_ble_eq_true rfl) rfl rfl (fun _ _ h => h.elim) ?_
  rintro _ _ ⟨rfl, hw16⟩
  refine j_w w hw16 ?_
  refine j_aload_n dJx35411_next_0502b_4 rfl rfl ?_
  refine j_getf dJx35411_next_0502b_5 fJx35411_25 gi rfl ?_
  refine j_istore_n (lo' := [(1, _), (0, _)]) dJx35411_next_0502b_8 (by decide) rfl ?_
  refine j_iload_n dJx35411_next_0502b_9 rfl ?_
  refine j_aload_n dJx35411_next_0502b_10 rfl rfl ?_
  refine j_getf dJx35411_next_0502b_11 fJx35411_1 gi rfl ?_
  refine j_getf dJx35411_next_0502b_14 fJx35411_28 ga rfl ?_
  refine j_icmp_lt (tgt := 28) dJx35411_next_0502b_17 (by decide) (fun c_17_13 => ?_) (fun c_17_13 => ?_)
  · refine j_aload_n dJx35411_next_0502b_28 rfl rfl ?_
    refine j_getf dJx35411_next_0502b_29 fJx35411_1 gi rfl ?_
    refine j_getf dJx35411_next_0502b_32 fJx35411_37 ga rfl ?_
    refine j_astore_n (lo' := [(2, _), (1, _), (0, _)]) dJx35411_next_0502b_35 rfl (by decide) rfl ?_
    refine j_iload_n dJx35411_next_0502b_36 rfl ?_
    refine j_aload_n dJx35411_next_0502b_37 rfl rfl ?_
    refine j_alen dJx35411_next_0502b_38 gm rfl rfl ?_
    refine j_icmp_lt (tgt := 50) dJx35411_next_0502b_39 (by decide) (fun c_39_21 => ?_) (fun c_39_21 => ?_)
    · refine j_aload_n dJx35411_next_0502b_50 rfl rfl ?_
      refine j_iload_n dJx35411_next_0502b_51 rfl ?_
      refine j_iconst (v := 1) dJx35411_next_0502b_52 (by decide) ?_
      refine j_iadd dJx35411_next_0502b_53 ?_
      refine j_top (congrArg Value.int (nI_1 k)) ?_
      refine j_put (w' := _) dJx35411_next_0502b_54 fJx35411_25 tJx35411_0 gi ⟨rfl, rfl⟩ rfl ?_
      refine j_seal h1 ?_
      intro w1 u1
      have g1_a := (u1.2.1 _ (by omega)).trans ga
      have g1_m := (u1.2.1 _ (by omega)).trans gm
      have g1_i := u1.1
      refine j_aload_n dJx35411_next_0502b_57 rfl rfl ?_
      refine j_aload_n dJx35411_next_0502b_58 rfl rfl ?_
      refine j_iload_n dJx35411_next_0502b_59 rfl ?_
      refine j_dup_x1 dJx35411_next_0502b_60 rfl rfl ?_
      refine j_put (w' := _) dJx35411_next_0502b_61 fJx35411_13 tJx35411_1 g1_i ⟨rfl, rfl⟩ rfl ?_
      refine j_seal h1 ?_
      intro w2 u2
      have g2_a := (u2.2.1 _ (by omega)).trans g1_a
      have g2_m := (u2.2.1 _ (by omega)).trans g1_m
      have g2_i := u2.1
      refine j_aald dJx35411_next_0502b_64 g2_m rfl rfl (vp_in_nI (by omega) (by omega)) (show f (nI k).toNatClampNeg = v0 by rw [z_cla (by omega)]; exact a8 k v0 hj) ?_
      refine j_aret dJx35411_next_0502b_65 rfl (Or.inl ⟨_, rfl⟩) (h.ir hj) ?_ (Nat.le_of_ble_eq_true rfl) (Nat.le_of_ble_eq_true rfl)
      exact ⟨rfl, ((u1.fw h1 h2).tr (u2.fw h1 h2)), _, g2_i⟩
    · exact absurd (nI_lt (show k < n by omega) (by omega)) c_39_21
  · exact absurd (nI_lt hjl (by omega)) c_17_13
set_option maxRecDepth 100000 in
set_option maxHeartbeats 8000000 in
theorem cl_toA (hl : l.stackTraces = false) (w : z_W) (ρ σ a M : Nat) (mo : Int32) (L : List Value) (h : z_li w σ a mo L) (hρ : ρ < 64) (hf : z_fn w) (hM : L.length ≤ M) (hM2 : M ≤ 1000) (hel : ∀ v ∈ L, z_el σ w v) : z_Con G l mJx4a65c_toArray_d5877 14 1 M w [.ref a] (fun v w9 => ∃ (m9 : Nat) (g : Nat → Value), v = some (.ref m9) ∧ z_fw ρ w w9 ∧ 1000 ≤ m9 ∧ m9 % 64 = ρ ∧ (∀ k e, z_g w k = some e → k ≠ m9) ∧ z_g w9 m9 = some (.inl (3, L.length, g)) ∧ (∀ k e, z_g w k = some e → z_g w9 k = some e) ∧ ∀ (j : Nat) (v : Value), L[j]? = some v → g j = v) (fun _ _ => False) := by
  rcases h.2.2.2 with ⟨m, n, f, hA⟩ | ⟨k, hL, hk, ga⟩
  · obtain ⟨a1, a2, a3, ga, gm, a6, a7, a8⟩ := id hA
    refine z_body hl (by decide) rfl (Nat.le_of_ble_eq_true rfl) ?_
    show z_J G l mJx4a65c_toArray_d5877 _ 0 [(0, _)] [] _ 0 0
    refine j_aload_n dJx4a65c_toArray_d5877_0 rfl rfl ?_
    refine j_getf dJx4a65c_toArray_d5877_1 fJx4a65c_9 ga rfl ?_
    refine j_aload_n dJx4a65c_toArray_d5877_4 rfl rfl ?_
    refine j_getf dJx4a65c_toArray_d5877_5 fJx4a65c_48 ga rfl ?_
    refine j_callS dJx4a65c_toArray_d5877_8 kJ7_copyOf_1904c lJx4a65c_66 stJ7_copyOf_1904c (cl_cpB hl w ρ m n L.length f hρ hf gm (by omega) (by omega) (fun j _ hj => z_elK hel hA hj)) (Nat.le_of_ble_eq_true rfl) ⟨(Nat.le_of_ble_eq_true rfl), (by show _ ≤ M; omega)⟩ rfl (Nat.le_of_ble_eq_true rfl) rfl rfl (fun _ _ h => h.elim) ?_
    rintro _ w1 ⟨m9, g9, rfl, fw1, c1, c2, c3, c4, c5, c6⟩
    have hf1 := fw1.2.1 hf
    refine j_aret dJx4a65c_toArray_d5877_11 rfl (Or.inr ⟨_, rfl⟩) rfl ?_ (Nat.le_of_ble_eq_true rfl) (by show _ ≤ M; omega)
    exact ⟨m9, g9, rfl, fw1, c1, c2, c3, c4, c5, fun j v hj => by have hjl := (List.getElem?_eq_some_iff.mp hj).1; rw [c6 j (by omega) hjl]; exact a8 j v hj⟩
  · subst hL
    refine z_body hl (by decide) rfl (Nat.le_of_ble_eq_true rfl) ?_
    show z_J G l mJx4a65c_toArray_d5877 _ 0 [(0, _)] [] _ 0 0
    refine j_aload_n dJx4a65c_toArray_d5877_0 rfl rfl ?_
    refine j_getf dJx4a65c_toArray_d5877_1 fJx4a65c_9 ga rfl ?_
    refine j_aload_n dJx4a65c_toArray_d5877_4 rfl rfl ?_
    refine j_getf dJx4a65c_toArray_d5877_5 fJx4a65c_48 ga rfl ?_
    refine j_callS dJx4a65c_toArray_d5877_8 kJ7_copyOf_1904c lJx4a65c_66 stJ7_copyOf_1904c (cl_cpBK hl w ρ k 0 hρ hf hk (by omega)) (Nat.le_of_ble_eq_true rfl) ⟨(Nat.le_of_ble_eq_true rfl), (by show _ ≤ M; omega)⟩ rfl (Nat.le_of_ble_eq_true rfl) rfl rfl (fun _ _ h => h.elim) ?_
    rintro _ w1 ⟨m9, g9, rfl, fw1, c1, c2, c3, c4, c5⟩
    have hf1 := fw1.2.1 hf
    refine j_aret dJx4a65c_toArray_d5877_11 rfl (Or.inr ⟨_, rfl⟩) rfl ?_ (Nat.le_of_ble_eq_true rfl) (by show _ ≤ M; omega)
    exact ⟨m9, g9, rfl, fw1, c1, c2, c3, c4, c5, fun j v hj => by simp at hj⟩
set_option maxRecDepth 100000 in
set_option maxHeartbeats 8000000 in
theorem cl_initC (hl : l.stackTraces = false) (w : z_W) (ρ σ a b M : Nat) (mo : Int32) (L : List Value) (h1 : 1000 ≤ a) (h2 : a % 64 = ρ) (ga : z_g w a = some (.inr (4, [.int 0, .null, .int 0]))) (h : z_li w σ b mo L) (hσ : σ ≠ ρ) (hne : b ≠ a) (hρ : ρ < 64) (hf : z_fn w) (hM : L.length ≤ M) (hM2 : M ≤ 1000) (hel : ∀ v ∈ L, ∃ b, v = .float b) : z_Con G l mJx4a65c_init_4bcb3 16 1 M w [.ref a, .ref b] (fun v w9 => v = none ∧ z_fw ρ w w9 ∧ z_li w9 ρ a 0 L) (fun _ _ => False) := by
  obtain ⟨v0, hv0, gb⟩ := h.cell
  have hlen := h.len
  have hir := h.2.2.1
  have hb2 := h.2.1
  refine z_body hl (by decide) rfl (Nat.le_of_ble_eq_true rfl) ?_
  show z_J G l mJx4a65c_init_4bcb3 _ 0 [(0, _), (1, _)] [] _ 0 0
  refine j_aload_n dJx4a65c_init_4bcb3_0 rfl rfl ?_
  refine j_callI dJx4a65c_init_4bcb3_1 kJxc12de_init_da8c8 rfl lJx4a65c_1 inJxc12de_init_da8c8 rfl (cl_ALi hl w ρ a h1 h2 ga) (Nat.le_of_ble_eq_true rfl) ⟨(Nat.le_of_ble_eq_true rfl), (Nat.le_of_ble_eq_true rfl)⟩ rfl (Nat.le_of_ble_eq_true rfl) rfl rfl (fun _ _ h => h.elim) ?_
  rintro _ w1 ⟨rfl, fw1, hk1, gz1⟩
  have g1_b := fw1.g (Or.inr (by omega)) gb
  have hf1 := fw1.2.1 hf
  refine j_aload_n dJx4a65c_init_4bcb3_4 rfl rfl ?_
  refine j_callF (x := ⟨"java/util/Collection", "toArray", "()[Ljava/lang/Object;"⟩) (q := (RJx4a65c, TJx4a65c, 3)) dJx4a65c_init_4bcb3_5 kJx4a65c_toArray_d5877 ⟨(z_w 1621 ((lwg_7 136).trans rfl) (by decide +kernel)), (z_w 1625 ((lwg_7 140).trans rfl) (by decide +kernel)), inJx4a65c_toArray_d5877, ⟨by decide, by decide⟩, rfl, fun U h => h.1⟩ g1_b rfl (cl_toA hl w1 ρ σ b M mo L (h.fw fw1 hσ) hρ hf1 hM hM2 (fun v hv => by obtain ⟨b9, rfl⟩ := hel v hv; exact z_elF)) (Nat.le_of_ble_eq_true rfl) ⟨(Nat.le_of_ble_eq_true rfl), (by show _ ≤ M; omega)⟩ rfl (Nat.le_of_ble_eq_true rfl) rfl ?_
  rintro _ w2 ⟨m9, g9, rfl, fw2, c1, c2, c3, c4, c5, c6⟩
  have hf2 := fw2.2.1 hf1
  have g2_a := c5 a _ gz1
  have g2_b := c5 b _ g1_b
  refine j_astore_n (lo' := [(2, _), (0, _), (1, _)]) dJx4a65c_init_4bcb3_10 rfl (by decide) rfl ?_
  refine j_aload_n dJx4a65c_init_4bcb3_11 rfl rfl ?_
  refine j_aload_n dJx4a65c_init_4bcb3_12 rfl rfl ?_
  refine j_alen dJx4a65c_init_4bcb3_13 c4 rfl rfl ?_
  refine j_dup_x1 dJx4a65c_init_4bcb3_14 rfl rfl ?_
  refine j_put (w' := _) dJx4a65c_init_4bcb3_15 fJx4a65c_48 tJx4a65c_2 g2_a ⟨rfl, rfl⟩ rfl ?_
  refine j_seal h1 ?_
  intro w3 u3
  have g3_b := (u3.2.1 _ hne).trans g2_b
  have g3_m := (u3.2.1 _ (Ne.symm (c3 a _ gz1))).trans c4
  have g3_a := u3.1
  have hf3 := u3.2.2.2 hf2
  refine j_if_eq (tgt := 57) dJx4a65c_init_4bcb3_18 (by decide) (fun c_18_25 => ?_) (fun c_18_25 => ?_)
  · have hL0 : L = [] := List.eq_nil_of_length_eq_zero (nI_inj (a := L.length) (b := 0) c_18_25 (by omega) (by omega))
    refine j_aload_n dJx4a65c_init_4bcb3_57 rfl rfl ?_
    refine j_gets dJx4a65c_init_4bcb3_58 (List.mem_of_getElem? (i := 3) rfl) rfl (z_w 1639 ((lwg_7 154).trans rfl) (by decide +kernel)) ?_
    refine j_put (w' := _) dJx4a65c_init_4bcb3_61 fJx4a65c_9 tJx4a65c_1 g3_a (Or.inr ⟨_, rfl⟩) rfl ?_
    refine j_seal h1 ?_
    intro w4 u4
    have g4_b := (u4.2.1 _ hne).trans g3_b
    have g4_m := (u4.2.1 _ (Ne.symm (c3 a _ gz1))).trans g3_m
    have g4_a := u4.1
    have hf4 := u4.2.2.2 hf3
    refine j_vret dJx4a65c_init_4bcb3_64 rfl ?_ (Nat.le_of_ble_eq_true rfl) (by show _ ≤ M; omega)
    exact ⟨rfl, (((fw1.tr fw2).tr (u3.fw h1 h2)).tr (u4.fw h1 h2)), h1, h2, hir, Or.inr ⟨1, hL0, by decide, by have e9 := g4_a; rw [hL0] at e9; exact e9⟩⟩
  · refine j_aload_n dJx4a65c_init_4bcb3_21 rfl rfl ?_
    refine j_gcI dJx4a65c_init_4bcb3_22 (z_w 1631 ((lwg_7 146).trans rfl) (by decide +kernel)) (z_w 1424 ((lwg_6 179).trans rfl) (by decide +kernel)) (z_w 1442 ((lwg_6 197).trans rfl) (by decide +kernel)) gc_i gc_n g3_b (Nat.le_of_ble_eq_true rfl) (Nat.le_of_ble_eq_true rfl) ?_
    refine j_ldcC dJx4a65c_init_4bcb3_27 (z_w 1636 ((lwg_7 151).trans rfl) (by decide +kernel)) ?_
    refine j_acmp_neK (tgt := 40) dJx4a65c_init_4bcb3_29 (by decide) ?_
    refine j_aload_n dJx4a65c_init_4bcb3_32 rfl rfl ?_
    refine j_aload_n dJx4a65c_init_4bcb3_33 rfl rfl ?_
    refine j_put (w' := _) dJx4a65c_init_4bcb3_34 fJx4a65c_9 tJx4a65c_1 g3_a (Or.inr ⟨_, rfl⟩) rfl ?_
    refine j_seal h1 ?_
    intro w5 u5
    have g5_b := (u5.2.1 _ hne).trans g3_b
    have g5_m := (u5.2.1 _ (Ne.symm (c3 a _ gz1))).trans g3_m
    have g5_a := u5.1
    have hf5 := u5.2.2.2 hf3
    refine j_goto (tgt := 64) dJx4a65c_init_4bcb3_37 (by decide) ?_
    refine j_vret dJx4a65c_init_4bcb3_64 rfl ?_ (Nat.le_of_ble_eq_true rfl) (by show _ ≤ M; omega)
    exact ⟨rfl, (((fw1.tr fw2).tr (u3.fw h1 h2)).tr (u5.fw h1 h2)), z_li.of h1 h2 hir ⟨c1, c2, Ne.symm (c3 a _ gz1), g5_a, g5_m, Nat.le_refl _, hlen, c6⟩⟩
end ZLt
end ZM10
