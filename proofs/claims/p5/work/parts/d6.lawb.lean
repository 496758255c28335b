section ZLawB
variable {G : z_G} {l : Launch}
set_option maxRecDepth 100000 in
theorem c_X9_init (hl : l.stackTraces = false) (w : z_W) (x : Nat) : z_Con G l mX9_init 10 0 0 w [.ref x] (fun v w9 => v = none ∧ w9 = w) (fun _ _ => False) := by
  refine z_body hl (by decide) rfl (Nat.le_of_ble_eq_true rfl) ?_
  show z_J G l mX9_init _ 0 [(0, _)] [] _ 0 0
  refine j_aload_n dX9_init_0 rfl rfl ?_
  refine j_objI dX9_init_1 oX9_1 z_oi1 z_oi2 (Nat.le_of_ble_eq_true rfl) (Nat.le_of_ble_eq_true rfl) ?_
  refine j_vret dX9_init_4 rfl ?_ (Nat.le_of_ble_eq_true rfl) (Nat.le_of_ble_eq_true rfl)
  exact ⟨rfl, rfl⟩
theorem z_gt6 {a b : Nat} (ha : a < 2 ^ 30) (hb : b < 2 ^ 30) (h : ¬ nI b - 6 < nI a) : a + 6 ≤ b := by
  have h2 : ¬ (nI b - nI 6).toInt < (nI a).toInt := fun z => h (Int32.lt_iff_toInt_lt.mpr z)
  rw [pk_sub_toInt hb (by decide), nI_toInt (by omega)] at h2
  omega
set_option maxRecDepth 100000 in
set_option maxHeartbeats 8000000 in
theorem law_turn (hl : l.stackTraces = false) {w : z_W} {x i kc ks : Nat} {S : sp_S} {n : Int64} (LT : z_LX x S S n w) (hi6 : i + 6 ≤ z_sn G) (hsn : z_sn G ≤ 3072) (hkc : kc + 200 ≤ 793551) (hks : ks + 6000 ≤ 6715452) (KK : ∀ (S9 : sp_S) (n9 : Int64) (w9 : z_W), z_LX x S9 S9 n9 w9 → z_J G l mL_law z_SL 2257 (z_lol x i) [] w9 (kc + 200) (ks + 6000)) : z_J G l mL_law z_SL 37 (z_lol x i) [] w kc ks := by
  show z_J G l mL_law _ 37 [(0, _), (1, _), (2, _), (3, _), (4, _)] [] _ _ _
  refine j_aload_n dL_law_37 rfl rfl ?_
  refine j_iload dL_law_38 rfl ?_
  refine j_sld dL_law_40 (by omega) (by omega) ?_
  refine j_bipush (v := 63) dL_law_41 (by decide) ?_
  refine j_iand dL_law_43 ?_
  refine z_genV ?_
  intro xv
  rcases z_sw47 xv with rfl | rfl | rfl | rfl | rfl | rfl | rfl | rfl | rfl | rfl | rfl | rfl | rfl | rfl | rfl | rfl | rfl | rfl | rfl | rfl | rfl | rfl | rfl | rfl | rfl | rfl | rfl | rfl | rfl | rfl | rfl | rfl | rfl | rfl | rfl | rfl | rfl | rfl | rfl | rfl | rfl | rfl | rfl | rfl | rfl | rfl | rfl | hp
  · exact j_tsIn (tgt := 248) dL_law_44 (by decide) (by decide) rfl (by decide) (lc_0 hl LT hi6 hsn hkc hks KK)
  · exact j_tsIn (tgt := 288) dL_law_44 (by decide) (by decide) rfl (by decide) (lc_1 hl LT hi6 hsn hkc hks KK)
  · exact j_tsIn (tgt := 328) dL_law_44 (by decide) (by decide) rfl (by decide) (lc_2 hl LT hi6 hsn hkc hks KK)
  · exact j_tsIn (tgt := 384) dL_law_44 (by decide) (by decide) rfl (by decide) (lc_3 hl LT hi6 hsn hkc hks KK)
  · exact j_tsIn (tgt := 453) dL_law_44 (by decide) (by decide) rfl (by decide) (lc_4 hl LT hi6 hsn hkc hks KK)
  · exact j_tsIn (tgt := 505) dL_law_44 (by decide) (by decide) rfl (by decide) (lc_5 hl LT hi6 hsn hkc hks KK)
  · exact j_tsIn (tgt := 557) dL_law_44 (by decide) (by decide) rfl (by decide) (lc_6 hl LT hi6 hsn hkc hks KK)
  · exact j_tsIn (tgt := 609) dL_law_44 (by decide) (by decide) rfl (by decide) (lc_7 hl LT hi6 hsn hkc hks KK)
  · exact j_tsIn (tgt := 637) dL_law_44 (by decide) (by decide) rfl (by decide) (lc_8 hl LT hi6 hsn hkc hks KK)
  · exact j_tsIn (tgt := 689) dL_law_44 (by decide) (by decide) rfl (by decide) (lc_9 hl LT hi6 hsn hkc hks KK)
  · exact j_tsIn (tgt := 729) dL_law_44 (by decide) (by decide) rfl (by decide) (lc_10 hl LT hi6 hsn hkc hks KK)
  · exact j_tsIn (tgt := 781) dL_law_44 (by decide) (by decide) rfl (by decide) (lc_11 hl LT hi6 hsn hkc hks KK)
  · exact j_tsIn (tgt := 833) dL_law_44 (by decide) (by decide) rfl (by decide) (lc_12 hl LT hi6 hsn hkc hks KK)
  · exact j_tsIn (tgt := 897) dL_law_44 (by decide) (by decide) rfl (by decide) (lc_13 hl LT hi6 hsn hkc hks KK)
  · exact j_tsIn (tgt := 949) dL_law_44 (by decide) (by decide) rfl (by decide) (lc_14 hl LT hi6 hsn hkc hks KK)
  · exact j_tsIn (tgt := 1013) dL_law_44 (by decide) (by decide) rfl (by decide) (lc_15 hl LT hi6 hsn hkc hks KK)
  · exact j_tsIn (tgt := 1077) dL_law_44 (by decide) (by decide) rfl (by decide) (lc_16 hl LT hi6 hsn hkc hks KK)
  · exact j_tsIn (tgt := 1141) dL_law_44 (by decide) (by decide) rfl (by decide) (lc_17 hl LT hi6 hsn hkc hks KK)
  · exact j_tsIn (tgt := 1205) dL_law_44 (by decide) (by decide) rfl (by decide) (lc_18 hl LT hi6 hsn hkc hks KK)
  · exact j_tsIn (tgt := 1245) dL_law_44 (by decide) (by decide) rfl (by decide) (lc_19 hl LT hi6 hsn hkc hks KK)
  · exact j_tsIn (tgt := 1297) dL_law_44 (by decide) (by decide) rfl (by decide) (lc_20 hl LT hi6 hsn hkc hks KK)
  · exact j_tsIn (tgt := 1325) dL_law_44 (by decide) (by decide) rfl (by decide) (lc_21 hl LT hi6 hsn hkc hks KK)
  · exact j_tsIn (tgt := 1389) dL_law_44 (by decide) (by decide) rfl (by decide) (lc_22 hl LT hi6 hsn hkc hks KK)
  · exact j_tsIn (tgt := 1465) dL_law_44 (by decide) (by decide) rfl (by decide) (lc_23 hl LT hi6 hsn hkc hks KK)
  · exact j_tsIn (tgt := 1505) dL_law_44 (by decide) (by decide) rfl (by decide) (lc_24 hl LT hi6 hsn hkc hks KK)
  · exact j_tsIn (tgt := 1545) dL_law_44 (by decide) (by decide) rfl (by decide) (lc_25 hl LT hi6 hsn hkc hks KK)
  · exact j_tsIn (tgt := 1573) dL_law_44 (by decide) (by decide) rfl (by decide) (lc_26 hl LT hi6 hsn hkc hks KK)
  · exact j_tsIn (tgt := 1613) dL_law_44 (by decide) (by decide) rfl (by decide) (lc_27 hl LT hi6 hsn hkc hks KK)
  · exact j_tsIn (tgt := 1641) dL_law_44 (by decide) (by decide) rfl (by decide) (lc_28 hl LT hi6 hsn hkc hks KK)
  · exact j_tsIn (tgt := 1669) dL_law_44 (by decide) (by decide) rfl (by decide) (lc_29 hl LT hi6 hsn hkc hks KK)
  · exact j_tsIn (tgt := 1709) dL_law_44 (by decide) (by decide) rfl (by decide) (lc_30 hl LT hi6 hsn hkc hks KK)
  · exact j_tsIn (tgt := 1737) dL_law_44 (by decide) (by decide) rfl (by decide) (lc_31 hl LT hi6 hsn hkc hks KK)
  · exact j_tsIn (tgt := 1765) dL_law_44 (by decide) (by decide) rfl (by decide) (lc_32 hl LT hi6 hsn hkc hks KK)
  · exact j_tsIn (tgt := 1805) dL_law_44 (by decide) (by decide) rfl (by decide) (lc_33 hl LT hi6 hsn hkc hks KK)
  · exact j_tsIn (tgt := 1833) dL_law_44 (by decide) (by decide) rfl (by decide) (lc_34 hl LT hi6 hsn hkc hks KK)
  · exact j_tsIn (tgt := 1846) dL_law_44 (by decide) (by decide) rfl (by decide) (lc_35 hl LT hi6 hsn hkc hks KK)
  · exact j_tsIn (tgt := 1886) dL_law_44 (by decide) (by decide) rfl (by decide) (lc_36 hl LT hi6 hsn hkc hks KK)
  · exact j_tsIn (tgt := 1938) dL_law_44 (by decide) (by decide) rfl (by decide) (lc_37 hl LT hi6 hsn hkc hks KK)
  · exact j_tsIn (tgt := 1978) dL_law_44 (by decide) (by decide) rfl (by decide) (lc_38 hl LT hi6 hsn hkc hks KK)
  · exact j_tsIn (tgt := 2006) dL_law_44 (by decide) (by decide) rfl (by decide) (lc_39 hl LT hi6 hsn hkc hks KK)
  · exact j_tsIn (tgt := 2034) dL_law_44 (by decide) (by decide) rfl (by decide) (lc_40 hl LT hi6 hsn hkc hks KK)
  · exact j_tsIn (tgt := 2074) dL_law_44 (by decide) (by decide) rfl (by decide) (lc_41 hl LT hi6 hsn hkc hks KK)
  · exact j_tsIn (tgt := 2138) dL_law_44 (by decide) (by decide) rfl (by decide) (lc_42 hl LT hi6 hsn hkc hks KK)
  · exact j_tsIn (tgt := 2190) dL_law_44 (by decide) (by decide) rfl (by decide) (lc_43 hl LT hi6 hsn hkc hks KK)
  · exact j_tsIn (tgt := 2203) dL_law_44 (by decide) (by decide) rfl (by decide) (lc_44 hl LT hi6 hsn hkc hks KK)
  · exact j_tsIn (tgt := 2231) dL_law_44 (by decide) (by decide) rfl (by decide) (lc_45 hl LT hi6 hsn hkc hks KK)
  · exact j_tsIn (tgt := 2244) dL_law_44 (by decide) (by decide) rfl (by decide) (lc_46 hl LT hi6 hsn hkc hks KK)
  · exact j_tsOut (tgt := 2257) dL_law_44 hp (by decide) (j_widen (kc' := kc + 200) (ks' := ks + 6000) (by omega) (by omega) (KK _ _ _ LT))
set_option maxRecDepth 100000 in
set_option maxHeartbeats 8000000 in
theorem law_loop (hl : l.stackTraces = false) (hsn : z_sn G ≤ 3072) {x : Nat} : ∀ (n j : Nat) (S : sp_S) (a : Int64) (w : z_W), 6 * j ≤ z_sn G → 513 ≤ j + n → z_LX x S S a w → z_J G l mL_law z_SL 27 (z_lol x (6 * j)) [] w (100 + 200 * j) (800 + 6000 * j) := by
  intro n
  induction n with
  | zero => intro j S a w h1 h2; exact absurd h2 (by omega)
  | succ n ih =>
    intro j S a w h1 h2 LT
    show z_J G l mL_law _ 27 [(0, _), (1, _), (2, _), (3, _), (4, _)] [] _ _ _
    refine j_iload dL_law_27 rfl ?_
    refine j_aload_n dL_law_29 rfl rfl ?_
    refine j_slen dL_law_30 ?_
    refine j_bipush (v := 6) dL_law_31 (by decide) ?_
    refine j_isub dL_law_33 ?_
    refine j_icmp_gt (tgt := 2263) dL_law_34 (by decide) (fun c => ?_) (fun c => ?_)
    · refine j_iconst (v := 1) dL_law_2263 (by decide) ?_
      refine j_iret dL_law_2264 rfl rfl ?_ (by show _ ≤ 793551; omega) (by show _ ≤ 6715452; omega)
      exact rfl
    · have h6 := z_gt6 (a := 6 * j) (b := z_sn G) (by omega) (by omega) c
      refine law_turn hl LT h6 hsn (by omega) (by omega) (fun S9 n9 w9 LT9 => ?_)
      show z_J G l mL_law _ 2257 [(0, _), (1, _), (2, _), (3, _), (4, _)] [] _ _ _
      refine j_iinc (lo' := [(4, _), (0, _), (1, _), (2, _), (3, _)]) dL_law_2257 rfl (show nI (6 * j) + Int32.ofInt 6 = nI (6 * (j + 1)) from nI_add (6 * j) 6) (by decide) rfl ?_
      refine j_goto (tgt := 27) dL_law_2260 (by decide) ?_
      refine j_widen (kc' := 100 + 200 * (j + 1)) (ks' := 800 + 6000 * (j + 1)) (by omega) (by omega) ?_
      exact j_lo2 (ih (j + 1) S9 n9 w9 (by omega) (by omega) LT9) (z_q1 rfl (z_q1 rfl (z_q1 rfl (z_q1 rfl (z_q1 rfl z_q0)))))
set_option maxRecDepth 100000 in
set_option maxHeartbeats 8000000 in
theorem law_J (hl : l.stackTraces = false) (hsn : z_sn G ≤ 3072) : z_J G l mL_law z_SL 0 [(0, .retAddr 8)] [] ([], z_no) 0 0 := by
  show z_J G l mL_law _ 0 [(0, _)] [] _ 0 0
  refine j_new (N := 9) (w' := ([.inr (12, [.null, .null, .null, .null, .null, .null, .null, .int 0, .int 0])], z_no)) (n := 0) dL_law_0 nL_8 rfl (z_al_l rfl rfl) (Nat.le_of_ble_eq_true rfl) (Nat.le_of_ble_eq_true rfl) ?_
  refine j_dup dL_law_3 rfl ?_
  refine j_callI dL_law_4 kX8_init rfl lL_165 inX8_init rfl (z_dirN (c_X8_init_z hl)) (Nat.le_of_ble_eq_true rfl) ⟨(Nat.le_of_ble_eq_true rfl), (Nat.le_of_ble_eq_true rfl)⟩ rfl (Nat.le_of_ble_eq_true rfl) rfl rfl (fun _ _ h => h.elim) ?_
  rintro _ _ ⟨L1, ⟨rfl, hWk⟩, rfl⟩
  have hlen := (sp_CWc hWk).1
  have hno : ∀ k, 1000 ≤ k → z_g (L1, z_no) k = none := fun k hk => by
    have hb : Nat.blt k 1000 = false := z_bltF hk
    simp only [z_g, hb, cond]
    rfl
  have hfn0 : z_fn (L1, z_no) := ⟨by show L1.length ≤ 1000; omega, 0, fun _ _ => rfl⟩
  refine j_astore_n (lo' := [(1, _), (0, _)]) dL_law_7 rfl (by decide) rfl ?_
  refine j_new (N := 8) (w' := _) (n := 1000) dL_law_8 nL_166 rfl (z_alW (hno 1000 (Nat.le_refl _)) (by decide)) (Nat.le_of_ble_eq_true rfl) (Nat.le_of_ble_eq_true rfl) ?_
  refine j_seal (n := 1000) (by decide) ?_
  intro w1 u1
  have hfn1 := u1.2.2.2 hfn0
  refine j_dup dL_law_11 rfl ?_
  refine j_callI dL_law_12 kX11_init rfl lL_168 inX11_init rfl (cx_init hl w1 hfn1 (fun k hk => (u1.2.1 k (by omega)).trans (hno k (by omega))) u1.1) (Nat.le_of_ble_eq_true rfl) ⟨(Nat.le_of_ble_eq_true rfl), (Nat.le_of_ble_eq_true rfl)⟩ rfl (Nat.le_of_ble_eq_true rfl) rfl rfl (fun _ _ h => h.elim) ?_
  rintro _ w2 ⟨rfl, hb2, s2, h2, hk2⟩
  refine j_astore_n (lo' := [(2, _), (1, _), (0, _)]) dL_law_15 rfl (by decide) rfl ?_
  obtain ⟨x, hx1, hx2, hx3⟩ := z_fresh 60 (by decide) h2.fn
  refine j_new (N := 2) (w' := _) (n := x) dL_law_16 nL_14 rfl (z_alW hx3 hx1) (Nat.le_of_ble_eq_true rfl) (Nat.le_of_ble_eq_true rfl) ?_
  refine j_seal (n := x) hx1 ?_
  intro w3 u3
  have h3 := h2.gar (u3.fw hx1 hx2) (by omega)
  refine j_dup dL_law_19 rfl ?_
  refine j_callIN dL_law_20 kX9_init rfl lL_169 inX9_init rfl (c_X9_init hl w3 x) (Nat.le_of_ble_eq_true rfl) ⟨(Nat.le_of_ble_eq_true rfl), (Nat.le_of_ble_eq_true rfl)⟩ rfl (Nat.le_of_ble_eq_true rfl) rfl rfl (fun _ _ h => h.elim) ?_
  rintro _ _ ⟨rfl, hw9⟩
  refine j_w w3 hw9 ?_
  refine j_astore_n (lo' := [(3, _), (2, _), (1, _), (0, _)]) dL_law_23 rfl (by decide) rfl ?_
  refine j_iconst (v := 0) dL_law_24 (by decide) ?_
  refine j_istore (lo' := [(4, _), (3, _), (2, _), (1, _), (0, _)]) dL_law_25 (by decide) rfl ?_
  have LT : z_LX x sp_S0 sp_S0 0 w3 := ⟨⟨by rw [u3.2.2.1, hb2, u1.2.2.1]; exact hWk, ok_S0⟩, ⟨s2, h3, hk2, ok_S0⟩, ⟨_, u3.1⟩, hx1, hx2⟩
  refine j_widen (kc' := 100 + 200 * 0) (ks' := 800 + 6000 * 0) (Nat.le_of_ble_eq_true rfl) (Nat.le_of_ble_eq_true rfl) ?_
  exact j_lo2 (law_loop hl hsn 513 0 _ _ w3 (by omega) (by omega) LT) (z_q1 rfl (z_q1 rfl (z_q1 rfl (z_q1 rfl (z_q1 rfl z_q0)))))
end ZLawB
