section ZMi
variable {G : z_G} {l : Launch}
set_option maxRecDepth 100000 in
set_option maxHeartbeats 16000000 in
theorem cx_init (hl : l.stackTraces = false) (w : z_W)  (hfn : z_fn w) (hno : ∀ k, 1001 ≤ k → z_g w k = none) (gm : z_g w 1000 = some (.inr (15, [.int 0, .null, .null, .null, .null, .null, .int 0, .int 0]))) : z_Con G l mX11_init 20 40 300 w [.ref 1000] (fun v w9 => v = none ∧ w9.1 = w.1 ∧ ∃ s9, z_mst w9 s9 ∧ sp_MR sp_S0 s9) (fun _ _ => False) := by
  have f_1001 : z_g w 1001 = none := hno 1001 (by decide)
  have f_1002 : z_g w 1002 = none := hno 1002 (by decide)
  have f_1003 : z_g w 1003 = none := hno 1003 (by decide)
  have f_1004 : z_g w 1004 = none := hno 1004 (by decide)
  have f_1005 : z_g w 1005 = none := hno 1005 (by decide)
  have f_1006 : z_g w 1006 = none := hno 1006 (by decide)
  have f_1007 : z_g w 1007 = none := hno 1007 (by decide)
  have f_1008 : z_g w 1008 = none := hno 1008 (by decide)
  have f_1009 : z_g w 1009 = none := hno 1009 (by decide)
  have f_1010 : z_g w 1010 = none := hno 1010 (by decide)
  have f_1011 : z_g w 1011 = none := hno 1011 (by decide)
  have f_1012 : z_g w 1012 = none := hno 1012 (by decide)
  have f_1013 : z_g w 1013 = none := hno 1013 (by decide)
  have f_1014 : z_g w 1014 = none := hno 1014 (by decide)
  have f_1015 : z_g w 1015 = none := hno 1015 (by decide)
  have f_1035 : z_g w 1035 = none := hno 1035 (by decide)
  have f_1036 : z_g w 1036 = none := hno 1036 (by decide)
  have b0 : w.1 = w.1 := rfl
  refine z_body hl (by decide) rfl (Nat.le_of_ble_eq_true rfl) ?_
  show z_J G l mX11_init _ 0 [(0, _)] [] _ 0 0
  refine j_aload_n dX11_init_0 rfl rfl ?_
  refine j_objI dX11_init_1 oX11_12 z_oi1 z_oi2 (Nat.le_of_ble_eq_true rfl) (Nat.le_of_ble_eq_true rfl) ?_
  refine j_aload_n dX11_init_4 rfl rfl ?_
  refine j_new (w' := _) (n := 1001) dX11_init_5 nX11_18 rfl (z_alW f_1001 (by decide)) (Nat.le_of_ble_eq_true rfl) (Nat.le_of_ble_eq_true rfl) ?_
  refine j_seal (n := 1001) (by decide) ?_
  intro w1 u1
  have fw1 := u1.fw (ρ := 41) (by decide) (by decide)
  have g1_1002 := (fw1.2.2 1002 (Or.inr (by decide))).trans f_1002
  have g1_1003 := (fw1.2.2 1003 (Or.inr (by decide))).trans f_1003
  have g1_1004 := (fw1.2.2 1004 (Or.inr (by decide))).trans f_1004
  have g1_1005 := (fw1.2.2 1005 (Or.inr (by decide))).trans f_1005
  have g1_1006 := (fw1.2.2 1006 (Or.inr (by decide))).trans f_1006
  have g1_1007 := (fw1.2.2 1007 (Or.inr (by decide))).trans f_1007
  have g1_1008 := (fw1.2.2 1008 (Or.inr (by decide))).trans f_1008
  have g1_1009 := (fw1.2.2 1009 (Or.inr (by decide))).trans f_1009
  have g1_1010 := (fw1.2.2 1010 (Or.inr (by decide))).trans f_1010
  have g1_1011 := (fw1.2.2 1011 (Or.inr (by decide))).trans f_1011
  have g1_1012 := (fw1.2.2 1012 (Or.inr (by decide))).trans f_1012
  have g1_1013 := (fw1.2.2 1013 (Or.inr (by decide))).trans f_1013
  have g1_1014 := (fw1.2.2 1014 (Or.inr (by decide))).trans f_1014
  have g1_1015 := (fw1.2.2 1015 (Or.inr (by decide))).trans f_1015
  have g1_1035 := (fw1.2.2 1035 (Or.inr (by decide))).trans f_1035
  have g1_1036 := (fw1.2.2 1036 (Or.inr (by decide))).trans f_1036
  have g1_1000 := (fw1.2.2 1000 (Or.inr (by decide))).trans gm
  have g1_1001 := u1.1
  have b1 := (fw1.1).trans b0
  have hf1 := fw1.2.1 hfn
  refine j_dup dX11_init_8 rfl ?_
  refine j_callI dX11_init_9 kJx4a65c_init_da8c8 rfl lX11_20 inJx4a65c_init_da8c8 rfl (cl_init hl w1 41 1001 (by decide) (by decide) g1_1001) (Nat.le_of_ble_eq_true rfl) ⟨(Nat.le_of_ble_eq_true rfl), (Nat.le_of_ble_eq_true rfl)⟩ rfl (Nat.le_of_ble_eq_true rfl) rfl rfl (fun _ _ h => h.elim) ?_
  rintro _ w2 ⟨rfl, fw2, hk2, l2_1001⟩
  have g2_1002 := (fw2.2.2 1002 (Or.inr (by decide))).trans g1_1002
  have g2_1003 := (fw2.2.2 1003 (Or.inr (by decide))).trans g1_1003
  have g2_1004 := (fw2.2.2 1004 (Or.inr (by decide))).trans g1_1004
  have g2_1005 := (fw2.2.2 1005 (Or.inr (by decide))).trans g1_1005
  have g2_1006 := (fw2.2.2 1006 (Or.inr (by decide))).trans g1_1006
  have g2_1007 := (fw2.2.2 1007 (Or.inr (by decide))).trans g1_1007
  have g2_1008 := (fw2.2.2 1008 (Or.inr (by decide))).trans g1_1008
  have g2_1009 := (fw2.2.2 1009 (Or.inr (by decide))).trans g1_1009
  have g2_1010 := (fw2.2.2 1010 (Or.inr (by decide))).trans g1_1010
  have g2_1011 := (fw2.2.2 1011 (Or.inr (by decide))).trans g1_1011
  have g2_1012 := (fw2.2.2 1012 (Or.inr (by decide))).trans g1_1012
  have g2_1013 := (fw2.2.2 1013 (Or.inr (by decide))).trans g1_1013
  have g2_1014 := (fw2.2.2 1014 (Or.inr (by decide))).trans g1_1014
  have g2_1015 := (fw2.2.2 1015 (Or.inr (by decide))).trans g1_1015
  have g2_1035 := (fw2.2.2 1035 (Or.inr (by decide))).trans g1_1035
  have g2_1036 := (fw2.2.2 1036 (Or.inr (by decide))).trans g1_1036
  have g2_1000 := (fw2.2.2 1000 (Or.inr (by decide))).trans g1_1000
  clear g1_1002 g1_1003 g1_1004 g1_1005 g1_1006 g1_1007 g1_1008 g1_1009 g1_1010 g1_1011 g1_1012 g1_1013 g1_1014 g1_1015 g1_1035 g1_1036 g1_1000
  have b2 := (fw2.1).trans b1
  have hf2 := fw2.2.1 hf1
  refine j_putF (w' := _) dX11_init_12 fX11_21 tX11_1 rfl (z_dc rfl rfl (z_w 1454 ((lwt_6_6 29).trans rfl) (by decide +kernel))) g2_1000 (Or.inl ⟨_, rfl⟩) rfl ?_
  refine j_seal (n := 1000) (by decide) ?_
  intro w3 u3
  have fw3 := u3.fw (ρ := 40) (by decide) (by decide)
  have g3_1002 := (fw3.2.2 1002 (Or.inr (by decide))).trans g2_1002
  have g3_1003 := (fw3.2.2 1003 (Or.inr (by decide))).trans g2_1003
  have g3_1004 := (fw3.2.2 1004 (Or.inr (by decide))).trans g2_1004
  have g3_1005 := (fw3.2.2 1005 (Or.inr (by decide))).trans g2_1005
  have g3_1006 := (fw3.2.2 1006 (Or.inr (by decide))).trans g2_1006
  have g3_1007 := (fw3.2.2 1007 (Or.inr (by decide))).trans g2_1007
  have g3_1008 := (fw3.2.2 1008 (Or.inr (by decide))).trans g2_1008
  have g3_1009 := (fw3.2.2 1009 (Or.inr (by decide))).trans g2_1009
  have g3_1010 := (fw3.2.2 1010 (Or.inr (by decide))).trans g2_1010
  have g3_1011 := (fw3.2.2 1011 (Or.inr (by decide))).trans g2_1011
  have g3_1012 := (fw3.2.2 1012 (Or.inr (by decide))).trans g2_1012
  have g3_1013 := (fw3.2.2 1013 (Or.inr (by decide))).trans g2_1013
  have g3_1014 := (fw3.2.2 1014 (Or.inr (by decide))).trans g2_1014
  have g3_1015 := (fw3.2.2 1015 (Or.inr (by decide))).trans g2_1015
  have g3_1035 := (fw3.2.2 1035 (Or.inr (by decide))).trans g2_1035
  have g3_1036 := (fw3.2.2 1036 (Or.inr (by decide))).trans g2_1036
  clear g2_1002 g2_1003 g2_1004 g2_1005 g2_1006 g2_1007 g2_1008 g2_1009 g2_1010 g2_1011 g2_1012 g2_1013 g2_1014 g2_1015 g2_1035 g2_1036
  have l3_1001 := l2_1001.fw fw3 (by decide)
  have g3_1000 := u3.1
  have b3 := (fw3.1).trans b2
  have hf3 := fw3.2.1 hf2
  refine j_aload_n dX11_init_15 rfl rfl ?_
  refine j_iconst (v := 2) dX11_init_16 (by decide) ?_
  refine j_newa (kd := 1) (N := 2) (w' := _) (n := 1002) dX11_init_17 rfl rfl arc_boolean ⟨rfl, fun _ _ h => h⟩ (by decide) rfl (by decide) rfl (z_alW g3_1002 (by decide)) (Nat.le_of_ble_eq_true rfl) (Nat.le_of_ble_eq_true rfl) ?_
  refine j_seal (n := 1002) (by decide) ?_
  intro w4 u4
  have fw4 := u4.fw (ρ := 42) (by decide) (by decide)
  have g4_1003 := (fw4.2.2 1003 (Or.inr (by decide))).trans g3_1003
  have g4_1004 := (fw4.2.2 1004 (Or.inr (by decide))).trans g3_1004
  have g4_1005 := (fw4.2.2 1005 (Or.inr (by decide))).trans g3_1005
  have g4_1006 := (fw4.2.2 1006 (Or.inr (by decide))).trans g3_1006
  have g4_1007 := (fw4.2.2 1007 (Or.inr (by decide))).trans g3_1007
  have g4_1008 := (fw4.2.2 1008 (Or.inr (by decide))).trans g3_1008
  have g4_1009 := (fw4.2.2 1009 (Or.inr (by decide))).trans g3_1009
  have g4_1010 := (fw4.2.2 1010 (Or.inr (by decide))).trans g3_1010
  have g4_1011 := (fw4.2.2 1011 (Or.inr (by decide))).trans g3_1011
  have g4_1012 := (fw4.2.2 1012 (Or.inr (by decide))).trans g3_1012
  have g4_1013 := (fw4.2.2 1013 (Or.inr (by decide))).trans g3_1013
  have g4_1014 := (fw4.2.2 1014 (Or.inr (by decide))).trans g3_1014
  have g4_1015 := (fw4.2.2 1015 (Or.inr (by decide))).trans g3_1015
  have g4_1035 := (fw4.2.2 1035 (Or.inr (by decide))).trans g3_1035
  have g4_1036 := (fw4.2.2 1036 (Or.inr (by decide))).trans g3_1036
  have g4_1000 := (fw4.2.2 1000 (Or.inr (by decide))).trans g3_1000
  clear g3_1003 g3_1004 g3_1005 g3_1006 g3_1007 g3_1008 g3_1009 g3_1010 g3_1011 g3_1012 g3_1013 g3_1014 g3_1015 g3_1035 g3_1036 g3_1000
  have l4_1001 := l3_1001.fw fw4 (by decide)
  have g4_1002 := u4.1
  have b4 := (fw4.1).trans b3
  have hf4 := fw4.2.1 hf3
  refine j_putF (w' := _) dX11_init_19 fX11_25 tX11_2 rfl (z_dc rfl rfl (z_w 1455 ((lwt_6_7 0).trans rfl) (by decide +kernel))) g4_1000 (Or.inr ⟨_, rfl⟩) rfl ?_
  refine j_seal (n := 1000) (by decide) ?_
  intro w5 u5
  have fw5 := u5.fw (ρ := 40) (by decide) (by decide)
  have g5_1002 := (fw5.2.2 1002 (Or.inr (by decide))).trans g4_1002
  have g5_1003 := (fw5.2.2 1003 (Or.inr (by decide))).trans g4_1003
  have g5_1004 := (fw5.2.2 1004 (Or.inr (by decide))).trans g4_1004
  have g5_1005 := (fw5.2.2 1005 (Or.inr (by decide))).trans g4_1005
  have g5_1006 := (fw5.2.2 1006 (Or.inr (by decide))).trans g4_1006
  have g5_1007 := (fw5.2.2 1007 (Or.inr (by decide))).trans g4_1007
  have g5_1008 := (fw5.2.2 1008 (Or.inr (by decide))).trans g4_1008
  have g5_1009 := (fw5.2.2 1009 (Or.inr (by decide))).trans g4_1009
  have g5_1010 := (fw5.2.2 1010 (Or.inr (by decide))).trans g4_1010
  have g5_1011 := (fw5.2.2 1011 (Or.inr (by decide))).trans g4_1011
  have g5_1012 := (fw5.2.2 1012 (Or.inr (by decide))).trans g4_1012
  have g5_1013 := (fw5.2.2 1013 (Or.inr (by decide))).trans g4_1013
  have g5_1014 := (fw5.2.2 1014 (Or.inr (by decide))).trans g4_1014
  have g5_1015 := (fw5.2.2 1015 (Or.inr (by decide))).trans g4_1015
  have g5_1035 := (fw5.2.2 1035 (Or.inr (by decide))).trans g4_1035
  have g5_1036 := (fw5.2.2 1036 (Or.inr (by decide))).trans g4_1036
  clear g4_1002 g4_1003 g4_1004 g4_1005 g4_1006 g4_1007 g4_1008 g4_1009 g4_1010 g4_1011 g4_1012 g4_1013 g4_1014 g4_1015 g4_1035 g4_1036
  have l5_1001 := l4_1001.fw fw5 (by decide)
  have g5_1000 := u5.1
  have b5 := (fw5.1).trans b4
  have hf5 := fw5.2.1 hf4
  refine j_aload_n dX11_init_22 rfl rfl ?_
  refine j_iconst (v := 3) dX11_init_23 (by decide) ?_
  refine j_bipush (v := 7) dX11_init_24 (by decide) ?_
  refine j_mnew2 (a := 1003) (b := 1004) (c := 1005) (d := 1006) dX11_init_26 (z_w 1370 ((lwt_6_4 5).trans rfl) (by decide +kernel)) (z_wn 1371 ((lwt_6_4 6).trans rfl) (by decide +kernel)) arc_int (by decide) (by decide) (by decide) (by decide) g5_1003 g5_1004 g5_1005 g5_1006 (by decide) (by decide) (by decide) (by decide) (by decide) (by decide) (Nat.le_of_ble_eq_true rfl) (Nat.le_of_ble_eq_true rfl) ?_
  intro w6 hb6 hfn6 hk6 x6_1003 g6_1004 g6_1005 g6_1006
  obtain ⟨fq3, g6_1003, qb3, qc3, qd3⟩ := x6_1003
  have g6_1002 := (hk6 1002 (by decide) (by decide) (by decide) (by decide)).trans g5_1002
  have g6_1007 := (hk6 1007 (by decide) (by decide) (by decide) (by decide)).trans g5_1007
  have g6_1008 := (hk6 1008 (by decide) (by decide) (by decide) (by decide)).trans g5_1008
  have g6_1009 := (hk6 1009 (by decide) (by decide) (by decide) (by decide)).trans g5_1009
  have g6_1010 := (hk6 1010 (by decide) (by decide) (by decide) (by decide)).trans g5_1010
  have g6_1011 := (hk6 1011 (by decide) (by decide) (by decide) (by decide)).trans g5_1011
  have g6_1012 := (hk6 1012 (by decide) (by decide) (by decide) (by decide)).trans g5_1012
  have g6_1013 := (hk6 1013 (by decide) (by decide) (by decide) (by decide)).trans g5_1013
  have g6_1014 := (hk6 1014 (by decide) (by decide) (by decide) (by decide)).trans g5_1014
  have g6_1015 := (hk6 1015 (by decide) (by decide) (by decide) (by decide)).trans g5_1015
  have g6_1035 := (hk6 1035 (by decide) (by decide) (by decide) (by decide)).trans g5_1035
  have g6_1036 := (hk6 1036 (by decide) (by decide) (by decide) (by decide)).trans g5_1036
  have g6_1000 := (hk6 1000 (by decide) (by decide) (by decide) (by decide)).trans g5_1000
  clear g5_1002 g5_1007 g5_1008 g5_1009 g5_1010 g5_1011 g5_1012 g5_1013 g5_1014 g5_1015 g5_1035 g5_1036 g5_1000
  have l6_1001 := z_li.m (fun n9 _ h2 => hk6 n9 (by omega) (by omega) (by omega) (by omega)) l5_1001
  have b6 := (hb6).trans b5
  have hf6 := hfn6 hf5
  refine j_putF (w' := _) dX11_init_30 fX11_31 tX11_3 rfl (z_dc rfl rfl (z_w 1456 ((lwt_6_7 1).trans rfl) (by decide +kernel))) g6_1000 (Or.inr ⟨_, rfl⟩) rfl ?_
  refine j_seal (n := 1000) (by decide) ?_
  intro w7 u7
  have fw7 := u7.fw (ρ := 40) (by decide) (by decide)
  have g7_1002 := (fw7.2.2 1002 (Or.inr (by decide))).trans g6_1002
  have g7_1003 := (fw7.2.2 1003 (Or.inr (by decide))).trans g6_1003
  have g7_1004 := (fw7.2.2 1004 (Or.inr (by decide))).trans g6_1004
  have g7_1005 := (fw7.2.2 1005 (Or.inr (by decide))).trans g6_1005
  have g7_1006 := (fw7.2.2 1006 (Or.inr (by decide))).trans g6_1006
  have g7_1007 := (fw7.2.2 1007 (Or.inr (by decide))).trans g6_1007
  have g7_1008 := (fw7.2.2 1008 (Or.inr (by decide))).trans g6_1008
  have g7_1009 := (fw7.2.2 1009 (Or.inr (by decide))).trans g6_1009
  have g7_1010 := (fw7.2.2 1010 (Or.inr (by decide))).trans g6_1010
  have g7_1011 := (fw7.2.2 1011 (Or.inr (by decide))).trans g6_1011
  have g7_1012 := (fw7.2.2 1012 (Or.inr (by decide))).trans g6_1012
  have g7_1013 := (fw7.2.2 1013 (Or.inr (by decide))).trans g6_1013
  have g7_1014 := (fw7.2.2 1014 (Or.inr (by decide))).trans g6_1014
  have g7_1015 := (fw7.2.2 1015 (Or.inr (by decide))).trans g6_1015
  have g7_1035 := (fw7.2.2 1035 (Or.inr (by decide))).trans g6_1035
  have g7_1036 := (fw7.2.2 1036 (Or.inr (by decide))).trans g6_1036
  clear g6_1002 g6_1007 g6_1008 g6_1009 g6_1010 g6_1011 g6_1012 g6_1013 g6_1014 g6_1015 g6_1035 g6_1036
  have l7_1001 := l6_1001.fw fw7 (by decide)
  have g7_1000 := u7.1
  have b7 := (fw7.1).trans b6
  have hf7 := fw7.2.1 hf6
  refine j_aload_n dX11_init_33 rfl rfl ?_
  refine j_new (w' := _) (n := 1007) dX11_init_34 nX11_18 rfl (z_alW g7_1007 (by decide)) (Nat.le_of_ble_eq_true rfl) (Nat.le_of_ble_eq_true rfl) ?_
  refine j_seal (n := 1007) (by decide) ?_
  intro w8 u8
  have fw8 := u8.fw (ρ := 47) (by decide) (by decide)
  have g8_1002 := (fw8.2.2 1002 (Or.inr (by decide))).trans g7_1002
  have g8_1003 := (fw8.2.2 1003 (Or.inr (by decide))).trans g7_1003
  have g8_1004 := (fw8.2.2 1004 (Or.inr (by decide))).trans g7_1004
  have g8_1005 := (fw8.2.2 1005 (Or.inr (by decide))).trans g7_1005
  have g8_1006 := (fw8.2.2 1006 (Or.inr (by decide))).trans g7_1006
  have g8_1008 := (fw8.2.2 1008 (Or.inr (by decide))).trans g7_1008
  have g8_1009 := (fw8.2.2 1009 (Or.inr (by decide))).trans g7_1009
  have g8_1010 := (fw8.2.2 1010 (Or.inr (by decide))).trans g7_1010
  have g8_1011 := (fw8.2.2 1011 (Or.inr (by decide))).trans g7_1011
  have g8_1012 := (fw8.2.2 1012 (Or.inr (by decide))).trans g7_1012
  have g8_1013 := (fw8.2.2 1013 (Or.inr (by decide))).trans g7_1013
  have g8_1014 := (fw8.2.2 1014 (Or.inr (by decide))).trans g7_1014
  have g8_1015 := (fw8.2.2 1015 (Or.inr (by decide))).trans g7_1015
  have g8_1035 := (fw8.2.2 1035 (Or.inr (by decide))).trans g7_1035
  have g8_1036 := (fw8.2.2 1036 (Or.inr (by decide))).trans g7_1036
  have g8_1000 := (fw8.2.2 1000 (Or.inr (by decide))).trans g7_1000
  clear g7_1002 g7_1003 g7_1004 g7_1005 g7_1006 g7_1008 g7_1009 g7_1010 g7_1011 g7_1012 g7_1013 g7_1014 g7_1015 g7_1035 g7_1036 g7_1000
  have l8_1001 := l7_1001.fw fw8 (by decide)
  have g8_1007 := u8.1
  have b8 := (fw8.1).trans b7
  have hf8 := fw8.2.1 hf7
  refine j_dup dX11_init_37 rfl ?_
  refine j_callI dX11_init_38 kJx4a65c_init_da8c8 rfl lX11_20 inJx4a65c_init_da8c8 rfl (cl_init hl w8 47 1007 (by decide) (by decide) g8_1007) (Nat.le_of_ble_eq_true rfl) ⟨(Nat.le_of_ble_eq_true rfl), (Nat.le_of_ble_eq_true rfl)⟩ rfl (Nat.le_of_ble_eq_true rfl) rfl rfl (fun _ _ h => h.elim) ?_
  rintro _ w9 ⟨rfl, fw9, hk9, l9_1007⟩
  have g9_1002 := (fw9.2.2 1002 (Or.inr (by decide))).trans g8_1002
  have g9_1003 := (fw9.2.2 1003 (Or.inr (by decide))).trans g8_1003
  have g9_1004 := (fw9.2.2 1004 (Or.inr (by decide))).trans g8_1004
  have g9_1005 := (fw9.2.2 1005 (Or.inr (by decide))).trans g8_1005
  have g9_1006 := (fw9.2.2 1006 (Or.inr (by decide))).trans g8_1006
  have g9_1008 := (fw9.2.2 1008 (Or.inr (by decide))).trans g8_1008
  have g9_1009 := (fw9.2.2 1009 (Or.inr (by decide))).trans g8_1009
  have g9_1010 := (fw9.2.2 1010 (Or.inr (by decide))).trans g8_1010
  have g9_1011 := (fw9.2.2 1011 (Or.inr (by decide))).trans g8_1011
  have g9_1012 := (fw9.2.2 1012 (Or.inr (by decide))).trans g8_1012
  have g9_1013 := (fw9.2.2 1013 (Or.inr (by decide))).trans g8_1013
  have g9_1014 := (fw9.2.2 1014 (Or.inr (by decide))).trans g8_1014
  have g9_1015 := (fw9.2.2 1015 (Or.inr (by decide))).trans g8_1015
  have g9_1035 := (fw9.2.2 1035 (Or.inr (by decide))).trans g8_1035
  have g9_1036 := (fw9.2.2 1036 (Or.inr (by decide))).trans g8_1036
  have g9_1000 := (fw9.2.2 1000 (Or.inr (by decide))).trans g8_1000
  clear g8_1002 g8_1003 g8_1004 g8_1005 g8_1006 g8_1008 g8_1009 g8_1010 g8_1011 g8_1012 g8_1013 g8_1014 g8_1015 g8_1035 g8_1036 g8_1000
  have l9_1001 := l8_1001.fw fw9 (by decide)
  have b9 := (fw9.1).trans b8
  have hf9 := fw9.2.1 hf8
  refine j_putF (w' := _) dX11_init_41 fX11_34 tX11_4 rfl (z_dc rfl rfl (z_w 1457 ((lwt_6_7 2).trans rfl) (by decide +kernel))) g9_1000 (Or.inl ⟨_, rfl⟩) rfl ?_
  refine j_seal (n := 1000) (by decide) ?_
  intro w10 u10
  have fw10 := u10.fw (ρ := 40) (by decide) (by decide)
  have g10_1002 := (fw10.2.2 1002 (Or.inr (by decide))).trans g9_1002
  have g10_1003 := (fw10.2.2 1003 (Or.inr (by decide))).trans g9_1003
  have g10_1004 := (fw10.2.2 1004 (Or.inr (by decide))).trans g9_1004
  have g10_1005 := (fw10.2.2 1005 (Or.inr (by decide))).trans g9_1005
  have g10_1006 := (fw10.2.2 1006 (Or.inr (by decide))).trans g9_1006
  have g10_1008 := (fw10.2.2 1008 (Or.inr (by decide))).trans g9_1008
  have g10_1009 := (fw10.2.2 1009 (Or.inr (by decide))).trans g9_1009
  have g10_1010 := (fw10.2.2 1010 (Or.inr (by decide))).trans g9_1010
  have g10_1011 := (fw10.2.2 1011 (Or.inr (by decide))).trans g9_1011
  have g10_1012 := (fw10.2.2 1012 (Or.inr (by decide))).trans g9_1012
  have g10_1013 := (fw10.2.2 1013 (Or.inr (by decide))).trans g9_1013
  have g10_1014 := (fw10.2.2 1014 (Or.inr (by decide))).trans g9_1014
  have g10_1015 := (fw10.2.2 1015 (Or.inr (by decide))).trans g9_1015
  have g10_1035 := (fw10.2.2 1035 (Or.inr (by decide))).trans g9_1035
  have g10_1036 := (fw10.2.2 1036 (Or.inr (by decide))).trans g9_1036
  clear g9_1002 g9_1003 g9_1004 g9_1005 g9_1006 g9_1008 g9_1009 g9_1010 g9_1011 g9_1012 g9_1013 g9_1014 g9_1015 g9_1035 g9_1036
  have l10_1001 := l9_1001.fw fw10 (by decide)
  have l10_1007 := l9_1007.fw fw10 (by decide)
  have g10_1000 := u10.1
  have b10 := (fw10.1).trans b9
  have hf10 := fw10.2.1 hf9
  refine j_aload_n dX11_init_44 rfl rfl ?_
  refine j_iconst (v := 2) dX11_init_45 (by decide) ?_
  refine j_anew (kd := 7) (N := 2) (w' := _) (n := 1008) dX11_init_46 rfl aX11_37 ao_X10 (by decide) (by decide) (by decide) (z_alW g10_1008 (by decide)) (Nat.le_of_ble_eq_true rfl) (Nat.le_of_ble_eq_true rfl) ?_
  refine j_seal (n := 1008) (by decide) ?_
  intro w11 u11
  have fw11 := u11.fw (ρ := 48) (by decide) (by decide)
  have g11_1002 := (fw11.2.2 1002 (Or.inr (by decide))).trans g10_1002
  have g11_1003 := (fw11.2.2 1003 (Or.inr (by decide))).trans g10_1003
  have g11_1004 := (fw11.2.2 1004 (Or.inr (by decide))).trans g10_1004
  have g11_1005 := (fw11.2.2 1005 (Or.inr (by decide))).trans g10_1005
  have g11_1006 := (fw11.2.2 1006 (Or.inr (by decide))).trans g10_1006
  have g11_1009 := (fw11.2.2 1009 (Or.inr (by decide))).trans g10_1009
  have g11_1010 := (fw11.2.2 1010 (Or.inr (by decide))).trans g10_1010
  have g11_1011 := (fw11.2.2 1011 (Or.inr (by decide))).trans g10_1011
  have g11_1012 := (fw11.2.2 1012 (Or.inr (by decide))).trans g10_1012
  have g11_1013 := (fw11.2.2 1013 (Or.inr (by decide))).trans g10_1013
  have g11_1014 := (fw11.2.2 1014 (Or.inr (by decide))).trans g10_1014
  have g11_1015 := (fw11.2.2 1015 (Or.inr (by decide))).trans g10_1015
  have g11_1035 := (fw11.2.2 1035 (Or.inr (by decide))).trans g10_1035
  have g11_1036 := (fw11.2.2 1036 (Or.inr (by decide))).trans g10_1036
  have g11_1000 := (fw11.2.2 1000 (Or.inr (by decide))).trans g10_1000
  clear g10_1002 g10_1003 g10_1004 g10_1005 g10_1006 g10_1009 g10_1010 g10_1011 g10_1012 g10_1013 g10_1014 g10_1015 g10_1035 g10_1036 g10_1000
  have l11_1001 := l10_1001.fw fw11 (by decide)
  have l11_1007 := l10_1007.fw fw11 (by decide)
  have g11_1008 := u11.1
  have b11 := (fw11.1).trans b10
  have hf11 := fw11.2.1 hf10
  refine j_dup dX11_init_49 rfl ?_
  refine j_iconst (v := 0) dX11_init_50 (by decide) ?_
  refine j_new (w' := _) (n := 1009) dX11_init_51 nX11_37 rfl (z_alW g11_1009 (by decide)) (Nat.le_of_ble_eq_true rfl) (Nat.le_of_ble_eq_true rfl) ?_
  refine j_seal (n := 1009) (by decide) ?_
  intro w12 u12
  have fw12 := u12.fw (ρ := 49) (by decide) (by decide)
  have g12_1002 := (fw12.2.2 1002 (Or.inr (by decide))).trans g11_1002
  have g12_1003 := (fw12.2.2 1003 (Or.inr (by decide))).trans g11_1003
  have g12_1004 := (fw12.2.2 1004 (Or.inr (by decide))).trans g11_1004
  have g12_1005 := (fw12.2.2 1005 (Or.inr (by decide))).trans g11_1005
  have g12_1006 := (fw12.2.2 1006 (Or.inr (by decide))).trans g11_1006
  have g12_1008 := (fw12.2.2 1008 (Or.inr (by decide))).trans g11_1008
  have g12_1010 := (fw12.2.2 1010 (Or.inr (by decide))).trans g11_1010
  have g12_1011 := (fw12.2.2 1011 (Or.inr (by decide))).trans g11_1011
  have g12_1012 := (fw12.2.2 1012 (Or.inr (by decide))).trans g11_1012
  have g12_1013 := (fw12.2.2 1013 (Or.inr (by decide))).trans g11_1013
  have g12_1014 := (fw12.2.2 1014 (Or.inr (by decide))).trans g11_1014
  have g12_1015 := (fw12.2.2 1015 (Or.inr (by decide))).trans g11_1015
  have g12_1035 := (fw12.2.2 1035 (Or.inr (by decide))).trans g11_1035
  have g12_1036 := (fw12.2.2 1036 (Or.inr (by decide))).trans g11_1036
  have g12_1000 := (fw12.2.2 1000 (Or.inr (by decide))).trans g11_1000
  clear g11_1002 g11_1003 g11_1004 g11_1005 g11_1006 g11_1008 g11_1010 g11_1011 g11_1012 g11_1013 g11_1014 g11_1015 g11_1035 g11_1036 g11_1000
  have l12_1001 := l11_1001.fw fw12 (by decide)
  have l12_1007 := l11_1007.fw fw12 (by decide)
  have g12_1009 := u12.1
  have b12 := (fw12.1).trans b11
  have hf12 := fw12.2.1 hf11
  refine j_dup dX11_init_54 rfl ?_
  refine j_callIN dX11_init_55 kX10_init rfl lX11_39 inX10_init rfl (cm_init1009 hl w12 hf12 (fun k hk => by subst hk; exact g12_1014) g12_1009) (Nat.le_of_ble_eq_true rfl) ⟨(Nat.le_of_ble_eq_true rfl), (Nat.le_of_ble_eq_true rfl)⟩ rfl (Nat.le_of_ble_eq_true rfl) rfl rfl (fun _ _ h => h.elim) ?_
  rintro _ w13 ⟨rfl, hb13, hfn13, hk13, g13_1009, l13_1014⟩
  have g13_1002 := (hk13 1002 (Or.inr ⟨by decide, by decide⟩)).trans g12_1002
  have g13_1003 := (hk13 1003 (Or.inr ⟨by decide, by decide⟩)).trans g12_1003
  have g13_1004 := (hk13 1004 (Or.inr ⟨by decide, by decide⟩)).trans g12_1004
  have g13_1005 := (hk13 1005 (Or.inr ⟨by decide, by decide⟩)).trans g12_1005
  have g13_1006 := (hk13 1006 (Or.inr ⟨by decide, by decide⟩)).trans g12_1006
  have g13_1008 := (hk13 1008 (Or.inr ⟨by decide, by decide⟩)).trans g12_1008
  have g13_1010 := (hk13 1010 (Or.inr ⟨by decide, by decide⟩)).trans g12_1010
  have g13_1011 := (hk13 1011 (Or.inr ⟨by decide, by decide⟩)).trans g12_1011
  have g13_1012 := (hk13 1012 (Or.inr ⟨by decide, by decide⟩)).trans g12_1012
  have g13_1013 := (hk13 1013 (Or.inr ⟨by decide, by decide⟩)).trans g12_1013
  have g13_1015 := (hk13 1015 (Or.inr ⟨by decide, by decide⟩)).trans g12_1015
  have g13_1035 := (hk13 1035 (Or.inr ⟨by decide, by decide⟩)).trans g12_1035
  have g13_1036 := (hk13 1036 (Or.inr ⟨by decide, by decide⟩)).trans g12_1036
  have g13_1000 := (hk13 1000 (Or.inr ⟨by decide, by decide⟩)).trans g12_1000
  clear g12_1002 g12_1003 g12_1004 g12_1005 g12_1006 g12_1008 g12_1010 g12_1011 g12_1012 g12_1013 g12_1015 g12_1035 g12_1036 g12_1000
  have l13_1001 := z_li.m (fun n9 _ h2 => hk13 n9 (Or.inr ⟨by omega, by omega⟩)) l12_1001
  have l13_1007 := z_li.m (fun n9 _ h2 => hk13 n9 (Or.inr ⟨by omega, by omega⟩)) l12_1007
  have b13 := hb13.trans b12
  refine j_aast (w' := _) (a := 1008) (b := 1009) dX11_init_58 g13_1008 rfl g13_1009 rfl (vp_in_iff.mpr (by decide)) rfl ?_
  refine j_seal (n := 1008) (by decide) ?_
  intro w14 u14
  have fw14 := u14.fw (ρ := 48) (by decide) (by decide)
  have g14_1002 := (fw14.2.2 1002 (Or.inr (by decide))).trans g13_1002
  have g14_1003 := (fw14.2.2 1003 (Or.inr (by decide))).trans g13_1003
  have g14_1004 := (fw14.2.2 1004 (Or.inr (by decide))).trans g13_1004
  have g14_1005 := (fw14.2.2 1005 (Or.inr (by decide))).trans g13_1005
  have g14_1006 := (fw14.2.2 1006 (Or.inr (by decide))).trans g13_1006
  have g14_1009 := (fw14.2.2 1009 (Or.inr (by decide))).trans g13_1009
  have g14_1010 := (fw14.2.2 1010 (Or.inr (by decide))).trans g13_1010
  have g14_1011 := (fw14.2.2 1011 (Or.inr (by decide))).trans g13_1011
  have g14_1012 := (fw14.2.2 1012 (Or.inr (by decide))).trans g13_1012
  have g14_1013 := (fw14.2.2 1013 (Or.inr (by decide))).trans g13_1013
  have g14_1015 := (fw14.2.2 1015 (Or.inr (by decide))).trans g13_1015
  have g14_1035 := (fw14.2.2 1035 (Or.inr (by decide))).trans g13_1035
  have g14_1036 := (fw14.2.2 1036 (Or.inr (by decide))).trans g13_1036
  have g14_1000 := (fw14.2.2 1000 (Or.inr (by decide))).trans g13_1000
  clear g13_1002 g13_1003 g13_1004 g13_1005 g13_1006 g13_1010 g13_1011 g13_1012 g13_1013 g13_1015 g13_1035 g13_1036 g13_1000
  have l14_1001 := l13_1001.fw fw14 (by decide)
  have l14_1007 := l13_1007.fw fw14 (by decide)
  have l14_1014 := l13_1014.fw fw14 (by decide)
  have g14_1008 := u14.1
  have b14 := (fw14.1).trans b13
  have hf14 := fw14.2.1 hfn13
  refine j_dup dX11_init_59 rfl ?_
  refine j_iconst (v := 1) dX11_init_60 (by decide) ?_
  refine j_new (w' := _) (n := 1010) dX11_init_61 nX11_37 rfl (z_alW g14_1010 (by decide)) (Nat.le_of_ble_eq_true rfl) (Nat.le_of_ble_eq_true rfl) ?_
  refine j_seal (n := 1010) (by decide) ?_
  intro w15 u15
  have fw15 := u15.fw (ρ := 50) (by decide) (by decide)
  have g15_1002 := (fw15.2.2 1002 (Or.inr (by decide))).trans g14_1002
  have g15_1003 := (fw15.2.2 1003 (Or.inr (by decide))).trans g14_1003
  have g15_1004 := (fw15.2.2 1004 (Or.inr (by decide))).trans g14_1004
  have g15_1005 := (fw15.2.2 1005 (Or.inr (by decide))).trans g14_1005
  have g15_1006 := (fw15.2.2 1006 (Or.inr (by decide))).trans g14_1006
  have g15_1008 := (fw15.2.2 1008 (Or.inr (by decide))).trans g14_1008
  have g15_1009 := (fw15.2.2 1009 (Or.inr (by decide))).trans g14_1009
  have g15_1011 := (fw15.2.2 1011 (Or.inr (by decide))).trans g14_1011
  have g15_1012 := (fw15.2.2 1012 (Or.inr (by decide))).trans g14_1012
  have g15_1013 := (fw15.2.2 1013 (Or.inr (by decide))).trans g14_1013
  have g15_1015 := (fw15.2.2 1015 (Or.inr (by decide))).trans g14_1015
  have g15_1035 := (fw15.2.2 1035 (Or.inr (by decide))).trans g14_1035
  have g15_1036 := (fw15.2.2 1036 (Or.inr (by decide))).trans g14_1036
  have g15_1000 := (fw15.2.2 1000 (Or.inr (by decide))).trans g14_1000
  clear g14_1002 g14_1003 g14_1004 g14_1005 g14_1006 g14_1008 g14_1009 g14_1011 g14_1012 g14_1013 g14_1015 g14_1035 g14_1036 g14_1000
  have l15_1001 := l14_1001.fw fw15 (by decide)
  have l15_1007 := l14_1007.fw fw15 (by decide)
  have l15_1014 := l14_1014.fw fw15 (by decide)
  have g15_1010 := u15.1
  have b15 := (fw15.1).trans b14
  have hf15 := fw15.2.1 hf14
  refine j_dup dX11_init_64 rfl ?_
  refine j_callIN dX11_init_65 kX10_init rfl lX11_39 inX10_init rfl (cm_init1010 hl w15 hf15 (fun k hk => by subst hk; exact g15_1015) g15_1010) (Nat.le_of_ble_eq_true rfl) ⟨(Nat.le_of_ble_eq_true rfl), (Nat.le_of_ble_eq_true rfl)⟩ rfl (Nat.le_of_ble_eq_true rfl) rfl rfl (fun _ _ h => h.elim) ?_
  rintro _ w16 ⟨rfl, hb16, hfn16, hk16, g16_1010, l16_1015⟩
  have g16_1002 := (hk16 1002 (Or.inr ⟨by decide, by decide⟩)).trans g15_1002
  have g16_1003 := (hk16 1003 (Or.inr ⟨by decide, by decide⟩)).trans g15_1003
  have g16_1004 := (hk16 1004 (Or.inr ⟨by decide, by decide⟩)).trans g15_1004
  have g16_1005 := (hk16 1005 (Or.inr ⟨by decide, by decide⟩)).trans g15_1005
  have g16_1006 := (hk16 1006 (Or.inr ⟨by decide, by decide⟩)).trans g15_1006
  have g16_1008 := (hk16 1008 (Or.inr ⟨by decide, by decide⟩)).trans g15_1008
  have g16_1009 := (hk16 1009 (Or.inr ⟨by decide, by decide⟩)).trans g15_1009
  have g16_1011 := (hk16 1011 (Or.inr ⟨by decide, by decide⟩)).trans g15_1011
  have g16_1012 := (hk16 1012 (Or.inr ⟨by decide, by decide⟩)).trans g15_1012
  have g16_1013 := (hk16 1013 (Or.inr ⟨by decide, by decide⟩)).trans g15_1013
  have g16_1035 := (hk16 1035 (Or.inr ⟨by decide, by decide⟩)).trans g15_1035
  have g16_1036 := (hk16 1036 (Or.inr ⟨by decide, by decide⟩)).trans g15_1036
  have g16_1000 := (hk16 1000 (Or.inr ⟨by decide, by decide⟩)).trans g15_1000
  clear g15_1002 g15_1003 g15_1004 g15_1005 g15_1006 g15_1008 g15_1009 g15_1011 g15_1012 g15_1013 g15_1035 g15_1036 g15_1000
  have l16_1001 := z_li.m (fun n9 _ h2 => hk16 n9 (Or.inr ⟨by omega, by omega⟩)) l15_1001
  have l16_1007 := z_li.m (fun n9 _ h2 => hk16 n9 (Or.inr ⟨by omega, by omega⟩)) l15_1007
  have l16_1014 := z_li.m (fun n9 _ h2 => hk16 n9 (Or.inr ⟨by omega, by omega⟩)) l15_1014
  have b16 := hb16.trans b15
  refine j_aast (w' := _) (a := 1008) (b := 1010) dX11_init_68 g16_1008 rfl g16_1010 rfl (vp_in_iff.mpr (by decide)) rfl ?_
  refine j_seal (n := 1008) (by decide) ?_
  intro w17 u17
  have fw17 := u17.fw (ρ := 48) (by decide) (by decide)
  have g17_1002 := (fw17.2.2 1002 (Or.inr (by decide))).trans g16_1002
  have g17_1003 := (fw17.2.2 1003 (Or.inr (by decide))).trans g16_1003
  have g17_1004 := (fw17.2.2 1004 (Or.inr (by decide))).trans g16_1004
  have g17_1005 := (fw17.2.2 1005 (Or.inr (by decide))).trans g16_1005
  have g17_1006 := (fw17.2.2 1006 (Or.inr (by decide))).trans g16_1006
  have g17_1009 := (fw17.2.2 1009 (Or.inr (by decide))).trans g16_1009
  have g17_1010 := (fw17.2.2 1010 (Or.inr (by decide))).trans g16_1010
  have g17_1011 := (fw17.2.2 1011 (Or.inr (by decide))).trans g16_1011
  have g17_1012 := (fw17.2.2 1012 (Or.inr (by decide))).trans g16_1012
  have g17_1013 := (fw17.2.2 1013 (Or.inr (by decide))).trans g16_1013
  have g17_1035 := (fw17.2.2 1035 (Or.inr (by decide))).trans g16_1035
  have g17_1036 := (fw17.2.2 1036 (Or.inr (by decide))).trans g16_1036
  have g17_1000 := (fw17.2.2 1000 (Or.inr (by decide))).trans g16_1000
  clear g16_1002 g16_1003 g16_1004 g16_1005 g16_1006 g16_1009 g16_1011 g16_1012 g16_1013 g16_1035 g16_1036 g16_1000
  have l17_1001 := l16_1001.fw fw17 (by decide)
  have l17_1007 := l16_1007.fw fw17 (by decide)
  have l17_1014 := l16_1014.fw fw17 (by decide)
  have l17_1015 := l16_1015.fw fw17 (by decide)
  have g17_1008 := u17.1
  have b17 := (fw17.1).trans b16
  have hf17 := fw17.2.1 hfn16
  refine j_putF (w' := _) dX11_init_69 fX11_40 tX11_5 rfl (z_dc rfl rfl (z_w 1458 ((lwt_6_7 3).trans rfl) (by decide +kernel))) g17_1000 (Or.inr ⟨_, rfl⟩) rfl ?_
  refine j_seal (n := 1000) (by decide) ?_
  intro w18 u18
  have fw18 := u18.fw (ρ := 40) (by decide) (by decide)
  have g18_1002 := (fw18.2.2 1002 (Or.inr (by decide))).trans g17_1002
  have g18_1003 := (fw18.2.2 1003 (Or.inr (by decide))).trans g17_1003
  have g18_1004 := (fw18.2.2 1004 (Or.inr (by decide))).trans g17_1004
  have g18_1005 := (fw18.2.2 1005 (Or.inr (by decide))).trans g17_1005
  have g18_1006 := (fw18.2.2 1006 (Or.inr (by decide))).trans g17_1006
  have g18_1008 := (fw18.2.2 1008 (Or.inr (by decide))).trans g17_1008
  have g18_1009 := (fw18.2.2 1009 (Or.inr (by decide))).trans g17_1009
  have g18_1010 := (fw18.2.2 1010 (Or.inr (by decide))).trans g17_1010
  have g18_1011 := (fw18.2.2 1011 (Or.inr (by decide))).trans g17_1011
  have g18_1012 := (fw18.2.2 1012 (Or.inr (by decide))).trans g17_1012
  have g18_1013 := (fw18.2.2 1013 (Or.inr (by decide))).trans g17_1013
  have g18_1035 := (fw18.2.2 1035 (Or.inr (by decide))).trans g17_1035
  have g18_1036 := (fw18.2.2 1036 (Or.inr (by decide))).trans g17_1036
  clear g17_1002 g17_1003 g17_1004 g17_1005 g17_1006 g17_1008 g17_1009 g17_1010 g17_1011 g17_1012 g17_1013 g17_1035 g17_1036
  have l18_1001 := l17_1001.fw fw18 (by decide)
  have l18_1007 := l17_1007.fw fw18 (by decide)
  have l18_1014 := l17_1014.fw fw18 (by decide)
  have l18_1015 := l17_1015.fw fw18 (by decide)
  have g18_1000 := u18.1
  have b18 := (fw18.1).trans b17
  have hf18 := fw18.2.1 hf17
  refine j_iconst (v := 0) dX11_init_72 (by decide) ?_
  refine j_istore_n (lo' := [(1, _), (0, _)]) dX11_init_73 (by decide) rfl ?_
  refine j_iload_n dX11_init_74 rfl ?_
  refine j_iconst (v := 2) dX11_init_75 (by decide) ?_
  refine j_icmp_ge (tgt := 100) dX11_init_76 (by decide) (fun c_76_436 => ?_) (fun c_76_436 => ?_)
  · exact absurd c_76_436 (by decide)
  · refine j_aload_n dX11_init_79 rfl rfl ?_
    refine j_getf dX11_init_80 fX11_21 g18_1000 rfl ?_
    refine j_new (w' := _) (n := 1035) dX11_init_83 nX11_18 rfl (z_alW g18_1035 (by decide)) (Nat.le_of_ble_eq_true rfl) (Nat.le_of_ble_eq_true rfl) ?_
    refine j_seal (n := 1035) (by decide) ?_
    intro w19 u19
    have fw19 := u19.fw (ρ := 11) (by decide) (by decide)
    have g19_1002 := (fw19.2.2 1002 (Or.inr (by decide))).trans g18_1002
    have g19_1003 := (fw19.2.2 1003 (Or.inr (by decide))).trans g18_1003
    have g19_1004 := (fw19.2.2 1004 (Or.inr (by decide))).trans g18_1004
    have g19_1005 := (fw19.2.2 1005 (Or.inr (by decide))).trans g18_1005
    have g19_1006 := (fw19.2.2 1006 (Or.inr (by decide))).trans g18_1006
    have g19_1008 := (fw19.2.2 1008 (Or.inr (by decide))).trans g18_1008
    have g19_1009 := (fw19.2.2 1009 (Or.inr (by decide))).trans g18_1009
    have g19_1010 := (fw19.2.2 1010 (Or.inr (by decide))).trans g18_1010
    have g19_1011 := (fw19.2.2 1011 (Or.inr (by decide))).trans g18_1011
    have g19_1012 := (fw19.2.2 1012 (Or.inr (by decide))).trans g18_1012
    have g19_1013 := (fw19.2.2 1013 (Or.inr (by decide))).trans g18_1013
    have g19_1036 := (fw19.2.2 1036 (Or.inr (by decide))).trans g18_1036
    have g19_1000 := (fw19.2.2 1000 (Or.inr (by decide))).trans g18_1000
    clear g18_1002 g18_1003 g18_1004 g18_1005 g18_1006 g18_1008 g18_1009 g18_1010 g18_1011 g18_1012 g18_1013 g18_1036 g18_1000
    have l19_1001 := l18_1001.fw fw19 (by decide)
    have l19_1007 := l18_1007.fw fw19 (by decide)
    have l19_1014 := l18_1014.fw fw19 (by decide)
    have l19_1015 := l18_1015.fw fw19 (by decide)
    have g19_1035 := u19.1
    have b19 := (fw19.1).trans b18
    have hf19 := fw19.2.1 hf18
    refine j_dup dX11_init_86 rfl ?_
    refine j_callI dX11_init_87 kJx4a65c_init_da8c8 rfl lX11_20 inJx4a65c_init_da8c8 rfl (cl_init hl w19 11 1035 (by decide) (by decide) g19_1035) (Nat.le_of_ble_eq_true rfl) ⟨(Nat.le_of_ble_eq_true rfl), (Nat.le_of_ble_eq_true rfl)⟩ rfl (Nat.le_of_ble_eq_true rfl) rfl rfl (fun _ _ h => h.elim) ?_
    rintro _ w20 ⟨rfl, fw20, hk20, l20_1035⟩
    have g20_1002 := (fw20.2.2 1002 (Or.inr (by decide))).trans g19_1002
    have g20_1003 := (fw20.2.2 1003 (Or.inr (by decide))).trans g19_1003
    have g20_1004 := (fw20.2.2 1004 (Or.inr (by decide))).trans g19_1004
    have g20_1005 := (fw20.2.2 1005 (Or.inr (by decide))).trans g19_1005
    have g20_1006 := (fw20.2.2 1006 (Or.inr (by decide))).trans g19_1006
    have g20_1008 := (fw20.2.2 1008 (Or.inr (by decide))).trans g19_1008
    have g20_1009 := (fw20.2.2 1009 (Or.inr (by decide))).trans g19_1009
    have g20_1010 := (fw20.2.2 1010 (Or.inr (by decide))).trans g19_1010
    have g20_1011 := (fw20.2.2 1011 (Or.inr (by decide))).trans g19_1011
    have g20_1012 := (fw20.2.2 1012 (Or.inr (by decide))).trans g19_1012
    have g20_1013 := (fw20.2.2 1013 (Or.inr (by decide))).trans g19_1013
    have g20_1036 := (fw20.2.2 1036 (Or.inr (by decide))).trans g19_1036
    have g20_1000 := (fw20.2.2 1000 (Or.inr (by decide))).trans g19_1000
    clear g19_1002 g19_1003 g19_1004 g19_1005 g19_1006 g19_1008 g19_1009 g19_1010 g19_1011 g19_1012 g19_1013 g19_1036 g19_1000
    have l20_1001 := l19_1001.fw fw20 (by decide)
    have l20_1007 := l19_1007.fw fw20 (by decide)
    have l20_1014 := l19_1014.fw fw20 (by decide)
    have l20_1015 := l19_1015.fw fw20 (by decide)
    have b20 := (fw20.1).trans b19
    have hf20 := fw20.2.1 hf19
    obtain ⟨lv1, -, lg1⟩ := z_li.cell l20_1001
    refine j_callV (q := (RJx4a65c, TJx4a65c, 3)) dX11_init_90 kJx4a65c_add_9ea2d lX11_44 inJx4a65c_add_9ea2d seJx4a65c_add_9ea2d lg1 rfl (cl_add hl w20 41 1001 _ _ 2 (.ref 1035) l20_1001 (by decide) hf20 (by decide) (by decide) (fun v hv => by cases hv) ⟨Or.inr ⟨1035, rfl, Or.inr (by decide)⟩, "java/util/ArrayList", l20_1035.is, (z_wn 1984 ((lwg_9 19).trans rfl) (by decide +kernel))⟩) (Nat.le_of_ble_eq_true rfl) ⟨(Nat.le_of_ble_eq_true rfl), (Nat.le_of_ble_eq_true rfl)⟩ rfl (Nat.le_of_ble_eq_true rfl) rfl rfl (fun _ _ h => h.elim) ?_
    rintro _ w21 ⟨rfl, fw21, mo21, l21_1001⟩
    have g21_1002 := (fw21.2.2 1002 (Or.inr (by decide))).trans g20_1002
    have g21_1003 := (fw21.2.2 1003 (Or.inr (by decide))).trans g20_1003
    have g21_1004 := (fw21.2.2 1004 (Or.inr (by decide))).trans g20_1004
    have g21_1005 := (fw21.2.2 1005 (Or.inr (by decide))).trans g20_1005
    have g21_1006 := (fw21.2.2 1006 (Or.inr (by decide))).trans g20_1006
    have g21_1008 := (fw21.2.2 1008 (Or.inr (by decide))).trans g20_1008
    have g21_1009 := (fw21.2.2 1009 (Or.inr (by decide))).trans g20_1009
    have g21_1010 := (fw21.2.2 1010 (Or.inr (by decide))).trans g20_1010
    have g21_1011 := (fw21.2.2 1011 (Or.inr (by decide))).trans g20_1011
    have g21_1012 := (fw21.2.2 1012 (Or.inr (by decide))).trans g20_1012
    have g21_1013 := (fw21.2.2 1013 (Or.inr (by decide))).trans g20_1013
    have g21_1036 := (fw21.2.2 1036 (Or.inr (by decide))).trans g20_1036
    have g21_1000 := (fw21.2.2 1000 (Or.inr (by decide))).trans g20_1000
    clear g20_1002 g20_1003 g20_1004 g20_1005 g20_1006 g20_1008 g20_1009 g20_1010 g20_1011 g20_1012 g20_1013 g20_1036 g20_1000
    have l21_1007 := l20_1007.fw fw21 (by decide)
    have l21_1014 := l20_1014.fw fw21 (by decide)
    have l21_1015 := l20_1015.fw fw21 (by decide)
    have l21_1035 := l20_1035.fw fw21 (by decide)
    have b21 := (fw21.1).trans b20
    have hf21 := fw21.2.1 hf20
    refine j_pop dX11_init_93 rfl ?_
    refine j_iinc (lo' := [(1, _), (0, _)]) dX11_init_94 rfl rfl (by decide) rfl ?_
    refine j_goto (tgt := 74) dX11_init_97 (by decide) ?_
    refine j_iload_n dX11_init_74 rfl ?_
    refine j_iconst (v := 2) dX11_init_75 (by decide) ?_
    refine j_icmp_ge (tgt := 100) dX11_init_76 (by decide) (fun c_76_513 => ?_) (fun c_76_513 => ?_)
    · exact absurd c_76_513 (by decide)
    · refine j_aload_n dX11_init_79 rfl rfl ?_
      refine j_getf dX11_init_80 fX11_21 g21_1000 rfl ?_
      refine j_new (w' := _) (n := 1036) dX11_init_83 nX11_18 rfl (z_alW g21_1036 (by decide)) (Nat.le_of_ble_eq_true rfl) (Nat.le_of_ble_eq_true rfl) ?_
      refine j_seal (n := 1036) (by decide) ?_
      intro w22 u22
      have fw22 := u22.fw (ρ := 12) (by decide) (by decide)
      have g22_1002 := (fw22.2.2 1002 (Or.inr (by decide))).trans g21_1002
      have g22_1003 := (fw22.2.2 1003 (Or.inr (by decide))).trans g21_1003
      have g22_1004 := (fw22.2.2 1004 (Or.inr (by decide))).trans g21_1004
      have g22_1005 := (fw22.2.2 1005 (Or.inr (by decide))).trans g21_1005
      have g22_1006 := (fw22.2.2 1006 (Or.inr (by decide))).trans g21_1006
      have g22_1008 := (fw22.2.2 1008 (Or.inr (by decide))).trans g21_1008
      have g22_1009 := (fw22.2.2 1009 (Or.inr (by decide))).trans g21_1009
      have g22_1010 := (fw22.2.2 1010 (Or.inr (by decide))).trans g21_1010
      have g22_1011 := (fw22.2.2 1011 (Or.inr (by decide))).trans g21_1011
      have g22_1012 := (fw22.2.2 1012 (Or.inr (by decide))).trans g21_1012
      have g22_1013 := (fw22.2.2 1013 (Or.inr (by decide))).trans g21_1013
      have g22_1000 := (fw22.2.2 1000 (Or.inr (by decide))).trans g21_1000
      clear g21_1002 g21_1003 g21_1004 g21_1005 g21_1006 g21_1008 g21_1009 g21_1010 g21_1011 g21_1012 g21_1013 g21_1000
      have l22_1001 := l21_1001.fw fw22 (by decide)
      have l22_1007 := l21_1007.fw fw22 (by decide)
      have l22_1014 := l21_1014.fw fw22 (by decide)
      have l22_1015 := l21_1015.fw fw22 (by decide)
      have l22_1035 := l21_1035.fw fw22 (by decide)
      have g22_1036 := u22.1
      have b22 := (fw22.1).trans b21
      have hf22 := fw22.2.1 hf21
      refine j_dup dX11_init_86 rfl ?_
      refine j_callI dX11_init_87 kJx4a65c_init_da8c8 rfl lX11_20 inJx4a65c_init_da8c8 rfl (cl_init hl w22 12 1036 (by decide) (by decide) g22_1036) (Nat.le_of_ble_eq_true rfl) ⟨(Nat.le_of_ble_eq_true rfl), (Nat.le_of_ble_eq_true rfl)⟩ rfl (Nat.le_of_ble_eq_true rfl) rfl rfl (fun _ _ h => h.elim) ?_
      rintro _ w23 ⟨rfl, fw23, hk23, l23_1036⟩
      have g23_1002 := (fw23.2.2 1002 (Or.inr (by decide))).trans g22_1002
      have g23_1003 := (fw23.2.2 1003 (Or.inr (by decide))).trans g22_1003
      have g23_1004 := (fw23.2.2 1004 (Or.inr (by decide))).trans g22_1004
      have g23_1005 := (fw23.2.2 1005 (Or.inr (by decide))).trans g22_1005
      have g23_1006 := (fw23.2.2 1006 (Or.inr (by decide))).trans g22_1006
      have g23_1008 := (fw23.2.2 1008 (Or.inr (by decide))).trans g22_1008
      have g23_1009 := (fw23.2.2 1009 (Or.inr (by decide))).trans g22_1009
      have g23_1010 := (fw23.2.2 1010 (Or.inr (by decide))).trans g22_1010
      have g23_1011 := (fw23.2.2 1011 (Or.inr (by decide))).trans g22_1011
      have g23_1012 := (fw23.2.2 1012 (Or.inr (by decide))).trans g22_1012
      have g23_1013 := (fw23.2.2 1013 (Or.inr (by decide))).trans g22_1013
      have g23_1000 := (fw23.2.2 1000 (Or.inr (by decide))).trans g22_1000
      clear g22_1002 g22_1003 g22_1004 g22_1005 g22_1006 g22_1008 g22_1009 g22_1010 g22_1011 g22_1012 g22_1013 g22_1000
      have l23_1001 := l22_1001.fw fw23 (by decide)
      have l23_1007 := l22_1007.fw fw23 (by decide)
      have l23_1014 := l22_1014.fw fw23 (by decide)
      have l23_1015 := l22_1015.fw fw23 (by decide)
      have l23_1035 := l22_1035.fw fw23 (by decide)
      have b23 := (fw23.1).trans b22
      have hf23 := fw23.2.1 hf22
      obtain ⟨lv2, -, lg2⟩ := z_li.cell l23_1001
      refine j_callV (q := (RJx4a65c, TJx4a65c, 3)) dX11_init_90 kJx4a65c_add_9ea2d lX11_44 inJx4a65c_add_9ea2d seJx4a65c_add_9ea2d lg2 rfl (cl_add hl w23 41 1001 _ _ 2 (.ref 1036) l23_1001 (by decide) hf23 (by decide) (by decide) (z_mem2 (fun v hv => by cases hv) ⟨Or.inr ⟨1035, rfl, Or.inr (by decide)⟩, "java/util/ArrayList", l23_1035.is, (z_wn 1984 ((lwg_9 19).trans rfl) (by decide +kernel))⟩) ⟨Or.inr ⟨1036, rfl, Or.inr (by decide)⟩, "java/util/ArrayList", l23_1036.is, (z_wn 1984 ((lwg_9 19).trans rfl) (by decide +kernel))⟩) (Nat.le_of_ble_eq_true rfl) ⟨(Nat.le_of_ble_eq_true rfl), (Nat.le_of_ble_eq_true rfl)⟩ rfl (Nat.le_of_ble_eq_true rfl) rfl rfl (fun _ _ h => h.elim) ?_
      rintro _ w24 ⟨rfl, fw24, mo24, l24_1001⟩
      have g24_1002 := (fw24.2.2 1002 (Or.inr (by decide))).trans g23_1002
      have g24_1003 := (fw24.2.2 1003 (Or.inr (by decide))).trans g23_1003
      have g24_1004 := (fw24.2.2 1004 (Or.inr (by decide))).trans g23_1004
      have g24_1005 := (fw24.2.2 1005 (Or.inr (by decide))).trans g23_1005
      have g24_1006 := (fw24.2.2 1006 (Or.inr (by decide))).trans g23_1006
      have g24_1008 := (fw24.2.2 1008 (Or.inr (by decide))).trans g23_1008
      have g24_1009 := (fw24.2.2 1009 (Or.inr (by decide))).trans g23_1009
      have g24_1010 := (fw24.2.2 1010 (Or.inr (by decide))).trans g23_1010
      have g24_1011 := (fw24.2.2 1011 (Or.inr (by decide))).trans g23_1011
      have g24_1012 := (fw24.2.2 1012 (Or.inr (by decide))).trans g23_1012
      have g24_1013 := (fw24.2.2 1013 (Or.inr (by decide))).trans g23_1013
      have g24_1000 := (fw24.2.2 1000 (Or.inr (by decide))).trans g23_1000
      clear g23_1002 g23_1003 g23_1004 g23_1005 g23_1006 g23_1008 g23_1009 g23_1010 g23_1011 g23_1012 g23_1013 g23_1000
      have l24_1007 := l23_1007.fw fw24 (by decide)
      have l24_1014 := l23_1014.fw fw24 (by decide)
      have l24_1015 := l23_1015.fw fw24 (by decide)
      have l24_1035 := l23_1035.fw fw24 (by decide)
      have l24_1036 := l23_1036.fw fw24 (by decide)
      have b24 := (fw24.1).trans b23
      have hf24 := fw24.2.1 hf23
      refine j_pop dX11_init_93 rfl ?_
      refine j_iinc (lo' := [(1, _), (0, _)]) dX11_init_94 rfl rfl (by decide) rfl ?_
      refine j_goto (tgt := 74) dX11_init_97 (by decide) ?_
      refine j_iload_n dX11_init_74 rfl ?_
      refine j_iconst (v := 2) dX11_init_75 (by decide) ?_
      refine j_icmp_ge (tgt := 100) dX11_init_76 (by decide) (fun c_76_590 => ?_) (fun c_76_590 => ?_)
      · refine j_iconst (v := 0) dX11_init_100 (by decide) ?_
        refine j_istore_n (lo' := [(1, _), (0, _)]) dX11_init_101 (by decide) rfl ?_
        refine j_iload_n dX11_init_102 rfl ?_
        refine j_iconst (v := 3) dX11_init_103 (by decide) ?_
        refine j_icmp_ge (tgt := 128) dX11_init_104 (by decide) (fun c_104_595 => ?_) (fun c_104_595 => ?_)
        · exact absurd c_104_595 (by decide)
        · refine j_aload_n dX11_init_107 rfl rfl ?_
          refine j_getf dX11_init_108 fX11_34 g24_1000 rfl ?_
          refine j_new (w' := _) (n := 1011) dX11_init_111 nX11_18 rfl (z_alW g24_1011 (by decide)) (Nat.le_of_ble_eq_true rfl) (Nat.le_of_ble_eq_true rfl) ?_
          refine j_seal (n := 1011) (by decide) ?_
          intro w25 u25
          have fw25 := u25.fw (ρ := 51) (by decide) (by decide)
          have g25_1002 := (fw25.2.2 1002 (Or.inr (by decide))).trans g24_1002
          have g25_1003 := (fw25.2.2 1003 (Or.inr (by decide))).trans g24_1003
          have g25_1004 := (fw25.2.2 1004 (Or.inr (by decide))).trans g24_1004
          have g25_1005 := (fw25.2.2 1005 (Or.inr (by decide))).trans g24_1005
          have g25_1006 := (fw25.2.2 1006 (Or.inr (by decide))).trans g24_1006
          have g25_1008 := (fw25.2.2 1008 (Or.inr (by decide))).trans g24_1008
          have g25_1009 := (fw25.2.2 1009 (Or.inr (by decide))).trans g24_1009
          have g25_1010 := (fw25.2.2 1010 (Or.inr (by decide))).trans g24_1010
          have g25_1012 := (fw25.2.2 1012 (Or.inr (by decide))).trans g24_1012
          have g25_1013 := (fw25.2.2 1013 (Or.inr (by decide))).trans g24_1013
          have g25_1000 := (fw25.2.2 1000 (Or.inr (by decide))).trans g24_1000
          clear g24_1002 g24_1003 g24_1004 g24_1005 g24_1006 g24_1008 g24_1009 g24_1010 g24_1012 g24_1013 g24_1000
          have l25_1001 := l24_1001.fw fw25 (by decide)
          have l25_1007 := l24_1007.fw fw25 (by decide)
          have l25_1014 := l24_1014.fw fw25 (by decide)
          have l25_1015 := l24_1015.fw fw25 (by decide)
          have l25_1035 := l24_1035.fw fw25 (by decide)
          have l25_1036 := l24_1036.fw fw25 (by decide)
          have g25_1011 := u25.1
          have b25 := (fw25.1).trans b24
          have hf25 := fw25.2.1 hf24
          refine j_dup dX11_init_114 rfl ?_
          refine j_callI dX11_init_115 kJx4a65c_init_da8c8 rfl lX11_20 inJx4a65c_init_da8c8 rfl (cl_init hl w25 51 1011 (by decide) (by decide) g25_1011) (Nat.le_of_ble_eq_true rfl) ⟨(Nat.le_of_ble_eq_true rfl), (Nat.le_of_ble_eq_true rfl)⟩ rfl (Nat.le_of_ble_eq_true rfl) rfl rfl (fun _ _ h => h.elim) ?_
          rintro _ w26 ⟨rfl, fw26, hk26, l26_1011⟩
          have g26_1002 := (fw26.2.2 1002 (Or.inr (by decide))).trans g25_1002
          have g26_1003 := (fw26.2.2 1003 (Or.inr (by decide))).trans g25_1003
          have g26_1004 := (fw26.2.2 1004 (Or.inr (by decide))).trans g25_1004
          have g26_1005 := (fw26.2.2 1005 (Or.inr (by decide))).trans g25_1005
          have g26_1006 := (fw26.2.2 1006 (Or.inr (by decide))).trans g25_1006
          have g26_1008 := (fw26.2.2 1008 (Or.inr (by decide))).trans g25_1008
          have g26_1009 := (fw26.2.2 1009 (Or.inr (by decide))).trans g25_1009
          have g26_1010 := (fw26.2.2 1010 (Or.inr (by decide))).trans g25_1010
          have g26_1012 := (fw26.2.2 1012 (Or.inr (by decide))).trans g25_1012
          have g26_1013 := (fw26.2.2 1013 (Or.inr (by decide))).trans g25_1013
          have g26_1000 := (fw26.2.2 1000 (Or.inr (by decide))).trans g25_1000
          clear g25_1002 g25_1003 g25_1004 g25_1005 g25_1006 g25_1008 g25_1009 g25_1010 g25_1012 g25_1013 g25_1000
          have l26_1001 := l25_1001.fw fw26 (by decide)
          have l26_1007 := l25_1007.fw fw26 (by decide)
          have l26_1014 := l25_1014.fw fw26 (by decide)
          have l26_1015 := l25_1015.fw fw26 (by decide)
          have l26_1035 := l25_1035.fw fw26 (by decide)
          have l26_1036 := l25_1036.fw fw26 (by decide)
          have b26 := (fw26.1).trans b25
          have hf26 := fw26.2.1 hf25
          obtain ⟨lv3, -, lg3⟩ := z_li.cell l26_1007
          refine j_callV (q := (RJx4a65c, TJx4a65c, 3)) dX11_init_118 kJx4a65c_add_9ea2d lX11_44 inJx4a65c_add_9ea2d seJx4a65c_add_9ea2d lg3 rfl (cl_add hl w26 47 1007 _ _ 2 (.ref 1011) l26_1007 (by decide) hf26 (by decide) (by decide) (fun v hv => by cases hv) ⟨Or.inr ⟨1011, rfl, Or.inr (by decide)⟩, "java/util/ArrayList", l26_1011.is, (z_wn 1984 ((lwg_9 19).trans rfl) (by decide +kernel))⟩) (Nat.le_of_ble_eq_true rfl) ⟨(Nat.le_of_ble_eq_true rfl), (Nat.le_of_ble_eq_true rfl)⟩ rfl (Nat.le_of_ble_eq_true rfl) rfl rfl (fun _ _ h => h.elim) ?_
          rintro _ w27 ⟨rfl, fw27, mo27, l27_1007⟩
          have g27_1002 := (fw27.2.2 1002 (Or.inr (by decide))).trans g26_1002
          have g27_1003 := (fw27.2.2 1003 (Or.inr (by decide))).trans g26_1003
          have g27_1004 := (fw27.2.2 1004 (Or.inr (by decide))).trans g26_1004
          have g27_1005 := (fw27.2.2 1005 (Or.inr (by decide))).trans g26_1005
          have g27_1006 := (fw27.2.2 1006 (Or.inr (by decide))).trans g26_1006
          have g27_1008 := (fw27.2.2 1008 (Or.inr (by decide))).trans g26_1008
          have g27_1009 := (fw27.2.2 1009 (Or.inr (by decide))).trans g26_1009
          have g27_1010 := (fw27.2.2 1010 (Or.inr (by decide))).trans g26_1010
          have g27_1012 := (fw27.2.2 1012 (Or.inr (by decide))).trans g26_1012
          have g27_1013 := (fw27.2.2 1013 (Or.inr (by decide))).trans g26_1013
          have g27_1000 := (fw27.2.2 1000 (Or.inr (by decide))).trans g26_1000
          clear g26_1002 g26_1003 g26_1004 g26_1005 g26_1006 g26_1008 g26_1009 g26_1010 g26_1012 g26_1013 g26_1000
          have l27_1001 := l26_1001.fw fw27 (by decide)
          have l27_1014 := l26_1014.fw fw27 (by decide)
          have l27_1015 := l26_1015.fw fw27 (by decide)
          have l27_1035 := l26_1035.fw fw27 (by decide)
          have l27_1036 := l26_1036.fw fw27 (by decide)
          have l27_1011 := l26_1011.fw fw27 (by decide)
          have b27 := (fw27.1).trans b26
          have hf27 := fw27.2.1 hf26
          refine j_pop dX11_init_121 rfl ?_
          refine j_iinc (lo' := [(1, _), (0, _)]) dX11_init_122 rfl rfl (by decide) rfl ?_
          refine j_goto (tgt := 102) dX11_init_125 (by decide) ?_
          refine j_iload_n dX11_init_102 rfl ?_
          refine j_iconst (v := 3) dX11_init_103 (by decide) ?_
          refine j_icmp_ge (tgt := 128) dX11_init_104 (by decide) (fun c_104_672 => ?_) (fun c_104_672 => ?_)
          · exact absurd c_104_672 (by decide)
          · refine j_aload_n dX11_init_107 rfl rfl ?_
            refine j_getf dX11_init_108 fX11_34 g27_1000 rfl ?_
            refine j_new (w' := _) (n := 1012) dX11_init_111 nX11_18 rfl (z_alW g27_1012 (by decide)) (Nat.le_of_ble_eq_true rfl) (Nat.le_of_ble_eq_true rfl) ?_
            refine j_seal (n := 1012) (by decide) ?_
            intro w28 u28
            have fw28 := u28.fw (ρ := 52) (by decide) (by decide)
            have g28_1002 := (fw28.2.2 1002 (Or.inr (by decide))).trans g27_1002
            have g28_1003 := (fw28.2.2 1003 (Or.inr (by decide))).trans g27_1003
            have g28_1004 := (fw28.2.2 1004 (Or.inr (by decide))).trans g27_1004
            have g28_1005 := (fw28.2.2 1005 (Or.inr (by decide))).trans g27_1005
            have g28_1006 := (fw28.2.2 1006 (Or.inr (by decide))).trans g27_1006
            have g28_1008 := (fw28.2.2 1008 (Or.inr (by decide))).trans g27_1008
            have g28_1009 := (fw28.2.2 1009 (Or.inr (by decide))).trans g27_1009
            have g28_1010 := (fw28.2.2 1010 (Or.inr (by decide))).trans g27_1010
            have g28_1013 := (fw28.2.2 1013 (Or.inr (by decide))).trans g27_1013
            have g28_1000 := (fw28.2.2 1000 (Or.inr (by decide))).trans g27_1000
            clear g27_1002 g27_1003 g27_1004 g27_1005 g27_1006 g27_1008 g27_1009 g27_1010 g27_1013 g27_1000
            have l28_1001 := l27_1001.fw fw28 (by decide)
            have l28_1007 := l27_1007.fw fw28 (by decide)
            have l28_1014 := l27_1014.fw fw28 (by decide)
            have l28_1015 := l27_1015.fw fw28 (by decide)
            have l28_1035 := l27_1035.fw fw28 (by decide)
            have l28_1036 := l27_1036.fw fw28 (by decide)
            have l28_1011 := l27_1011.fw fw28 (by decide)
            have g28_1012 := u28.1
            have b28 := (fw28.1).trans b27
            have hf28 := fw28.2.1 hf27
            refine j_dup dX11_init_114 rfl ?_
            refine j_callI dX11_init_115 kJx4a65c_init_da8c8 rfl lX11_20 inJx4a65c_init_da8c8 rfl (cl_init hl w28 52 1012 (by decide) (by decide) g28_1012) (Nat.le_of_ble_eq_true rfl) ⟨(Nat.le_of_ble_eq_true rfl), (Nat.le_of_ble_eq_true rfl)⟩ rfl (Nat.le_of_ble_eq_true rfl) rfl rfl (fun _ _ h => h.elim) ?_
            rintro _ w29 ⟨rfl, fw29, hk29, l29_1012⟩
            have g29_1002 := (fw29.2.2 1002 (Or.inr (by decide))).trans g28_1002
            have g29_1003 := (fw29.2.2 1003 (Or.inr (by decide))).trans g28_1003
            have g29_1004 := (fw29.2.2 1004 (Or.inr (by decide))).trans g28_1004
            have g29_1005 := (fw29.2.2 1005 (Or.inr (by decide))).trans g28_1005
            have g29_1006 := (fw29.2.2 1006 (Or.inr (by decide))).trans g28_1006
            have g29_1008 := (fw29.2.2 1008 (Or.inr (by decide))).trans g28_1008
            have g29_1009 := (fw29.2.2 1009 (Or.inr (by decide))).trans g28_1009
            have g29_1010 := (fw29.2.2 1010 (Or.inr (by decide))).trans g28_1010
            have g29_1013 := (fw29.2.2 1013 (Or.inr (by decide))).trans g28_1013
            have g29_1000 := (fw29.2.2 1000 (Or.inr (by decide))).trans g28_1000
            clear g28_1002 g28_1003 g28_1004 g28_1005 g28_1006 g28_1008 g28_1009 g28_1010 g28_1013 g28_1000
            have l29_1001 := l28_1001.fw fw29 (by decide)
            have l29_1007 := l28_1007.fw fw29 (by decide)
            have l29_1014 := l28_1014.fw fw29 (by decide)
            have l29_1015 := l28_1015.fw fw29 (by decide)
            have l29_1035 := l28_1035.fw fw29 (by decide)
            have l29_1036 := l28_1036.fw fw29 (by decide)
            have l29_1011 := l28_1011.fw fw29 (by decide)
            have b29 := (fw29.1).trans b28
            have hf29 := fw29.2.1 hf28
            obtain ⟨lv4, -, lg4⟩ := z_li.cell l29_1007
            refine j_callV (q := (RJx4a65c, TJx4a65c, 3)) dX11_init_118 kJx4a65c_add_9ea2d lX11_44 inJx4a65c_add_9ea2d seJx4a65c_add_9ea2d lg4 rfl (cl_add hl w29 47 1007 _ _ 2 (.ref 1012) l29_1007 (by decide) hf29 (by decide) (by decide) (z_mem2 (fun v hv => by cases hv) ⟨Or.inr ⟨1011, rfl, Or.inr (by decide)⟩, "java/util/ArrayList", l29_1011.is, (z_wn 1984 ((lwg_9 19).trans rfl) (by decide +kernel))⟩) ⟨Or.inr ⟨1012, rfl, Or.inr (by decide)⟩, "java/util/ArrayList", l29_1012.is, (z_wn 1984 ((lwg_9 19).trans rfl) (by decide +kernel))⟩) (Nat.le_of_ble_eq_true rfl) ⟨(Nat.le_of_ble_eq_true rfl), (Nat.le_of_ble_eq_true rfl)⟩ rfl (Nat.le_of_ble_eq_true rfl) rfl rfl (fun _ _ h => h.elim) ?_
            rintro _ w30 ⟨rfl, fw30, mo30, l30_1007⟩
            have g30_1002 := (fw30.2.2 1002 (Or.inr (by decide))).trans g29_1002
            have g30_1003 := (fw30.2.2 1003 (Or.inr (by decide))).trans g29_1003
            have g30_1004 := (fw30.2.2 1004 (Or.inr (by decide))).trans g29_1004
            have g30_1005 := (fw30.2.2 1005 (Or.inr (by decide))).trans g29_1005
            have g30_1006 := (fw30.2.2 1006 (Or.inr (by decide))).trans g29_1006
            have g30_1008 := (fw30.2.2 1008 (Or.inr (by decide))).trans g29_1008
            have g30_1009 := (fw30.2.2 1009 (Or.inr (by decide))).trans g29_1009
            have g30_1010 := (fw30.2.2 1010 (Or.inr (by decide))).trans g29_1010
            have g30_1013 := (fw30.2.2 1013 (Or.inr (by decide))).trans g29_1013
            have g30_1000 := (fw30.2.2 1000 (Or.inr (by decide))).trans g29_1000
            clear g29_1002 g29_1003 g29_1004 g29_1005 g29_1006 g29_1008 g29_1009 g29_1010 g29_1013 g29_1000
            have l30_1001 := l29_1001.fw fw30 (by decide)
            have l30_1014 := l29_1014.fw fw30 (by decide)
            have l30_1015 := l29_1015.fw fw30 (by decide)
            have l30_1035 := l29_1035.fw fw30 (by decide)
            have l30_1036 := l29_1036.fw fw30 (by decide)
            have l30_1011 := l29_1011.fw fw30 (by decide)
            have l30_1012 := l29_1012.fw fw30 (by decide)
            have b30 := (fw30.1).trans b29
            have hf30 := fw30.2.1 hf29
            refine j_pop dX11_init_121 rfl ?_
            refine j_iinc (lo' := [(1, _), (0, _)]) dX11_init_122 rfl rfl (by decide) rfl ?_
            refine j_goto (tgt := 102) dX11_init_125 (by decide) ?_
            refine j_iload_n dX11_init_102 rfl ?_
            refine j_iconst (v := 3) dX11_init_103 (by decide) ?_
            refine j_icmp_ge (tgt := 128) dX11_init_104 (by decide) (fun c_104_749 => ?_) (fun c_104_749 => ?_)
            · exact absurd c_104_749 (by decide)
            · refine j_aload_n dX11_init_107 rfl rfl ?_
              refine j_getf dX11_init_108 fX11_34 g30_1000 rfl ?_
              refine j_new (w' := _) (n := 1013) dX11_init_111 nX11_18 rfl (z_alW g30_1013 (by decide)) (Nat.le_of_ble_eq_true rfl) (Nat.le_of_ble_eq_true rfl) ?_
              refine j_seal (n := 1013) (by decide) ?_
              intro w31 u31
              have fw31 := u31.fw (ρ := 53) (by decide) (by decide)
              have g31_1002 := (fw31.2.2 1002 (Or.inr (by decide))).trans g30_1002
              have g31_1003 := (fw31.2.2 1003 (Or.inr (by decide))).trans g30_1003
              have g31_1004 := (fw31.2.2 1004 (Or.inr (by decide))).trans g30_1004
              have g31_1005 := (fw31.2.2 1005 (Or.inr (by decide))).trans g30_1005
              have g31_1006 := (fw31.2.2 1006 (Or.inr (by decide))).trans g30_1006
              have g31_1008 := (fw31.2.2 1008 (Or.inr (by decide))).trans g30_1008
              have g31_1009 := (fw31.2.2 1009 (Or.inr (by decide))).trans g30_1009
              have g31_1010 := (fw31.2.2 1010 (Or.inr (by decide))).trans g30_1010
              have g31_1000 := (fw31.2.2 1000 (Or.inr (by decide))).trans g30_1000
              clear g30_1002 g30_1003 g30_1004 g30_1005 g30_1006 g30_1008 g30_1009 g30_1010 g30_1000
              have l31_1001 := l30_1001.fw fw31 (by decide)
              have l31_1007 := l30_1007.fw fw31 (by decide)
              have l31_1014 := l30_1014.fw fw31 (by decide)
              have l31_1015 := l30_1015.fw fw31 (by decide)
              have l31_1035 := l30_1035.fw fw31 (by decide)
              have l31_1036 := l30_1036.fw fw31 (by decide)
              have l31_1011 := l30_1011.fw fw31 (by decide)
              have l31_1012 := l30_1012.fw fw31 (by decide)
              have g31_1013 := u31.1
              have b31 := (fw31.1).trans b30
              have hf31 := fw31.2.1 hf30
              refine j_dup dX11_init_114 rfl ?_
              refine j_callI dX11_init_115 kJx4a65c_init_da8c8 rfl lX11_20 inJx4a65c_init_da8c8 rfl (cl_init hl w31 53 1013 (by decide) (by decide) g31_1013) (Nat.le_of_ble_eq_true rfl) ⟨(Nat.le_of_ble_eq_true rfl), (Nat.le_of_ble_eq_true rfl)⟩ rfl (Nat.le_of_ble_eq_true rfl) rfl rfl (fun _ _ h => h.elim) ?_
              rintro _ w32 ⟨rfl, fw32, hk32, l32_1013⟩
              have g32_1002 := (fw32.2.2 1002 (Or.inr (by decide))).trans g31_1002
              have g32_1003 := (fw32.2.2 1003 (Or.inr (by decide))).trans g31_1003
              have g32_1004 := (fw32.2.2 1004 (Or.inr (by decide))).trans g31_1004
              have g32_1005 := (fw32.2.2 1005 (Or.inr (by decide))).trans g31_1005
              have g32_1006 := (fw32.2.2 1006 (Or.inr (by decide))).trans g31_1006
              have g32_1008 := (fw32.2.2 1008 (Or.inr (by decide))).trans g31_1008
              have g32_1009 := (fw32.2.2 1009 (Or.inr (by decide))).trans g31_1009
              have g32_1010 := (fw32.2.2 1010 (Or.inr (by decide))).trans g31_1010
              have g32_1000 := (fw32.2.2 1000 (Or.inr (by decide))).trans g31_1000
              clear g31_1002 g31_1003 g31_1004 g31_1005 g31_1006 g31_1008 g31_1009 g31_1010 g31_1000
              have l32_1001 := l31_1001.fw fw32 (by decide)
              have l32_1007 := l31_1007.fw fw32 (by decide)
              have l32_1014 := l31_1014.fw fw32 (by decide)
              have l32_1015 := l31_1015.fw fw32 (by decide)
              have l32_1035 := l31_1035.fw fw32 (by decide)
              have l32_1036 := l31_1036.fw fw32 (by decide)
              have l32_1011 := l31_1011.fw fw32 (by decide)
              have l32_1012 := l31_1012.fw fw32 (by decide)
              have b32 := (fw32.1).trans b31
              have hf32 := fw32.2.1 hf31
              obtain ⟨lv5, -, lg5⟩ := z_li.cell l32_1007
              refine j_callV (q := (RJx4a65c, TJx4a65c, 3)) dX11_init_118 kJx4a65c_add_9ea2d lX11_44 inJx4a65c_add_9ea2d seJx4a65c_add_9ea2d lg5 rfl (cl_add hl w32 47 1007 _ _ 2 (.ref 1013) l32_1007 (by decide) hf32 (by decide) (by decide) (z_mem2 (z_mem2 (fun v hv => by cases hv) ⟨Or.inr ⟨1011, rfl, Or.inr (by decide)⟩, "java/util/ArrayList", l32_1011.is, (z_wn 1984 ((lwg_9 19).trans rfl) (by decide +kernel))⟩) ⟨Or.inr ⟨1012, rfl, Or.inr (by decide)⟩, "java/util/ArrayList", l32_1012.is, (z_wn 1984 ((lwg_9 19).trans rfl) (by decide +kernel))⟩) ⟨Or.inr ⟨1013, rfl, Or.inr (by decide)⟩, "java/util/ArrayList", l32_1013.is, (z_wn 1984 ((lwg_9 19).trans rfl) (by decide +kernel))⟩) (Nat.le_of_ble_eq_true rfl) ⟨(Nat.le_of_ble_eq_true rfl), (Nat.le_of_ble_eq_true rfl)⟩ rfl (Nat.le_of_ble_eq_true rfl) rfl rfl (fun _ _ h => h.elim) ?_
              rintro _ w33 ⟨rfl, fw33, mo33, l33_1007⟩
              have g33_1002 := (fw33.2.2 1002 (Or.inr (by decide))).trans g32_1002
              have g33_1003 := (fw33.2.2 1003 (Or.inr (by decide))).trans g32_1003
              have g33_1004 := (fw33.2.2 1004 (Or.inr (by decide))).trans g32_1004
              have g33_1005 := (fw33.2.2 1005 (Or.inr (by decide))).trans g32_1005
              have g33_1006 := (fw33.2.2 1006 (Or.inr (by decide))).trans g32_1006
              have g33_1008 := (fw33.2.2 1008 (Or.inr (by decide))).trans g32_1008
              have g33_1009 := (fw33.2.2 1009 (Or.inr (by decide))).trans g32_1009
              have g33_1010 := (fw33.2.2 1010 (Or.inr (by decide))).trans g32_1010
              have g33_1000 := (fw33.2.2 1000 (Or.inr (by decide))).trans g32_1000
              clear g32_1002 g32_1003 g32_1004 g32_1005 g32_1006 g32_1008 g32_1009 g32_1010 g32_1000
              have l33_1001 := l32_1001.fw fw33 (by decide)
              have l33_1014 := l32_1014.fw fw33 (by decide)
              have l33_1015 := l32_1015.fw fw33 (by decide)
              have l33_1035 := l32_1035.fw fw33 (by decide)
              have l33_1036 := l32_1036.fw fw33 (by decide)
              have l33_1011 := l32_1011.fw fw33 (by decide)
              have l33_1012 := l32_1012.fw fw33 (by decide)
              have l33_1013 := l32_1013.fw fw33 (by decide)
              have b33 := (fw33.1).trans b32
              have hf33 := fw33.2.1 hf32
              refine j_pop dX11_init_121 rfl ?_
              refine j_iinc (lo' := [(1, _), (0, _)]) dX11_init_122 rfl rfl (by decide) rfl ?_
              refine j_goto (tgt := 102) dX11_init_125 (by decide) ?_
              refine j_iload_n dX11_init_102 rfl ?_
              refine j_iconst (v := 3) dX11_init_103 (by decide) ?_
              refine j_icmp_ge (tgt := 128) dX11_init_104 (by decide) (fun c_104_826 => ?_) (fun c_104_826 => ?_)
              · refine j_vret dX11_init_128 rfl ?_ (Nat.le_of_ble_eq_true rfl) (Nat.le_of_ble_eq_true rfl)
                refine ⟨rfl, b33, ((0, 0, 0), (_, fun i => 1035 + i), (fun _ => 0), (fun _ _ => 0), _, (fun _ => (-1000, 0, 0, -1)), (fun _ => (0, [])), (fun _ => (0, [])), (fun _ => (0, [])), fun _ _ => 0), ⟨hf33, g33_1000, l33_1001, g33_1002, ?_, ?_, l33_1007, ?_, ?_, ?_, ?_, ?_, fun t ht => z_pr.nil⟩, ⟨rfl, fun _ _ => rfl, fun _ _ => rfl, fun _ _ _ _ => rfl, fun _ _ => rfl, fun _ _ => ⟨rfl, rfl⟩⟩⟩
                · exact ⟨fq3, g33_1003, fun j hj => by rcases (by omega : j = 0 ∨ j = 1 ∨ j = 2) with rfl | rfl | rfl; exact qb3; exact qc3; exact qd3⟩
                · exact fun i hi => by rcases (by omega : i = 0 ∨ i = 1 ∨ i = 2) with rfl | rfl | rfl; exact g33_1004; exact g33_1005; exact g33_1006
                · exact ⟨_, g33_1008, fun j hj => by rcases (by omega : j = 0 ∨ j = 1) with rfl | rfl <;> rfl⟩
                · exact fun i hi => by rcases (by omega : i = 0 ∨ i = 1) with rfl | rfl; exact g33_1009; exact g33_1010
                · exact fun i hi => by rcases (by omega : i = 0 ∨ i = 1 ∨ i = 2) with rfl | rfl | rfl; exact l33_1011; exact l33_1012; exact l33_1013
                · exact fun i hi => by rcases (by omega : i = 0 ∨ i = 1) with rfl | rfl; exact ⟨l33_1014, Nat.zero_le _⟩; exact ⟨l33_1015, Nat.zero_le _⟩
                · exact fun i hi => by rcases (by omega : i = 0 ∨ i = 1) with rfl | rfl; exact ⟨l33_1035, Nat.zero_le _⟩; exact ⟨l33_1036, Nat.zero_le _⟩
              · exact absurd c_104_826 (by decide)
      · exact absurd c_76_590 (by decide)
end ZMi
