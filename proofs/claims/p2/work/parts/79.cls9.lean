section ZL9
variable {G : z_G} {l : Launch}
set_option maxRecDepth 100000 in
set_option maxHeartbeats 8000000 in
theorem c_X8_init (hl : l.stackTraces = false)  : z_CN G l mX8_init 14 50 440 50 [.inr (12, [.null, .null, .null, .null, .null, .null, .null, .int 0, .int 0])] [.ref 0] (fun v L => v = none ∧ z_Wk 0 false false (-1000) (-1000) L) := by
  refine z_body hl (by decide) rfl (Nat.le_of_ble_eq_true rfl) ?_
  show z_J G l mX8_init (z_SN 14 50 440 50 [.inr (12, [.null, .null, .null, .null, .null, .null, .null, .int 0, .int 0])] (fun v L => v = none ∧ z_Wk 0 false false (-1000) (-1000) L)) 0 [(0, _)] [] _ 0 0
  refine j_aload_n dX8_init_0 rfl rfl ?_
  refine j_objI dX8_init_1 oX8_1 z_oi1 z_oi2 (Nat.le_of_ble_eq_true rfl) (Nat.le_of_ble_eq_true rfl) ?_
  refine j_aload_n dX8_init_4 rfl rfl ?_
  refine j_iconst (v := 2) dX8_init_5 (by decide) ?_
  refine j_anew (kd := 4) (N := 2) (w' := ([.inr (12, [_, _, _, _, _, _, _, _, _]), _], z_no)) (n := 1) dX8_init_6 rfl aX8_7 ao_X1 (by decide) rfl (by decide) (z_al_l rfl rfl) (Nat.le_of_ble_eq_true rfl) (Nat.le_of_ble_eq_true rfl) ?_
  refine j_dup dX8_init_9 rfl ?_
  refine j_iconst (v := 0) dX8_init_10 (by decide) ?_
  refine j_new (w' := ([.inr (12, [_, _, _, _, _, _, _, _, _]), _, _], z_no)) (n := 2) dX8_init_11 nX8_7 rfl (z_al_l rfl rfl) (Nat.le_of_ble_eq_true rfl) (Nat.le_of_ble_eq_true rfl) ?_
  refine j_dup dX8_init_14 rfl ?_
  refine j_callIN dX8_init_15 kX1_init rfl lX8_9 inX1_init rfl (z_frameN [2] rfl (by decide) (Nat.le_of_ble_eq_true rfl) (Nat.le_of_ble_eq_true rfl) (c_X1_init hl)) (Nat.le_of_ble_eq_true rfl) ⟨(Nat.le_of_ble_eq_true rfl), (Nat.le_of_ble_eq_true rfl)⟩ rfl (Nat.le_of_ble_eq_true rfl) rfl rfl (fun _ _ h => h.elim) ?_
  rintro _ _ ⟨_, _, ⟨rfl, _, _, rfl⟩, rfl, rfl⟩
  refine j_w ([.inr (12, [_, _, _, _, _, _, _, _, _]), _, _, _, _, _], z_no) rfl ?_
  refine j_aast (w' := ([.inr (12, [_, _, _, _, _, _, _, _, _]), _, _, _, _, _], z_no)) dX8_init_18 rfl rfl rfl rfl (vp_in_iff.mpr (by decide)) rfl ?_
  refine j_dup dX8_init_19 rfl ?_
  refine j_iconst (v := 1) dX8_init_20 (by decide) ?_
  refine j_new (w' := ([.inr (12, [_, _, _, _, _, _, _, _, _]), _, _, _, _, _, _], z_no)) (n := 6) dX8_init_21 nX8_7 rfl (z_al_l rfl rfl) (Nat.le_of_ble_eq_true rfl) (Nat.le_of_ble_eq_true rfl) ?_
  refine j_dup dX8_init_24 rfl ?_
  refine j_callIN dX8_init_25 kX1_init rfl lX8_9 inX1_init rfl (z_frameN [6] rfl (by decide) (Nat.le_of_ble_eq_true rfl) (Nat.le_of_ble_eq_true rfl) (c_X1_init hl)) (Nat.le_of_ble_eq_true rfl) ⟨(Nat.le_of_ble_eq_true rfl), (Nat.le_of_ble_eq_true rfl)⟩ rfl (Nat.le_of_ble_eq_true rfl) rfl rfl (fun _ _ h => h.elim) ?_
  rintro _ _ ⟨_, _, ⟨rfl, _, _, rfl⟩, rfl, rfl⟩
  refine j_w ([.inr (12, [_, _, _, _, _, _, _, _, _]), _, _, _, _, _, _, _, _, _], z_no) rfl ?_
  refine j_aast (w' := ([.inr (12, [_, _, _, _, _, _, _, _, _]), _, _, _, _, _, _, _, _, _], z_no)) dX8_init_28 rfl rfl rfl rfl (vp_in_iff.mpr (by decide)) rfl ?_
  refine j_putF (w' := ([.inr (12, [_, _, _, _, _, _, _, _, _]), _, _, _, _, _, _, _, _, _], z_no)) dX8_init_29 fX8_10 tX8_0 rfl (z_dc rfl rfl (z_w 184 ((lwg_1 139).trans (by decide +kernel)) (by decide +kernel))) rfl (Or.inr ⟨_, rfl⟩) rfl ?_
  refine j_aload_n dX8_init_32 rfl rfl ?_
  refine j_new (w' := ([.inr (12, [_, _, _, _, _, _, _, _, _]), _, _, _, _, _, _, _, _, _, _], z_no)) (n := 10) dX8_init_33 nX8_16 rfl (z_al_l rfl rfl) (Nat.le_of_ble_eq_true rfl) (Nat.le_of_ble_eq_true rfl) ?_
  refine j_dup dX8_init_36 rfl ?_
  refine j_iconst (v := 0) dX8_init_37 (by decide) ?_
  refine j_callI dX8_init_38 kX4_init rfl lX8_18 inX4_init rfl (z_frameN [10] rfl (by decide) (Nat.le_of_ble_eq_true rfl) (Nat.le_of_ble_eq_true rfl) (c_X4_init hl false)) (Nat.le_of_ble_eq_true rfl) ⟨(Nat.le_of_ble_eq_true rfl), (Nat.le_of_ble_eq_true rfl)⟩ rfl (Nat.le_of_ble_eq_true rfl) rfl rfl (fun _ _ h => h.elim) ?_
  rintro _ _ ⟨_, _, ⟨rfl, _, _, _, _, rfl⟩, rfl, rfl⟩
  refine j_w ([.inr (12, [_, _, _, _, _, _, _, _, _]), _, _, _, _, _, _, _, _, _, _, _, _, _, _], z_no) rfl ?_
  refine j_putF (w' := ([.inr (12, [_, _, _, _, _, _, _, _, _]), _, _, _, _, _, _, _, _, _, _, _, _, _, _], z_no)) dX8_init_41 fX8_21 tX8_1 rfl (z_dc rfl rfl (z_w 185 ((lwg_1 140).trans (by decide +kernel)) (by decide +kernel))) rfl (Or.inl ⟨_, rfl⟩) rfl ?_
  refine j_aload_n dX8_init_44 rfl rfl ?_
  refine j_iconst (v := 3) dX8_init_45 (by decide) ?_
  refine j_anew (kd := 5) (N := 3) (w' := ([.inr (12, [_, _, _, _, _, _, _, _, _]), _, _, _, _, _, _, _, _, _, _, _, _, _, _, _], z_no)) (n := 15) dX8_init_46 rfl aX8_16 ao_X4 (by decide) rfl (by decide) (z_al_l rfl rfl) (Nat.le_of_ble_eq_true rfl) (Nat.le_of_ble_eq_true rfl) ?_
  refine j_dup dX8_init_49 rfl ?_
  refine j_iconst (v := 0) dX8_init_50 (by decide) ?_
  refine j_aload_n dX8_init_51 rfl rfl ?_
  refine j_getf dX8_init_52 fX8_21 rfl rfl ?_
  refine j_aast (w' := ([.inr (12, [_, _, _, _, _, _, _, _, _]), _, _, _, _, _, _, _, _, _, _, _, _, _, _, _], z_no)) dX8_init_55 rfl rfl rfl rfl (vp_in_iff.mpr (by decide)) rfl ?_
  refine j_dup dX8_init_56 rfl ?_
  refine j_iconst (v := 1) dX8_init_57 (by decide) ?_
  refine j_new (w' := ([.inr (12, [_, _, _, _, _, _, _, _, _]), _, _, _, _, _, _, _, _, _, _, _, _, _, _, _, _], z_no)) (n := 16) dX8_init_58 nX8_16 rfl (z_al_l rfl rfl) (Nat.le_of_ble_eq_true rfl) (Nat.le_of_ble_eq_true rfl) ?_
  refine j_dup dX8_init_61 rfl ?_
  refine j_iconst (v := 0) dX8_init_62 (by decide) ?_
  refine j_callI dX8_init_63 kX4_init rfl lX8_18 inX4_init rfl (z_frameN [16] rfl (by decide) (Nat.le_of_ble_eq_true rfl) (Nat.le_of_ble_eq_true rfl) (c_X4_init hl false)) (Nat.le_of_ble_eq_true rfl) ⟨(Nat.le_of_ble_eq_true rfl), (Nat.le_of_ble_eq_true rfl)⟩ rfl (Nat.le_of_ble_eq_true rfl) rfl rfl (fun _ _ h => h.elim) ?_
  rintro _ _ ⟨_, _, ⟨rfl, _, _, _, _, rfl⟩, rfl, rfl⟩
  refine j_w ([.inr (12, [_, _, _, _, _, _, _, _, _]), _, _, _, _, _, _, _, _, _, _, _, _, _, _, _, _, _, _, _, _], z_no) rfl ?_
  refine j_aast (w' := ([.inr (12, [_, _, _, _, _, _, _, _, _]), _, _, _, _, _, _, _, _, _, _, _, _, _, _, _, _, _, _, _, _], z_no)) dX8_init_66 rfl rfl rfl rfl (vp_in_iff.mpr (by decide)) rfl ?_
  refine j_dup dX8_init_67 rfl ?_
  refine j_iconst (v := 2) dX8_init_68 (by decide) ?_
  refine j_new (w' := ([.inr (12, [_, _, _, _, _, _, _, _, _]), _, _, _, _, _, _, _, _, _, _, _, _, _, _, _, _, _, _, _, _, _], z_no)) (n := 21) dX8_init_69 nX8_16 rfl (z_al_l rfl rfl) (Nat.le_of_ble_eq_true rfl) (Nat.le_of_ble_eq_true rfl) ?_
  refine j_dup dX8_init_72 rfl ?_
  refine j_iconst (v := 1) dX8_init_73 (by decide) ?_
  refine j_callI dX8_init_74 kX4_init rfl lX8_18 inX4_init rfl (z_frameN [21] rfl (by decide) (Nat.le_of_ble_eq_true rfl) (Nat.le_of_ble_eq_true rfl) (c_X4_init hl true)) (Nat.le_of_ble_eq_true rfl) ⟨(Nat.le_of_ble_eq_true rfl), (Nat.le_of_ble_eq_true rfl)⟩ rfl (Nat.le_of_ble_eq_true rfl) rfl rfl (fun _ _ h => h.elim) ?_
  rintro _ _ ⟨_, _, ⟨rfl, _, _, _, _, rfl⟩, rfl, rfl⟩
  refine j_w ([.inr (12, [_, _, _, _, _, _, _, _, _]), _, _, _, _, _, _, _, _, _, _, _, _, _, _, _, _, _, _, _, _, _, _, _, _, _], z_no) rfl ?_
  refine j_aast (w' := ([.inr (12, [_, _, _, _, _, _, _, _, _]), _, _, _, _, _, _, _, _, _, _, _, _, _, _, _, _, _, _, _, _, _, _, _, _, _], z_no)) dX8_init_77 rfl rfl rfl rfl (vp_in_iff.mpr (by decide)) rfl ?_
  refine j_putF (w' := ([.inr (12, [_, _, _, _, _, _, _, _, _]), _, _, _, _, _, _, _, _, _, _, _, _, _, _, _, _, _, _, _, _, _, _, _, _, _], z_no)) dX8_init_78 fX8_25 tX8_2 rfl (z_dc rfl rfl (z_w 186 ((lwg_1 141).trans (by decide +kernel)) (by decide +kernel))) rfl (Or.inr ⟨_, rfl⟩) rfl ?_
  refine j_aload_n dX8_init_81 rfl rfl ?_
  refine j_iconst (v := 2) dX8_init_82 (by decide) ?_
  refine j_anew (kd := 6) (N := 2) (w' := ([.inr (12, [_, _, _, _, _, _, _, _, _]), _, _, _, _, _, _, _, _, _, _, _, _, _, _, _, _, _, _, _, _, _, _, _, _, _, _], z_no)) (n := 26) dX8_init_83 rfl aX8_29 ao_X0 (by decide) rfl (by decide) (z_al_l rfl rfl) (Nat.le_of_ble_eq_true rfl) (Nat.le_of_ble_eq_true rfl) ?_
  refine j_dup dX8_init_86 rfl ?_
  refine j_iconst (v := 0) dX8_init_87 (by decide) ?_
  refine j_new (w' := ([.inr (12, [_, _, _, _, _, _, _, _, _]), _, _, _, _, _, _, _, _, _, _, _, _, _, _, _, _, _, _, _, _, _, _, _, _, _, _, _], z_no)) (n := 27) dX8_init_88 nX8_29 rfl (z_al_l rfl rfl) (Nat.le_of_ble_eq_true rfl) (Nat.le_of_ble_eq_true rfl) ?_
  refine j_dup dX8_init_91 rfl ?_
  refine j_callIN dX8_init_92 kX0_init rfl lX8_31 inX0_init rfl (z_frameN [27] rfl (by decide) (Nat.le_of_ble_eq_true rfl) (Nat.le_of_ble_eq_true rfl) (c_X0_init hl)) (Nat.le_of_ble_eq_true rfl) ⟨(Nat.le_of_ble_eq_true rfl), (Nat.le_of_ble_eq_true rfl)⟩ rfl (Nat.le_of_ble_eq_true rfl) rfl rfl (fun _ _ h => h.elim) ?_
  rintro _ _ ⟨_, _, ⟨rfl, _, rfl⟩, rfl, rfl⟩
  refine j_w ([.inr (12, [_, _, _, _, _, _, _, _, _]), _, _, _, _, _, _, _, _, _, _, _, _, _, _, _, _, _, _, _, _, _, _, _, _, _, _, _, _], z_no) rfl ?_
  refine j_aast (w' := ([.inr (12, [_, _, _, _, _, _, _, _, _]), _, _, _, _, _, _, _, _, _, _, _, _, _, _, _, _, _, _, _, _, _, _, _, _, _, _, _, _], z_no)) dX8_init_95 rfl rfl rfl rfl (vp_in_iff.mpr (by decide)) rfl ?_
  refine j_dup dX8_init_96 rfl ?_
  refine j_iconst (v := 1) dX8_init_97 (by decide) ?_
  refine j_new (w' := ([.inr (12, [_, _, _, _, _, _, _, _, _]), _, _, _, _, _, _, _, _, _, _, _, _, _, _, _, _, _, _, _, _, _, _, _, _, _, _, _, _, _], z_no)) (n := 29) dX8_init_98 nX8_29 rfl (z_al_l rfl rfl) (Nat.le_of_ble_eq_true rfl) (Nat.le_of_ble_eq_true rfl) ?_
  refine j_dup dX8_init_101 rfl ?_
  refine j_callIN dX8_init_102 kX0_init rfl lX8_31 inX0_init rfl (z_frameN [29] rfl (by decide) (Nat.le_of_ble_eq_true rfl) (Nat.le_of_ble_eq_true rfl) (c_X0_init hl)) (Nat.le_of_ble_eq_true rfl) ⟨(Nat.le_of_ble_eq_true rfl), (Nat.le_of_ble_eq_true rfl)⟩ rfl (Nat.le_of_ble_eq_true rfl) rfl rfl (fun _ _ h => h.elim) ?_
  rintro _ _ ⟨_, _, ⟨rfl, _, rfl⟩, rfl, rfl⟩
  refine j_w ([.inr (12, [_, _, _, _, _, _, _, _, _]), _, _, _, _, _, _, _, _, _, _, _, _, _, _, _, _, _, _, _, _, _, _, _, _, _, _, _, _, _, _], z_no) rfl ?_
  refine j_aast (w' := ([.inr (12, [_, _, _, _, _, _, _, _, _]), _, _, _, _, _, _, _, _, _, _, _, _, _, _, _, _, _, _, _, _, _, _, _, _, _, _, _, _, _, _], z_no)) dX8_init_105 rfl rfl rfl rfl (vp_in_iff.mpr (by decide)) rfl ?_
  refine j_putF (w' := ([.inr (12, [_, _, _, _, _, _, _, _, _]), _, _, _, _, _, _, _, _, _, _, _, _, _, _, _, _, _, _, _, _, _, _, _, _, _, _, _, _, _, _], z_no)) dX8_init_106 fX8_32 tX8_3 rfl (z_dc rfl rfl (z_w 187 ((lwg_1 142).trans (by decide +kernel)) (by decide +kernel))) rfl (Or.inr ⟨_, rfl⟩) rfl ?_
  refine j_aload_n dX8_init_109 rfl rfl ?_
  refine j_new (w' := ([.inr (12, [_, _, _, _, _, _, _, _, _]), _, _, _, _, _, _, _, _, _, _, _, _, _, _, _, _, _, _, _, _, _, _, _, _, _, _, _, _, _, _, _], z_no)) (n := 31) dX8_init_110 nX8_7 rfl (z_al_l rfl rfl) (Nat.le_of_ble_eq_true rfl) (Nat.le_of_ble_eq_true rfl) ?_
  refine j_dup dX8_init_113 rfl ?_
  refine j_callIN dX8_init_114 kX1_init rfl lX8_9 inX1_init rfl (z_frameN [31] rfl (by decide) (Nat.le_of_ble_eq_true rfl) (Nat.le_of_ble_eq_true rfl) (c_X1_init hl)) (Nat.le_of_ble_eq_true rfl) ⟨(Nat.le_of_ble_eq_true rfl), (Nat.le_of_ble_eq_true rfl)⟩ rfl (Nat.le_of_ble_eq_true rfl) rfl rfl (fun _ _ h => h.elim) ?_
  rintro _ _ ⟨_, _, ⟨rfl, _, _, rfl⟩, rfl, rfl⟩
  refine j_w ([.inr (12, [_, _, _, _, _, _, _, _, _]), _, _, _, _, _, _, _, _, _, _, _, _, _, _, _, _, _, _, _, _, _, _, _, _, _, _, _, _, _, _, _, _, _, _], z_no) rfl ?_
  refine j_putF (w' := ([.inr (12, [_, _, _, _, _, _, _, _, _]), _, _, _, _, _, _, _, _, _, _, _, _, _, _, _, _, _, _, _, _, _, _, _, _, _, _, _, _, _, _, _, _, _, _], z_no)) dX8_init_117 fX8_36 tX8_4 rfl (z_dc rfl rfl (z_w 188 ((lwg_1 143).trans (by decide +kernel)) (by decide +kernel))) rfl (Or.inl ⟨_, rfl⟩) rfl ?_
  refine j_aload_n dX8_init_120 rfl rfl ?_
  refine j_new (w' := ([.inr (12, [_, _, _, _, _, _, _, _, _]), _, _, _, _, _, _, _, _, _, _, _, _, _, _, _, _, _, _, _, _, _, _, _, _, _, _, _, _, _, _, _, _, _, _, _], z_no)) (n := 35) dX8_init_121 nX8_16 rfl (z_al_l rfl rfl) (Nat.le_of_ble_eq_true rfl) (Nat.le_of_ble_eq_true rfl) ?_
  refine j_dup dX8_init_124 rfl ?_
  refine j_iconst (v := 0) dX8_init_125 (by decide) ?_
  refine j_callI dX8_init_126 kX4_init rfl lX8_18 inX4_init rfl (z_frameN [35] rfl (by decide) (Nat.le_of_ble_eq_true rfl) (Nat.le_of_ble_eq_true rfl) (c_X4_init hl false)) (Nat.le_of_ble_eq_true rfl) ⟨(Nat.le_of_ble_eq_true rfl), (Nat.le_of_ble_eq_true rfl)⟩ rfl (Nat.le_of_ble_eq_true rfl) rfl rfl (fun _ _ h => h.elim) ?_
  rintro _ _ ⟨_, _, ⟨rfl, _, _, _, _, rfl⟩, rfl, rfl⟩
  refine j_w ([.inr (12, [_, _, _, _, _, _, _, _, _]), _, _, _, _, _, _, _, _, _, _, _, _, _, _, _, _, _, _, _, _, _, _, _, _, _, _, _, _, _, _, _, _, _, _, _, _, _, _, _], z_no) rfl ?_
  refine j_putF (w' := ([.inr (12, [_, _, _, _, _, _, _, _, _]), _, _, _, _, _, _, _, _, _, _, _, _, _, _, _, _, _, _, _, _, _, _, _, _, _, _, _, _, _, _, _, _, _, _, _, _, _, _, _], z_no)) dX8_init_129 fX8_40 tX8_5 rfl (z_dc rfl rfl (z_w 189 ((lwg_1 144).trans (by decide +kernel)) (by decide +kernel))) rfl (Or.inl ⟨_, rfl⟩) rfl ?_
  refine j_aload_n dX8_init_132 rfl rfl ?_
  refine j_iconst (v := 3) dX8_init_133 (by decide) ?_
  refine j_anew (kd := 5) (N := 3) (w' := ([.inr (12, [_, _, _, _, _, _, _, _, _]), _, _, _, _, _, _, _, _, _, _, _, _, _, _, _, _, _, _, _, _, _, _, _, _, _, _, _, _, _, _, _, _, _, _, _, _, _, _, _, _], z_no)) (n := 40) dX8_init_134 rfl aX8_16 ao_X4 (by decide) rfl (by decide) (z_al_l rfl rfl) (Nat.le_of_ble_eq_true rfl) (Nat.le_of_ble_eq_true rfl) ?_
  refine j_dup dX8_init_137 rfl ?_
  refine j_iconst (v := 0) dX8_init_138 (by decide) ?_
  refine j_aload_n dX8_init_139 rfl rfl ?_
  refine j_getf dX8_init_140 fX8_40 rfl rfl ?_
  refine j_aast (w' := ([.inr (12, [_, _, _, _, _, _, _, _, _]), _, _, _, _, _, _, _, _, _, _, _, _, _, _, _, _, _, _, _, _, _, _, _, _, _, _, _, _, _, _, _, _, _, _, _, _, _, _, _, _], z_no)) dX8_init_143 rfl rfl rfl rfl (vp_in_iff.mpr (by decide)) rfl ?_
  refine j_dup dX8_init_144 rfl ?_
  refine j_iconst (v := 1) dX8_init_145 (by decide) ?_
  refine j_new (w' := ([.inr (12, [_, _, _, _, _, _, _, _, _]), _, _, _, _, _, _, _, _, _, _, _, _, _, _, _, _, _, _, _, _, _, _, _, _, _, _, _, _, _, _, _, _, _, _, _, _, _, _, _, _, _], z_no)) (n := 41) dX8_init_146 nX8_16 rfl (z_al_l rfl rfl) (Nat.le_of_ble_eq_true rfl) (Nat.le_of_ble_eq_true rfl) ?_
  refine j_dup dX8_init_149 rfl ?_
  refine j_iconst (v := 0) dX8_init_150 (by decide) ?_
  refine j_callI dX8_init_151 kX4_init rfl lX8_18 inX4_init rfl (z_frameN [41] rfl (by decide) (Nat.le_of_ble_eq_true rfl) (Nat.le_of_ble_eq_true rfl) (c_X4_init hl false)) (Nat.le_of_ble_eq_true rfl) ⟨(Nat.le_of_ble_eq_true rfl), (Nat.le_of_ble_eq_true rfl)⟩ rfl (Nat.le_of_ble_eq_true rfl) rfl rfl (fun _ _ h => h.elim) ?_
  rintro _ _ ⟨_, _, ⟨rfl, _, _, _, _, rfl⟩, rfl, rfl⟩
  refine j_w ([.inr (12, [_, _, _, _, _, _, _, _, _]), _, _, _, _, _, _, _, _, _, _, _, _, _, _, _, _, _, _, _, _, _, _, _, _, _, _, _, _, _, _, _, _, _, _, _, _, _, _, _, _, _, _, _, _, _], z_no) rfl ?_
  refine j_aast (w' := ([.inr (12, [_, _, _, _, _, _, _, _, _]), _, _, _, _, _, _, _, _, _, _, _, _, _, _, _, _, _, _, _, _, _, _, _, _, _, _, _, _, _, _, _, _, _, _, _, _, _, _, _, _, _, _, _, _, _], z_no)) dX8_init_154 rfl rfl rfl rfl (vp_in_iff.mpr (by decide)) rfl ?_
  refine j_dup dX8_init_155 rfl ?_
  refine j_iconst (v := 2) dX8_init_156 (by decide) ?_
  refine j_new (w' := ([.inr (12, [_, _, _, _, _, _, _, _, _]), _, _, _, _, _, _, _, _, _, _, _, _, _, _, _, _, _, _, _, _, _, _, _, _, _, _, _, _, _, _, _, _, _, _, _, _, _, _, _, _, _, _, _, _, _, _], z_no)) (n := 46) dX8_init_157 nX8_16 rfl (z_al_l rfl rfl) (Nat.le_of_ble_eq_true rfl) (Nat.le_of_ble_eq_true rfl) ?_
  refine j_dup dX8_init_160 rfl ?_
  refine j_iconst (v := 1) dX8_init_161 (by decide) ?_
  refine j_callI dX8_init_162 kX4_init rfl lX8_18 inX4_init rfl (z_frameN [46] rfl (by decide) (Nat.le_of_ble_eq_true rfl) (Nat.le_of_ble_eq_true rfl) (c_X4_init hl true)) (Nat.le_of_ble_eq_true rfl) ⟨(Nat.le_of_ble_eq_true rfl), (Nat.le_of_ble_eq_true rfl)⟩ rfl (Nat.le_of_ble_eq_true rfl) rfl rfl (fun _ _ h => h.elim) ?_
  rintro _ _ ⟨_, _, ⟨rfl, _, _, _, _, rfl⟩, rfl, rfl⟩
  refine j_w ([.inr (12, [_, _, _, _, _, _, _, _, _]), _, _, _, _, _, _, _, _, _, _, _, _, _, _, _, _, _, _, _, _, _, _, _, _, _, _, _, _, _, _, _, _, _, _, _, _, _, _, _, _, _, _, _, _, _, _, _, _, _, _], z_no) rfl ?_
  refine j_aast (w' := ([.inr (12, [_, _, _, _, _, _, _, _, _]), _, _, _, _, _, _, _, _, _, _, _, _, _, _, _, _, _, _, _, _, _, _, _, _, _, _, _, _, _, _, _, _, _, _, _, _, _, _, _, _, _, _, _, _, _, _, _, _, _, _], z_no)) dX8_init_165 rfl rfl rfl rfl (vp_in_iff.mpr (by decide)) rfl ?_
  refine j_putF (w' := ([.inr (12, [_, _, _, _, _, _, _, _, _]), _, _, _, _, _, _, _, _, _, _, _, _, _, _, _, _, _, _, _, _, _, _, _, _, _, _, _, _, _, _, _, _, _, _, _, _, _, _, _, _, _, _, _, _, _, _, _, _, _, _], z_no)) dX8_init_166 fX8_43 tX8_6 rfl (z_dc rfl rfl (z_w 190 ((lwg_1 145).trans (by decide +kernel)) (by decide +kernel))) rfl (Or.inr ⟨_, rfl⟩) rfl ?_
  refine j_vret dX8_init_169 rfl ?_ (Nat.le_of_ble_eq_true rfl) (Nat.le_of_ble_eq_true rfl)
  exact ⟨rfl, (Nat.le_of_ble_eq_true rfl), rfl, (z_wk (xa := false) (xb := false) (xt := false) (by first | assumption | exact z_m20z) (by first | assumption | exact z_m20z) (by first | assumption | exact z_m20z) (by first | assumption | exact z_m20z) (by first | assumption | exact z_m20z) (by first | assumption | exact z_m20z))⟩
end ZL9
