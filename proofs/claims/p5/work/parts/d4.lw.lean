section ZLw
variable {G : z_G} {l : Launch}
set_option maxRecDepth 100000 in
set_option maxHeartbeats 4000000 in
theorem lw_type (hl : l.stackTraces = false) (w : z_W) (x : Nat) (C M : sp_S) (n : Int64) (LT : z_LX x C M n w) (a0 : Int32) (a1 : Int32) : z_Con G l mL_type 27 14 120 w [.ref 0, .int a0, .int a1, .ref x] (fun v w9 => ∃ n9 : Int64, v = some (.int (t_type C a0 a1)) ∧ z_LX x (k_type C a0 a1) M n9 w9 ∧ (t_type C a0 a1 = 0 → n9 = (a_type C a0 a1).toInt64)) (fun _ _ => False) := by
  refine z_bodyW hl (by decide) (by decide) (Nat.le_of_ble_eq_true rfl) ?_
  show z_J G l mL_type _ 0 [(0, _), (1, _), (2, _), (3, _)] [] _ 0 0
  refine j_aload_n dL_type_0 rfl rfl ?_
  refine j_aload_n dL_type_1 rfl rfl ?_
  refine j_iload_n dL_type_2 rfl ?_
  refine j_iload_n dL_type_3 rfl ?_
  obtain ⟨fs1, gs1⟩ := LT.rc
  refine j_tryV (q := (RX8, TX8, 9)) dL_type_4 kX8_type lL_7 inX8_type seX8_type gs1 rfl (px_type hl w C LT.1.1 LT.1.2 a0 a1) (Nat.le_of_ble_eq_true rfl) ⟨(Nat.le_of_ble_eq_true rfl), (Nat.le_of_ble_eq_true rfl)⟩ rfl (Nat.le_of_ble_eq_true rfl) rfl ?_ ?_
  · rintro E _ ⟨hE, rfl⟩
    rcases hE with hE | hE
    · obtain ⟨hE, hk⟩ := hE
      have hk : t_type C a0 a1 = 1 := hk
      have hE : E = "java/lang/IndexOutOfBoundsException" := hE
      subst hE
      refine ⟨14, 16, ⟨[], (⟨0, 11, 14, 19⟩ : ExceptionTableEntry), _, "java/lang/IndexOutOfBoundsException", rfl, (fun z hz => by cases hz), by decide, by decide, (z_w 847 ((lwg_4 82).trans rfl) (by decide +kernel)), (z_wn 860 ((lwg_4 95).trans rfl) (by decide +kernel)), rfl⟩, Or.inl ⟨4, dL_type_14, by decide, rfl⟩, ?_⟩
      refine j_iconst (v := 1) dL_type_16 (by decide) ?_
      refine j_iret dL_type_17 rfl rfl ?_ (Nat.le_of_ble_eq_true rfl) (Nat.le_of_ble_eq_true rfl)
      exact ⟨_, by rw [hk], by unfold k_type; rw [if_neg (by rw [hk]; decide)]; exact LT, fun z => absurd (hk.symm.trans z) (by decide)⟩
    · rcases hE with hE | hE
      · obtain ⟨hE, hk⟩ := hE
        have hk : t_type C a0 a1 = 2 := hk
        have hE : E = "java/lang/IllegalArgumentException" := hE
        subst hE
        refine ⟨18, 20, ⟨[(⟨0, 11, 14, 19⟩ : ExceptionTableEntry)], (⟨0, 11, 18, 21⟩ : ExceptionTableEntry), _, "java/lang/IllegalArgumentException", rfl, (fun z hz => by
            simp only [List.mem_cons, List.not_mem_nil, or_false] at hz
            rcases hz with rfl
            · exact Or.inr ⟨by decide, "java/lang/IndexOutOfBoundsException", (z_w 847 ((lwg_4 82).trans rfl) (by decide +kernel)), by decide⟩), by decide, by decide, (z_w 848 ((lwg_4 83).trans rfl) (by decide +kernel)), (z_wn 460 ((lwg_2 175).trans rfl) (by decide +kernel)), rfl⟩, Or.inl ⟨4, dL_type_18, by decide, rfl⟩, ?_⟩
        refine j_iconst (v := 2) dL_type_20 (by decide) ?_
        refine j_iret dL_type_21 rfl rfl ?_ (Nat.le_of_ble_eq_true rfl) (Nat.le_of_ble_eq_true rfl)
        exact ⟨_, by rw [hk], by unfold k_type; rw [if_neg (by rw [hk]; decide)]; exact LT, fun z => absurd (hk.symm.trans z) (by decide)⟩
      · obtain ⟨hE, hk⟩ := hE
        have hk : t_type C a0 a1 = 3 := hk
        have hE : E = "java/lang/IllegalStateException" := hE
        subst hE
        refine ⟨22, 24, ⟨[(⟨0, 11, 14, 19⟩ : ExceptionTableEntry), (⟨0, 11, 18, 21⟩ : ExceptionTableEntry)], (⟨0, 11, 22, 23⟩ : ExceptionTableEntry), _, "java/lang/IllegalStateException", rfl, (fun z hz => by
            simp only [List.mem_cons, List.not_mem_nil, or_false] at hz
            rcases hz with rfl | rfl
            · exact Or.inr ⟨by decide, "java/lang/IndexOutOfBoundsException", (z_w 847 ((lwg_4 82).trans rfl) (by decide +kernel)), by decide⟩
            · exact Or.inr ⟨by decide, "java/lang/IllegalArgumentException", (z_w 848 ((lwg_4 83).trans rfl) (by decide +kernel)), by decide⟩), by decide, by decide, (z_w 849 ((lwg_4 84).trans rfl) (by decide +kernel)), (z_wn 883 ((lwg_4 118).trans rfl) (by decide +kernel)), rfl⟩, Or.inl ⟨4, dL_type_22, by decide, rfl⟩, ?_⟩
        refine j_iconst (v := 3) dL_type_24 (by decide) ?_
        refine j_iret dL_type_25 rfl rfl ?_ (Nat.le_of_ble_eq_true rfl) (Nat.le_of_ble_eq_true rfl)
        exact ⟨_, by rw [hk], by unfold k_type; rw [if_neg (by rw [hk]; decide)]; exact LT, fun z => absurd (hk.symm.trans z) (by decide)⟩
  · rintro _ w1 ⟨hk, rfl, hW1, hh1⟩
    have hk : t_type C a0 a1 = 0 := hk
    have LT1 : z_LX x (k_type C a0 a1) M n w1 := LT.cls (by unfold k_type; rw [if_pos hk]; exact hW1) (okk_type _ _ LT.1.2) hh1
    refine j_i2l dL_type_7 ?_
    obtain ⟨-, -, ⟨ov2, og2⟩, -⟩ := id LT1
    refine j_put (w' := _) dL_type_8 fL_13 tX9_0 og2 ⟨rfl, rfl⟩ rfl ?_
    refine j_seal (n := x) LT1.x1 ?_
    intro w2 u2
    have LT2 := LT1.out u2
    refine j_goto (tgt := 26) dL_type_11 (by decide) ?_
    refine j_iconst (v := 0) dL_type_26 (by decide) ?_
    refine j_iret dL_type_27 rfl rfl ?_ (Nat.le_of_ble_eq_true rfl) (Nat.le_of_ble_eq_true rfl)
    exact ⟨_, by rw [hk], LT2, fun _ => rfl⟩
set_option maxRecDepth 100000 in
set_option maxHeartbeats 4000000 in
theorem lw_drop (hl : l.stackTraces = false) (w : z_W) (x : Nat) (C M : sp_S) (n : Int64) (LT : z_LX x C M n w) (a0 : Int32) (a1 : Int32) : z_Con G l mL_drop 27 14 120 w [.ref 0, .int a0, .int a1, .ref x] (fun v w9 => ∃ n9 : Int64, v = some (.int (t_drop C a0 a1)) ∧ z_LX x (k_drop C a0 a1) M n9 w9 ∧ (t_drop C a0 a1 = 0 → n9 = (a_drop C a0 a1).toInt64)) (fun _ _ => False) := by
  refine z_bodyW hl (by decide) (by decide) (Nat.le_of_ble_eq_true rfl) ?_
  show z_J G l mL_drop _ 0 [(0, _), (1, _), (2, _), (3, _)] [] _ 0 0
  refine j_aload_n dL_drop_0 rfl rfl ?_
  refine j_aload_n dL_drop_1 rfl rfl ?_
  refine j_iload_n dL_drop_2 rfl ?_
  refine j_iload_n dL_drop_3 rfl ?_
  obtain ⟨fs3, gs3⟩ := LT.rc
  refine j_tryV (q := (RX8, TX8, 9)) dL_drop_4 kX8_drop lL_25 inX8_drop seX8_drop gs3 rfl (px_drop hl w C LT.1.1 LT.1.2 a0 a1) (Nat.le_of_ble_eq_true rfl) ⟨(Nat.le_of_ble_eq_true rfl), (Nat.le_of_ble_eq_true rfl)⟩ rfl (Nat.le_of_ble_eq_true rfl) rfl ?_ ?_
  · rintro E _ ⟨hE, rfl⟩
    rcases hE with hE | hE
    · obtain ⟨hE, hk⟩ := hE
      have hk : t_drop C a0 a1 = 1 := hk
      have hE : E = "java/lang/IndexOutOfBoundsException" := hE
      subst hE
      refine ⟨14, 16, ⟨[], (⟨0, 11, 14, 19⟩ : ExceptionTableEntry), _, "java/lang/IndexOutOfBoundsException", rfl, (fun z hz => by cases hz), by decide, by decide, (z_w 847 ((lwg_4 82).trans rfl) (by decide +kernel)), (z_wn 860 ((lwg_4 95).trans rfl) (by decide +kernel)), rfl⟩, Or.inl ⟨4, dL_drop_14, by decide, rfl⟩, ?_⟩
      refine j_iconst (v := 1) dL_drop_16 (by decide) ?_
      refine j_iret dL_drop_17 rfl rfl ?_ (Nat.le_of_ble_eq_true rfl) (Nat.le_of_ble_eq_true rfl)
      exact ⟨_, by rw [hk], by unfold k_drop; rw [if_neg (by rw [hk]; decide)]; exact LT, fun z => absurd (hk.symm.trans z) (by decide)⟩
    · obtain ⟨hE, hk⟩ := hE
      have hk : t_drop C a0 a1 = 2 := hk
      have hE : E = "java/lang/IllegalArgumentException" := hE
      subst hE
      refine ⟨18, 20, ⟨[(⟨0, 11, 14, 19⟩ : ExceptionTableEntry)], (⟨0, 11, 18, 21⟩ : ExceptionTableEntry), _, "java/lang/IllegalArgumentException", rfl, (fun z hz => by
          simp only [List.mem_cons, List.not_mem_nil, or_false] at hz
          rcases hz with rfl
          · exact Or.inr ⟨by decide, "java/lang/IndexOutOfBoundsException", (z_w 847 ((lwg_4 82).trans rfl) (by decide +kernel)), by decide⟩), by decide, by decide, (z_w 848 ((lwg_4 83).trans rfl) (by decide +kernel)), (z_wn 460 ((lwg_2 175).trans rfl) (by decide +kernel)), rfl⟩, Or.inl ⟨4, dL_drop_18, by decide, rfl⟩, ?_⟩
      refine j_iconst (v := 2) dL_drop_20 (by decide) ?_
      refine j_iret dL_drop_21 rfl rfl ?_ (Nat.le_of_ble_eq_true rfl) (Nat.le_of_ble_eq_true rfl)
      exact ⟨_, by rw [hk], by unfold k_drop; rw [if_neg (by rw [hk]; decide)]; exact LT, fun z => absurd (hk.symm.trans z) (by decide)⟩
  · rintro _ w1 ⟨hk, rfl, hW1, hh1⟩
    have hk : t_drop C a0 a1 = 0 := hk
    have LT1 : z_LX x (k_drop C a0 a1) M n w1 := LT.cls (by unfold k_drop; rw [if_pos hk]; exact hW1) (okk_drop _ _ LT.1.2) hh1
    refine j_i2l dL_drop_7 ?_
    obtain ⟨-, -, ⟨ov4, og4⟩, -⟩ := id LT1
    refine j_put (w' := _) dL_drop_8 fL_13 tX9_0 og4 ⟨rfl, rfl⟩ rfl ?_
    refine j_seal (n := x) LT1.x1 ?_
    intro w2 u2
    have LT2 := LT1.out u2
    refine j_goto (tgt := 22) dL_drop_11 (by decide) ?_
    refine j_iconst (v := 0) dL_drop_22 (by decide) ?_
    refine j_iret dL_drop_23 rfl rfl ?_ (Nat.le_of_ble_eq_true rfl) (Nat.le_of_ble_eq_true rfl)
    exact ⟨_, by rw [hk], LT2, fun _ => rfl⟩
set_option maxRecDepth 100000 in
set_option maxHeartbeats 4000000 in
theorem lw_fix (hl : l.stackTraces = false) (w : z_W) (x : Nat) (C M : sp_S) (n : Int64) (LT : z_LX x C M n w) (a0 : Int32) (a1 : Bool) : z_Con G l mL_fix 27 14 120 w [.ref 0, .int a0, .int (z_bi a1), .ref x] (fun v w9 => ∃ n9 : Int64, v = some (.int (t_fix C a0 a1)) ∧ z_LX x (k_fix C a0 a1) M n9 w9 ∧ (t_fix C a0 a1 = 0 → n9 = (a_fix C a0 a1).toInt64)) (fun _ _ => False) := by
  refine z_bodyW hl (by decide) (by decide) (Nat.le_of_ble_eq_true rfl) ?_
  show z_J G l mL_fix _ 0 [(0, _), (1, _), (2, _), (3, _)] [] _ 0 0
  refine j_aload_n dL_fix_0 rfl rfl ?_
  refine j_aload_n dL_fix_1 rfl rfl ?_
  refine j_iload_n dL_fix_2 rfl ?_
  refine j_iload_n dL_fix_3 rfl ?_
  obtain ⟨fs5, gs5⟩ := LT.rc
  refine j_tryV (q := (RX8, TX8, 9)) dL_fix_4 kX8_fix lL_28 inX8_fix seX8_fix gs5 rfl (px_fix hl w C LT.1.1 LT.1.2 a0 a1) (Nat.le_of_ble_eq_true rfl) ⟨(Nat.le_of_ble_eq_true rfl), (Nat.le_of_ble_eq_true rfl)⟩ rfl (Nat.le_of_ble_eq_true rfl) rfl ?_ ?_
  · rintro E _ ⟨hE, rfl⟩
    obtain ⟨hE, hk⟩ := hE
    have hk : t_fix C a0 a1 = 1 := hk
    have hE : E = "java/lang/IndexOutOfBoundsException" := hE
    subst hE
    refine ⟨14, 16, ⟨[], (⟨0, 11, 14, 19⟩ : ExceptionTableEntry), _, "java/lang/IndexOutOfBoundsException", rfl, (fun z hz => by cases hz), by decide, by decide, (z_w 847 ((lwg_4 82).trans rfl) (by decide +kernel)), (z_wn 860 ((lwg_4 95).trans rfl) (by decide +kernel)), rfl⟩, Or.inl ⟨4, dL_fix_14, by decide, rfl⟩, ?_⟩
    refine j_iconst (v := 1) dL_fix_16 (by decide) ?_
    refine j_iret dL_fix_17 rfl rfl ?_ (Nat.le_of_ble_eq_true rfl) (Nat.le_of_ble_eq_true rfl)
    exact ⟨_, by rw [hk], by unfold k_fix; rw [if_neg (by rw [hk]; decide)]; exact LT, fun z => absurd (hk.symm.trans z) (by decide)⟩
  · rintro _ w1 ⟨hk, rfl, hW1, hh1⟩
    have hk : t_fix C a0 a1 = 0 := hk
    have LT1 : z_LX x (k_fix C a0 a1) M n w1 := LT.cls (by unfold k_fix; rw [if_pos hk]; exact hW1) (okk_fix _ _ LT.1.2) hh1
    refine j_i2l dL_fix_7 ?_
    obtain ⟨-, -, ⟨ov6, og6⟩, -⟩ := id LT1
    refine j_put (w' := _) dL_fix_8 fL_13 tX9_0 og6 ⟨rfl, rfl⟩ rfl ?_
    refine j_seal (n := x) LT1.x1 ?_
    intro w2 u2
    have LT2 := LT1.out u2
    refine j_goto (tgt := 18) dL_fix_11 (by decide) ?_
    refine j_iconst (v := 0) dL_fix_18 (by decide) ?_
    refine j_iret dL_fix_19 rfl rfl ?_ (Nat.le_of_ble_eq_true rfl) (Nat.le_of_ble_eq_true rfl)
    exact ⟨_, by rw [hk], LT2, fun _ => rfl⟩
set_option maxRecDepth 100000 in
set_option maxHeartbeats 4000000 in
theorem lw_hear (hl : l.stackTraces = false) (w : z_W) (x : Nat) (C M : sp_S) (n : Int64) (LT : z_LX x C M n w) (a0 : Int32) (a1 : Int32) : z_Con G l mL_hear 27 14 120 w [.ref 0, .int a0, .int a1, .ref x] (fun v w9 => ∃ n9 : Int64, v = some (.int (t_hear C a0 a1)) ∧ z_LX x (k_hear C a0 a1) M n9 w9 ∧ (t_hear C a0 a1 = 0 → n9 = (a_hear C a0 a1).toInt64)) (fun _ _ => False) := by
  refine z_bodyW hl (by decide) (by decide) (Nat.le_of_ble_eq_true rfl) ?_
  show z_J G l mL_hear _ 0 [(0, _), (1, _), (2, _), (3, _)] [] _ 0 0
  refine j_aload_n dL_hear_0 rfl rfl ?_
  refine j_aload_n dL_hear_1 rfl rfl ?_
  refine j_iload_n dL_hear_2 rfl ?_
  refine j_iload_n dL_hear_3 rfl ?_
  obtain ⟨fs7, gs7⟩ := LT.rc
  refine j_tryV (q := (RX8, TX8, 9)) dL_hear_4 kX8_hear lL_32 inX8_hear seX8_hear gs7 rfl (px_hear hl w C LT.1.1 LT.1.2 a0 a1) (Nat.le_of_ble_eq_true rfl) ⟨(Nat.le_of_ble_eq_true rfl), (Nat.le_of_ble_eq_true rfl)⟩ rfl (Nat.le_of_ble_eq_true rfl) rfl ?_ ?_
  · rintro E _ ⟨hE, rfl⟩
    obtain ⟨hE, hk⟩ := hE
    have hk : t_hear C a0 a1 = 1 := hk
    have hE : E = "java/lang/IndexOutOfBoundsException" := hE
    subst hE
    refine ⟨14, 16, ⟨[], (⟨0, 11, 14, 19⟩ : ExceptionTableEntry), _, "java/lang/IndexOutOfBoundsException", rfl, (fun z hz => by cases hz), by decide, by decide, (z_w 847 ((lwg_4 82).trans rfl) (by decide +kernel)), (z_wn 860 ((lwg_4 95).trans rfl) (by decide +kernel)), rfl⟩, Or.inl ⟨4, dL_hear_14, by decide, rfl⟩, ?_⟩
    refine j_iconst (v := 1) dL_hear_16 (by decide) ?_
    refine j_iret dL_hear_17 rfl rfl ?_ (Nat.le_of_ble_eq_true rfl) (Nat.le_of_ble_eq_true rfl)
    exact ⟨_, by rw [hk], by unfold k_hear; rw [if_neg (by rw [hk]; decide)]; exact LT, fun z => absurd (hk.symm.trans z) (by decide)⟩
  · rintro _ w1 ⟨hk, rfl, hW1, hh1⟩
    have hk : t_hear C a0 a1 = 0 := hk
    have LT1 : z_LX x (k_hear C a0 a1) M n w1 := LT.cls (by unfold k_hear; rw [if_pos hk]; exact hW1) (okk_hear _ _ LT.1.2) hh1
    refine j_i2l dL_hear_7 ?_
    obtain ⟨-, -, ⟨ov8, og8⟩, -⟩ := id LT1
    refine j_put (w' := _) dL_hear_8 fL_13 tX9_0 og8 ⟨rfl, rfl⟩ rfl ?_
    refine j_seal (n := x) LT1.x1 ?_
    intro w2 u2
    have LT2 := LT1.out u2
    refine j_goto (tgt := 18) dL_hear_11 (by decide) ?_
    refine j_iconst (v := 0) dL_hear_18 (by decide) ?_
    refine j_iret dL_hear_19 rfl rfl ?_ (Nat.le_of_ble_eq_true rfl) (Nat.le_of_ble_eq_true rfl)
    exact ⟨_, by rw [hk], LT2, fun _ => rfl⟩
set_option maxRecDepth 100000 in
set_option maxHeartbeats 4000000 in
theorem lw_rest (hl : l.stackTraces = false) (w : z_W) (x : Nat) (C M : sp_S) (n : Int64) (LT : z_LX x C M n w) (a0 : Int32) (a1 : Int32) (a2 : Int32) : z_Con G l mL_rest 27 14 120 w [.ref 0, .int a0, .int a1, .int a2, .ref x] (fun v w9 => ∃ n9 : Int64, v = some (.int (t_rest C a0 a1 a2)) ∧ z_LX x (k_rest C a0 a1 a2) M n9 w9 ∧ (t_rest C a0 a1 a2 = 0 → n9 = (a_rest C a0 a1 a2).toInt64)) (fun _ _ => False) := by
  refine z_bodyW hl (by decide) (by decide) (Nat.le_of_ble_eq_true rfl) ?_
  show z_J G l mL_rest _ 0 [(0, _), (1, _), (2, _), (3, _), (4, _)] [] _ 0 0
  refine j_aload dL_rest_0 rfl rfl ?_
  refine j_aload_n dL_rest_2 rfl rfl ?_
  refine j_iload_n dL_rest_3 rfl ?_
  refine j_iload_n dL_rest_4 rfl ?_
  refine j_iload_n dL_rest_5 rfl ?_
  obtain ⟨fs9, gs9⟩ := LT.rc
  refine j_tryV (q := (RX8, TX8, 9)) dL_rest_6 kX8_rest lL_35 inX8_rest seX8_rest gs9 rfl (px_rest hl w C LT.1.1 LT.1.2 a0 a1 a2) (Nat.le_of_ble_eq_true rfl) ⟨(Nat.le_of_ble_eq_true rfl), (Nat.le_of_ble_eq_true rfl)⟩ rfl (Nat.le_of_ble_eq_true rfl) rfl ?_ ?_
  · rintro E _ ⟨hE, rfl⟩
    rcases hE with hE | hE
    · obtain ⟨hE, hk⟩ := hE
      have hk : t_rest C a0 a1 a2 = 1 := hk
      have hE : E = "java/lang/IndexOutOfBoundsException" := hE
      subst hE
      refine ⟨16, 18, ⟨[], (⟨0, 13, 16, 19⟩ : ExceptionTableEntry), _, "java/lang/IndexOutOfBoundsException", rfl, (fun z hz => by cases hz), by decide, by decide, (z_w 847 ((lwg_4 82).trans rfl) (by decide +kernel)), (z_wn 860 ((lwg_4 95).trans rfl) (by decide +kernel)), rfl⟩, Or.inl ⟨5, dL_rest_16, by decide, rfl⟩, ?_⟩
      refine j_iconst (v := 1) dL_rest_18 (by decide) ?_
      refine j_iret dL_rest_19 rfl rfl ?_ (Nat.le_of_ble_eq_true rfl) (Nat.le_of_ble_eq_true rfl)
      exact ⟨_, by rw [hk], by unfold k_rest; rw [if_neg (by rw [hk]; decide)]; exact LT, fun z => absurd (hk.symm.trans z) (by decide)⟩
    · obtain ⟨hE, hk⟩ := hE
      have hk : t_rest C a0 a1 a2 = 2 := hk
      have hE : E = "java/lang/IllegalArgumentException" := hE
      subst hE
      refine ⟨20, 22, ⟨[(⟨0, 13, 16, 19⟩ : ExceptionTableEntry)], (⟨0, 13, 20, 21⟩ : ExceptionTableEntry), _, "java/lang/IllegalArgumentException", rfl, (fun z hz => by
          simp only [List.mem_cons, List.not_mem_nil, or_false] at hz
          rcases hz with rfl
          · exact Or.inr ⟨by decide, "java/lang/IndexOutOfBoundsException", (z_w 847 ((lwg_4 82).trans rfl) (by decide +kernel)), by decide⟩), by decide, by decide, (z_w 848 ((lwg_4 83).trans rfl) (by decide +kernel)), (z_wn 460 ((lwg_2 175).trans rfl) (by decide +kernel)), rfl⟩, Or.inl ⟨5, dL_rest_20, by decide, rfl⟩, ?_⟩
      refine j_iconst (v := 2) dL_rest_22 (by decide) ?_
      refine j_iret dL_rest_23 rfl rfl ?_ (Nat.le_of_ble_eq_true rfl) (Nat.le_of_ble_eq_true rfl)
      exact ⟨_, by rw [hk], by unfold k_rest; rw [if_neg (by rw [hk]; decide)]; exact LT, fun z => absurd (hk.symm.trans z) (by decide)⟩
  · rintro _ w1 ⟨hk, rfl, hW1, hh1⟩
    have hk : t_rest C a0 a1 a2 = 0 := hk
    have LT1 : z_LX x (k_rest C a0 a1 a2) M n w1 := LT.cls (by unfold k_rest; rw [if_pos hk]; exact hW1) (okk_rest _ _ _ LT.1.2) hh1
    refine j_i2l dL_rest_9 ?_
    obtain ⟨-, -, ⟨ov10, og10⟩, -⟩ := id LT1
    refine j_put (w' := _) dL_rest_10 fL_13 tX9_0 og10 ⟨rfl, rfl⟩ rfl ?_
    refine j_seal (n := x) LT1.x1 ?_
    intro w2 u2
    have LT2 := LT1.out u2
    refine j_goto (tgt := 24) dL_rest_13 (by decide) ?_
    refine j_iconst (v := 0) dL_rest_24 (by decide) ?_
    refine j_iret dL_rest_25 rfl rfl ?_ (Nat.le_of_ble_eq_true rfl) (Nat.le_of_ble_eq_true rfl)
    exact ⟨_, by rw [hk], LT2, fun _ => rfl⟩
set_option maxRecDepth 100000 in
set_option maxHeartbeats 4000000 in
theorem lw_removeIf (hl : l.stackTraces = false) (w : z_W) (x : Nat) (C M : sp_S) (n : Int64) (LT : z_LX x C M n w) (a0 : Int32) (a1 : Int32) (a2 : Int32) : z_Con G l mL_removeIf 27 14 120 w [.ref 0, .int a0, .int a1, .int a2, .ref x] (fun v w9 => ∃ n9 : Int64, v = some (.int (t_removeIf C a0 a1 a2)) ∧ z_LX x (k_removeIf C a0 a1 a2) M n9 w9 ∧ (t_removeIf C a0 a1 a2 = 0 → n9 = (a_removeIf C a0 a1 a2).toInt64)) (fun _ _ => False) := by
  refine z_bodyW hl (by decide) (by decide) (Nat.le_of_ble_eq_true rfl) ?_
  show z_J G l mL_removeIf _ 0 [(0, _), (1, _), (2, _), (3, _), (4, _)] [] _ 0 0
  refine j_aload dL_removeIf_0 rfl rfl ?_
  refine j_aload_n dL_removeIf_2 rfl rfl ?_
  refine j_iload_n dL_removeIf_3 rfl ?_
  refine j_iload_n dL_removeIf_4 rfl ?_
  refine j_iload_n dL_removeIf_5 rfl ?_
  obtain ⟨fs11, gs11⟩ := LT.rc
  refine j_tryV (q := (RX8, TX8, 9)) dL_removeIf_6 kX8_removeIf lL_39 inX8_removeIf seX8_removeIf gs11 rfl (px_removeIf hl w C LT.1.1 LT.1.2 a0 a1 a2) (Nat.le_of_ble_eq_true rfl) ⟨(Nat.le_of_ble_eq_true rfl), (Nat.le_of_ble_eq_true rfl)⟩ rfl (Nat.le_of_ble_eq_true rfl) rfl ?_ ?_
  · rintro E _ ⟨hE, rfl⟩
    rcases hE with hE | hE
    · obtain ⟨hE, hk⟩ := hE
      have hk : t_removeIf C a0 a1 a2 = 1 := hk
      have hE : E = "java/lang/IndexOutOfBoundsException" := hE
      subst hE
      refine ⟨16, 18, ⟨[], (⟨0, 13, 16, 19⟩ : ExceptionTableEntry), _, "java/lang/IndexOutOfBoundsException", rfl, (fun z hz => by cases hz), by decide, by decide, (z_w 847 ((lwg_4 82).trans rfl) (by decide +kernel)), (z_wn 860 ((lwg_4 95).trans rfl) (by decide +kernel)), rfl⟩, Or.inl ⟨5, dL_removeIf_16, by decide, rfl⟩, ?_⟩
      refine j_iconst (v := 1) dL_removeIf_18 (by decide) ?_
      refine j_iret dL_removeIf_19 rfl rfl ?_ (Nat.le_of_ble_eq_true rfl) (Nat.le_of_ble_eq_true rfl)
      exact ⟨_, by rw [hk], by unfold k_removeIf; rw [if_neg (by rw [hk]; decide)]; exact LT, fun z => absurd (hk.symm.trans z) (by decide)⟩
    · obtain ⟨hE, hk⟩ := hE
      have hk : t_removeIf C a0 a1 a2 = 2 := hk
      have hE : E = "java/lang/IllegalArgumentException" := hE
      subst hE
      refine ⟨20, 22, ⟨[(⟨0, 13, 16, 19⟩ : ExceptionTableEntry)], (⟨0, 13, 20, 21⟩ : ExceptionTableEntry), _, "java/lang/IllegalArgumentException", rfl, (fun z hz => by
          simp only [List.mem_cons, List.not_mem_nil, or_false] at hz
          rcases hz with rfl
          · exact Or.inr ⟨by decide, "java/lang/IndexOutOfBoundsException", (z_w 847 ((lwg_4 82).trans rfl) (by decide +kernel)), by decide⟩), by decide, by decide, (z_w 848 ((lwg_4 83).trans rfl) (by decide +kernel)), (z_wn 460 ((lwg_2 175).trans rfl) (by decide +kernel)), rfl⟩, Or.inl ⟨5, dL_removeIf_20, by decide, rfl⟩, ?_⟩
      refine j_iconst (v := 2) dL_removeIf_22 (by decide) ?_
      refine j_iret dL_removeIf_23 rfl rfl ?_ (Nat.le_of_ble_eq_true rfl) (Nat.le_of_ble_eq_true rfl)
      exact ⟨_, by rw [hk], by unfold k_removeIf; rw [if_neg (by rw [hk]; decide)]; exact LT, fun z => absurd (hk.symm.trans z) (by decide)⟩
  · rintro _ w1 ⟨hk, rfl, hW1, hh1⟩
    have hk : t_removeIf C a0 a1 a2 = 0 := hk
    have LT1 : z_LX x (k_removeIf C a0 a1 a2) M n w1 := LT.cls (by unfold k_removeIf; rw [if_pos hk]; exact hW1) (okk_removeIf _ _ _ LT.1.2) hh1
    refine j_i2l dL_removeIf_9 ?_
    obtain ⟨-, -, ⟨ov12, og12⟩, -⟩ := id LT1
    refine j_put (w' := _) dL_removeIf_10 fL_13 tX9_0 og12 ⟨rfl, rfl⟩ rfl ?_
    refine j_seal (n := x) LT1.x1 ?_
    intro w2 u2
    have LT2 := LT1.out u2
    refine j_goto (tgt := 24) dL_removeIf_13 (by decide) ?_
    refine j_iconst (v := 0) dL_removeIf_24 (by decide) ?_
    refine j_iret dL_removeIf_25 rfl rfl ?_ (Nat.le_of_ble_eq_true rfl) (Nat.le_of_ble_eq_true rfl)
    exact ⟨_, by rw [hk], LT2, fun _ => rfl⟩
set_option maxRecDepth 100000 in
set_option maxHeartbeats 4000000 in
theorem lw_replaceAll (hl : l.stackTraces = false) (w : z_W) (x : Nat) (C M : sp_S) (n : Int64) (LT : z_LX x C M n w) (a0 : Int32) (a1 : Int32) (a2 : Int32) : z_Con G l mL_replaceAll 27 14 120 w [.ref 0, .int a0, .int a1, .int a2, .ref x] (fun v w9 => ∃ n9 : Int64, v = some (.int (t_replaceAll C a0 a1 a2)) ∧ z_LX x (k_replaceAll C a0 a1 a2) M n9 w9 ∧ (t_replaceAll C a0 a1 a2 = 0 → n9 = (a_replaceAll C a0 a1 a2).toInt64)) (fun _ _ => False) := by
  refine z_bodyW hl (by decide) (by decide) (Nat.le_of_ble_eq_true rfl) ?_
  show z_J G l mL_replaceAll _ 0 [(0, _), (1, _), (2, _), (3, _), (4, _)] [] _ 0 0
  refine j_aload dL_replaceAll_0 rfl rfl ?_
  refine j_aload_n dL_replaceAll_2 rfl rfl ?_
  refine j_iload_n dL_replaceAll_3 rfl ?_
  refine j_iload_n dL_replaceAll_4 rfl ?_
  refine j_iload_n dL_replaceAll_5 rfl ?_
  obtain ⟨fs13, gs13⟩ := LT.rc
  refine j_tryV (q := (RX8, TX8, 9)) dL_replaceAll_6 kX8_replaceAll lL_42 inX8_replaceAll seX8_replaceAll gs13 rfl (px_replaceAll hl w C LT.1.1 LT.1.2 a0 a1 a2) (Nat.le_of_ble_eq_true rfl) ⟨(Nat.le_of_ble_eq_true rfl), (Nat.le_of_ble_eq_true rfl)⟩ rfl (Nat.le_of_ble_eq_true rfl) rfl ?_ ?_
  · rintro E _ ⟨hE, rfl⟩
    rcases hE with hE | hE
    · obtain ⟨hE, hk⟩ := hE
      have hk : t_replaceAll C a0 a1 a2 = 1 := hk
      have hE : E = "java/lang/IndexOutOfBoundsException" := hE
      subst hE
      refine ⟨16, 18, ⟨[], (⟨0, 13, 16, 19⟩ : ExceptionTableEntry), _, "java/lang/IndexOutOfBoundsException", rfl, (fun z hz => by cases hz), by decide, by decide, (z_w 847 ((lwg_4 82).trans rfl) (by decide +kernel)), (z_wn 860 ((lwg_4 95).trans rfl) (by decide +kernel)), rfl⟩, Or.inl ⟨5, dL_replaceAll_16, by decide, rfl⟩, ?_⟩
      refine j_iconst (v := 1) dL_replaceAll_18 (by decide) ?_
      refine j_iret dL_replaceAll_19 rfl rfl ?_ (Nat.le_of_ble_eq_true rfl) (Nat.le_of_ble_eq_true rfl)
      exact ⟨_, by rw [hk], by unfold k_replaceAll; rw [if_neg (by rw [hk]; decide)]; exact LT, fun z => absurd (hk.symm.trans z) (by decide)⟩
    · obtain ⟨hE, hk⟩ := hE
      have hk : t_replaceAll C a0 a1 a2 = 2 := hk
      have hE : E = "java/lang/IllegalArgumentException" := hE
      subst hE
      refine ⟨20, 22, ⟨[(⟨0, 13, 16, 19⟩ : ExceptionTableEntry)], (⟨0, 13, 20, 21⟩ : ExceptionTableEntry), _, "java/lang/IllegalArgumentException", rfl, (fun z hz => by
          simp only [List.mem_cons, List.not_mem_nil, or_false] at hz
          rcases hz with rfl
          · exact Or.inr ⟨by decide, "java/lang/IndexOutOfBoundsException", (z_w 847 ((lwg_4 82).trans rfl) (by decide +kernel)), by decide⟩), by decide, by decide, (z_w 848 ((lwg_4 83).trans rfl) (by decide +kernel)), (z_wn 460 ((lwg_2 175).trans rfl) (by decide +kernel)), rfl⟩, Or.inl ⟨5, dL_replaceAll_20, by decide, rfl⟩, ?_⟩
      refine j_iconst (v := 2) dL_replaceAll_22 (by decide) ?_
      refine j_iret dL_replaceAll_23 rfl rfl ?_ (Nat.le_of_ble_eq_true rfl) (Nat.le_of_ble_eq_true rfl)
      exact ⟨_, by rw [hk], by unfold k_replaceAll; rw [if_neg (by rw [hk]; decide)]; exact LT, fun z => absurd (hk.symm.trans z) (by decide)⟩
  · rintro _ w1 ⟨hk, rfl, hW1, hh1⟩
    have hk : t_replaceAll C a0 a1 a2 = 0 := hk
    have LT1 : z_LX x (k_replaceAll C a0 a1 a2) M n w1 := LT.cls (by unfold k_replaceAll; rw [if_pos hk]; exact hW1) (okk_replaceAll _ _ _ LT.1.2) hh1
    refine j_i2l dL_replaceAll_9 ?_
    obtain ⟨-, -, ⟨ov14, og14⟩, -⟩ := id LT1
    refine j_put (w' := _) dL_replaceAll_10 fL_13 tX9_0 og14 ⟨rfl, rfl⟩ rfl ?_
    refine j_seal (n := x) LT1.x1 ?_
    intro w2 u2
    have LT2 := LT1.out u2
    refine j_goto (tgt := 24) dL_replaceAll_13 (by decide) ?_
    refine j_iconst (v := 0) dL_replaceAll_24 (by decide) ?_
    refine j_iret dL_replaceAll_25 rfl rfl ?_ (Nat.le_of_ble_eq_true rfl) (Nat.le_of_ble_eq_true rfl)
    exact ⟨_, by rw [hk], LT2, fun _ => rfl⟩
set_option maxRecDepth 100000 in
set_option maxHeartbeats 4000000 in
theorem lw_copy (hl : l.stackTraces = false) (w : z_W) (x : Nat) (C M : sp_S) (n : Int64) (LT : z_LX x C M n w) (a0 : Int32) : z_Con G l mL_copy 27 14 120 w [.ref 0, .int a0, .ref x] (fun v w9 => ∃ n9 : Int64, v = some (.int (t_copy C a0)) ∧ z_LX x (k_copy C a0) M n9 w9 ∧ (t_copy C a0 = 0 → n9 = (a_copy C a0).toInt64)) (fun _ _ => False) := by
  refine z_bodyW hl (by decide) (by decide) (Nat.le_of_ble_eq_true rfl) ?_
  show z_J G l mL_copy _ 0 [(0, _), (1, _), (2, _)] [] _ 0 0
  refine j_aload_n dL_copy_0 rfl rfl ?_
  refine j_aload_n dL_copy_1 rfl rfl ?_
  refine j_iload_n dL_copy_2 rfl ?_
  obtain ⟨fs15, gs15⟩ := LT.rc
  refine j_tryV (q := (RX8, TX8, 9)) dL_copy_3 kX8_copy lL_45 inX8_copy seX8_copy gs15 rfl (px_copy hl w C LT.1.1 LT.1.2 a0) (Nat.le_of_ble_eq_true rfl) ⟨(Nat.le_of_ble_eq_true rfl), (Nat.le_of_ble_eq_true rfl)⟩ rfl (Nat.le_of_ble_eq_true rfl) rfl ?_ ?_
  · rintro E _ ⟨hE, rfl⟩
    obtain ⟨hE, hk⟩ := hE
    have hk : t_copy C a0 = 1 := hk
    have hE : E = "java/lang/IndexOutOfBoundsException" := hE
    subst hE
    refine ⟨13, 14, ⟨[], (⟨0, 10, 13, 19⟩ : ExceptionTableEntry), _, "java/lang/IndexOutOfBoundsException", rfl, (fun z hz => by cases hz), by decide, by decide, (z_w 847 ((lwg_4 82).trans rfl) (by decide +kernel)), (z_wn 860 ((lwg_4 95).trans rfl) (by decide +kernel)), rfl⟩, Or.inr ⟨3, dL_copy_13, by decide, rfl⟩, ?_⟩
    refine j_iconst (v := 1) dL_copy_14 (by decide) ?_
    refine j_iret dL_copy_15 rfl rfl ?_ (Nat.le_of_ble_eq_true rfl) (Nat.le_of_ble_eq_true rfl)
    exact ⟨_, by rw [hk], by unfold k_copy; rw [if_neg (by rw [hk]; decide)]; exact LT, fun z => absurd (hk.symm.trans z) (by decide)⟩
  · rintro _ w1 ⟨hk, rfl, hW1, hh1⟩
    have hk : t_copy C a0 = 0 := hk
    have LT1 : z_LX x (k_copy C a0) M n w1 := LT.cls (by unfold k_copy; rw [if_pos hk]; exact hW1) (okk_copy _ LT.1.2) hh1
    refine j_i2l dL_copy_6 ?_
    obtain ⟨-, -, ⟨ov16, og16⟩, -⟩ := id LT1
    refine j_put (w' := _) dL_copy_7 fL_13 tX9_0 og16 ⟨rfl, rfl⟩ rfl ?_
    refine j_seal (n := x) LT1.x1 ?_
    intro w2 u2
    have LT2 := LT1.out u2
    refine j_goto (tgt := 16) dL_copy_10 (by decide) ?_
    refine j_iconst (v := 0) dL_copy_16 (by decide) ?_
    refine j_iret dL_copy_17 rfl rfl ?_ (Nat.le_of_ble_eq_true rfl) (Nat.le_of_ble_eq_true rfl)
    exact ⟨_, by rw [hk], LT2, fun _ => rfl⟩
set_option maxRecDepth 100000 in
set_option maxHeartbeats 4000000 in
theorem lw_put (hl : l.stackTraces = false) (w : z_W) (x : Nat) (C M : sp_S) (n : Int64) (LT : z_LX x C M n w) (a0 : Int32) (a1 : Int32) (a2 : Int32) : z_Con G l mL_put 27 14 120 w [.ref 0, .int a0, .int a1, .int a2, .ref x] (fun v w9 => ∃ n9 : Int64, v = some (.int (t_put C a0 a1 a2)) ∧ z_LX x (k_put C a0 a1 a2) M n9 w9 ∧ (t_put C a0 a1 a2 = 0 → n9 = (a_put C a0 a1 a2).toInt64)) (fun _ _ => False) := by
  refine z_bodyW hl (by decide) (by decide) (Nat.le_of_ble_eq_true rfl) ?_
  show z_J G l mL_put _ 0 [(0, _), (1, _), (2, _), (3, _), (4, _)] [] _ 0 0
  refine j_aload dL_put_0 rfl rfl ?_
  refine j_aload_n dL_put_2 rfl rfl ?_
  refine j_iload_n dL_put_3 rfl ?_
  refine j_iload_n dL_put_4 rfl ?_
  refine j_iload_n dL_put_5 rfl ?_
  obtain ⟨fs17, gs17⟩ := LT.rc
  refine j_tryV (q := (RX8, TX8, 9)) dL_put_6 kX8_put lL_49 inX8_put seX8_put gs17 rfl (px_put hl w C LT.1.1 LT.1.2 a0 a1 a2) (Nat.le_of_ble_eq_true rfl) ⟨(Nat.le_of_ble_eq_true rfl), (Nat.le_of_ble_eq_true rfl)⟩ rfl (Nat.le_of_ble_eq_true rfl) rfl ?_ ?_
  · rintro E _ ⟨hE, rfl⟩
    rcases hE with hE | hE
    · obtain ⟨hE, hk⟩ := hE
      have hk : t_put C a0 a1 a2 = 1 := hk
      have hE : E = "java/lang/IndexOutOfBoundsException" := hE
      subst hE
      refine ⟨16, 18, ⟨[], (⟨0, 13, 16, 19⟩ : ExceptionTableEntry), _, "java/lang/IndexOutOfBoundsException", rfl, (fun z hz => by cases hz), by decide, by decide, (z_w 847 ((lwg_4 82).trans rfl) (by decide +kernel)), (z_wn 860 ((lwg_4 95).trans rfl) (by decide +kernel)), rfl⟩, Or.inl ⟨5, dL_put_16, by decide, rfl⟩, ?_⟩
      refine j_iconst (v := 1) dL_put_18 (by decide) ?_
      refine j_iret dL_put_19 rfl rfl ?_ (Nat.le_of_ble_eq_true rfl) (Nat.le_of_ble_eq_true rfl)
      exact ⟨_, by rw [hk], by unfold k_put; rw [if_neg (by rw [hk]; decide)]; exact LT, fun z => absurd (hk.symm.trans z) (by decide)⟩
    · obtain ⟨hE, hk⟩ := hE
      have hk : t_put C a0 a1 a2 = 2 := hk
      have hE : E = "java/lang/IllegalArgumentException" := hE
      subst hE
      refine ⟨20, 22, ⟨[(⟨0, 13, 16, 19⟩ : ExceptionTableEntry)], (⟨0, 13, 20, 21⟩ : ExceptionTableEntry), _, "java/lang/IllegalArgumentException", rfl, (fun z hz => by
          simp only [List.mem_cons, List.not_mem_nil, or_false] at hz
          rcases hz with rfl
          · exact Or.inr ⟨by decide, "java/lang/IndexOutOfBoundsException", (z_w 847 ((lwg_4 82).trans rfl) (by decide +kernel)), by decide⟩), by decide, by decide, (z_w 848 ((lwg_4 83).trans rfl) (by decide +kernel)), (z_wn 460 ((lwg_2 175).trans rfl) (by decide +kernel)), rfl⟩, Or.inl ⟨5, dL_put_20, by decide, rfl⟩, ?_⟩
      refine j_iconst (v := 2) dL_put_22 (by decide) ?_
      refine j_iret dL_put_23 rfl rfl ?_ (Nat.le_of_ble_eq_true rfl) (Nat.le_of_ble_eq_true rfl)
      exact ⟨_, by rw [hk], by unfold k_put; rw [if_neg (by rw [hk]; decide)]; exact LT, fun z => absurd (hk.symm.trans z) (by decide)⟩
  · rintro _ w1 ⟨hk, rfl, hW1, hh1⟩
    have hk : t_put C a0 a1 a2 = 0 := hk
    have LT1 : z_LX x (k_put C a0 a1 a2) M n w1 := LT.cls (by unfold k_put; rw [if_pos hk]; exact hW1) (okk_put _ _ _ LT.1.2) hh1
    refine j_i2l dL_put_9 ?_
    obtain ⟨-, -, ⟨ov18, og18⟩, -⟩ := id LT1
    refine j_put (w' := _) dL_put_10 fL_13 tX9_0 og18 ⟨rfl, rfl⟩ rfl ?_
    refine j_seal (n := x) LT1.x1 ?_
    intro w2 u2
    have LT2 := LT1.out u2
    refine j_goto (tgt := 24) dL_put_13 (by decide) ?_
    refine j_iconst (v := 0) dL_put_24 (by decide) ?_
    refine j_iret dL_put_25 rfl rfl ?_ (Nat.le_of_ble_eq_true rfl) (Nat.le_of_ble_eq_true rfl)
    exact ⟨_, by rw [hk], LT2, fun _ => rfl⟩
set_option maxRecDepth 100000 in
set_option maxHeartbeats 4000000 in
theorem lw_remove (hl : l.stackTraces = false) (w : z_W) (x : Nat) (C M : sp_S) (n : Int64) (LT : z_LX x C M n w) (a0 : Int32) (a1 : Int32) : z_Con G l mL_remove 27 14 120 w [.ref 0, .int a0, .int a1, .ref x] (fun v w9 => ∃ n9 : Int64, v = some (.int (t_remove C a0 a1)) ∧ z_LX x (k_remove C a0 a1) M n9 w9 ∧ (t_remove C a0 a1 = 0 → n9 = (a_remove C a0 a1).toInt64)) (fun _ _ => False) := by
  refine z_bodyW hl (by decide) (by decide) (Nat.le_of_ble_eq_true rfl) ?_
  show z_J G l mL_remove _ 0 [(0, _), (1, _), (2, _), (3, _)] [] _ 0 0
  refine j_aload_n dL_remove_0 rfl rfl ?_
  refine j_aload_n dL_remove_1 rfl rfl ?_
  refine j_iload_n dL_remove_2 rfl ?_
  refine j_iload_n dL_remove_3 rfl ?_
  obtain ⟨fs19, gs19⟩ := LT.rc
  refine j_tryV (q := (RX8, TX8, 9)) dL_remove_4 kX8_remove lL_52 inX8_remove seX8_remove gs19 rfl (px_remove hl w C LT.1.1 LT.1.2 a0 a1) (Nat.le_of_ble_eq_true rfl) ⟨(Nat.le_of_ble_eq_true rfl), (Nat.le_of_ble_eq_true rfl)⟩ rfl (Nat.le_of_ble_eq_true rfl) rfl ?_ ?_
  · rintro E _ ⟨hE, rfl⟩
    rcases hE with hE | hE
    · obtain ⟨hE, hk⟩ := hE
      have hk : t_remove C a0 a1 = 1 := hk
      have hE : E = "java/lang/IndexOutOfBoundsException" := hE
      subst hE
      refine ⟨14, 16, ⟨[], (⟨0, 11, 14, 19⟩ : ExceptionTableEntry), _, "java/lang/IndexOutOfBoundsException", rfl, (fun z hz => by cases hz), by decide, by decide, (z_w 847 ((lwg_4 82).trans rfl) (by decide +kernel)), (z_wn 860 ((lwg_4 95).trans rfl) (by decide +kernel)), rfl⟩, Or.inl ⟨4, dL_remove_14, by decide, rfl⟩, ?_⟩
      refine j_iconst (v := 1) dL_remove_16 (by decide) ?_
      refine j_iret dL_remove_17 rfl rfl ?_ (Nat.le_of_ble_eq_true rfl) (Nat.le_of_ble_eq_true rfl)
      exact ⟨_, by rw [hk], by unfold k_remove; rw [if_neg (by rw [hk]; decide)]; exact LT, fun z => absurd (hk.symm.trans z) (by decide)⟩
    · obtain ⟨hE, hk⟩ := hE
      have hk : t_remove C a0 a1 = 2 := hk
      have hE : E = "java/lang/IllegalArgumentException" := hE
      subst hE
      refine ⟨18, 20, ⟨[(⟨0, 11, 14, 19⟩ : ExceptionTableEntry)], (⟨0, 11, 18, 21⟩ : ExceptionTableEntry), _, "java/lang/IllegalArgumentException", rfl, (fun z hz => by
          simp only [List.mem_cons, List.not_mem_nil, or_false] at hz
          rcases hz with rfl
          · exact Or.inr ⟨by decide, "java/lang/IndexOutOfBoundsException", (z_w 847 ((lwg_4 82).trans rfl) (by decide +kernel)), by decide⟩), by decide, by decide, (z_w 848 ((lwg_4 83).trans rfl) (by decide +kernel)), (z_wn 460 ((lwg_2 175).trans rfl) (by decide +kernel)), rfl⟩, Or.inl ⟨4, dL_remove_18, by decide, rfl⟩, ?_⟩
      refine j_iconst (v := 2) dL_remove_20 (by decide) ?_
      refine j_iret dL_remove_21 rfl rfl ?_ (Nat.le_of_ble_eq_true rfl) (Nat.le_of_ble_eq_true rfl)
      exact ⟨_, by rw [hk], by unfold k_remove; rw [if_neg (by rw [hk]; decide)]; exact LT, fun z => absurd (hk.symm.trans z) (by decide)⟩
  · rintro _ w1 ⟨hk, rfl, hW1, hh1⟩
    have hk : t_remove C a0 a1 = 0 := hk
    have LT1 : z_LX x (k_remove C a0 a1) M n w1 := LT.cls (by unfold k_remove; rw [if_pos hk]; exact hW1) (okk_remove _ _ LT.1.2) hh1
    refine j_i2l dL_remove_7 ?_
    obtain ⟨-, -, ⟨ov20, og20⟩, -⟩ := id LT1
    refine j_put (w' := _) dL_remove_8 fL_13 tX9_0 og20 ⟨rfl, rfl⟩ rfl ?_
    refine j_seal (n := x) LT1.x1 ?_
    intro w2 u2
    have LT2 := LT1.out u2
    refine j_goto (tgt := 22) dL_remove_11 (by decide) ?_
    refine j_iconst (v := 0) dL_remove_22 (by decide) ?_
    refine j_iret dL_remove_23 rfl rfl ?_ (Nat.le_of_ble_eq_true rfl) (Nat.le_of_ble_eq_true rfl)
    exact ⟨_, by rw [hk], LT2, fun _ => rfl⟩
set_option maxRecDepth 100000 in
set_option maxHeartbeats 4000000 in
theorem lw_putIfAbsent (hl : l.stackTraces = false) (w : z_W) (x : Nat) (C M : sp_S) (n : Int64) (LT : z_LX x C M n w) (a0 : Int32) (a1 : Int32) (a2 : Int32) : z_Con G l mL_putIfAbsent 27 14 120 w [.ref 0, .int a0, .int a1, .int a2, .ref x] (fun v w9 => ∃ n9 : Int64, v = some (.int (t_putIfAbsent C a0 a1 a2)) ∧ z_LX x (k_putIfAbsent C a0 a1 a2) M n9 w9 ∧ (t_putIfAbsent C a0 a1 a2 = 0 → n9 = (a_putIfAbsent C a0 a1 a2).toInt64)) (fun _ _ => False) := by
  refine z_bodyW hl (by decide) (by decide) (Nat.le_of_ble_eq_true rfl) ?_
  show z_J G l mL_putIfAbsent _ 0 [(0, _), (1, _), (2, _), (3, _), (4, _)] [] _ 0 0
  refine j_aload dL_putIfAbsent_0 rfl rfl ?_
  refine j_aload_n dL_putIfAbsent_2 rfl rfl ?_
  refine j_iload_n dL_putIfAbsent_3 rfl ?_
  refine j_iload_n dL_putIfAbsent_4 rfl ?_
  refine j_iload_n dL_putIfAbsent_5 rfl ?_
  obtain ⟨fs21, gs21⟩ := LT.rc
  refine j_tryV (q := (RX8, TX8, 9)) dL_putIfAbsent_6 kX8_putIfAbsent lL_55 inX8_putIfAbsent seX8_putIfAbsent gs21 rfl (px_putIfAbsent hl w C LT.1.1 LT.1.2 a0 a1 a2) (Nat.le_of_ble_eq_true rfl) ⟨(Nat.le_of_ble_eq_true rfl), (Nat.le_of_ble_eq_true rfl)⟩ rfl (Nat.le_of_ble_eq_true rfl) rfl ?_ ?_
  · rintro E _ ⟨hE, rfl⟩
    rcases hE with hE | hE
    · obtain ⟨hE, hk⟩ := hE
      have hk : t_putIfAbsent C a0 a1 a2 = 1 := hk
      have hE : E = "java/lang/IndexOutOfBoundsException" := hE
      subst hE
      refine ⟨16, 18, ⟨[], (⟨0, 13, 16, 19⟩ : ExceptionTableEntry), _, "java/lang/IndexOutOfBoundsException", rfl, (fun z hz => by cases hz), by decide, by decide, (z_w 847 ((lwg_4 82).trans rfl) (by decide +kernel)), (z_wn 860 ((lwg_4 95).trans rfl) (by decide +kernel)), rfl⟩, Or.inl ⟨5, dL_putIfAbsent_16, by decide, rfl⟩, ?_⟩
      refine j_iconst (v := 1) dL_putIfAbsent_18 (by decide) ?_
      refine j_iret dL_putIfAbsent_19 rfl rfl ?_ (Nat.le_of_ble_eq_true rfl) (Nat.le_of_ble_eq_true rfl)
      exact ⟨_, by rw [hk], by unfold k_putIfAbsent; rw [if_neg (by rw [hk]; decide)]; exact LT, fun z => absurd (hk.symm.trans z) (by decide)⟩
    · obtain ⟨hE, hk⟩ := hE
      have hk : t_putIfAbsent C a0 a1 a2 = 2 := hk
      have hE : E = "java/lang/IllegalArgumentException" := hE
      subst hE
      refine ⟨20, 22, ⟨[(⟨0, 13, 16, 19⟩ : ExceptionTableEntry)], (⟨0, 13, 20, 21⟩ : ExceptionTableEntry), _, "java/lang/IllegalArgumentException", rfl, (fun z hz => by
          simp only [List.mem_cons, List.not_mem_nil, or_false] at hz
          rcases hz with rfl
          · exact Or.inr ⟨by decide, "java/lang/IndexOutOfBoundsException", (z_w 847 ((lwg_4 82).trans rfl) (by decide +kernel)), by decide⟩), by decide, by decide, (z_w 848 ((lwg_4 83).trans rfl) (by decide +kernel)), (z_wn 460 ((lwg_2 175).trans rfl) (by decide +kernel)), rfl⟩, Or.inl ⟨5, dL_putIfAbsent_20, by decide, rfl⟩, ?_⟩
      refine j_iconst (v := 2) dL_putIfAbsent_22 (by decide) ?_
      refine j_iret dL_putIfAbsent_23 rfl rfl ?_ (Nat.le_of_ble_eq_true rfl) (Nat.le_of_ble_eq_true rfl)
      exact ⟨_, by rw [hk], by unfold k_putIfAbsent; rw [if_neg (by rw [hk]; decide)]; exact LT, fun z => absurd (hk.symm.trans z) (by decide)⟩
  · rintro _ w1 ⟨hk, rfl, hW1, hh1⟩
    have hk : t_putIfAbsent C a0 a1 a2 = 0 := hk
    have LT1 : z_LX x (k_putIfAbsent C a0 a1 a2) M n w1 := LT.cls (by unfold k_putIfAbsent; rw [if_pos hk]; exact hW1) (okk_putIfAbsent _ _ _ LT.1.2) hh1
    refine j_i2l dL_putIfAbsent_9 ?_
    obtain ⟨-, -, ⟨ov22, og22⟩, -⟩ := id LT1
    refine j_put (w' := _) dL_putIfAbsent_10 fL_13 tX9_0 og22 ⟨rfl, rfl⟩ rfl ?_
    refine j_seal (n := x) LT1.x1 ?_
    intro w2 u2
    have LT2 := LT1.out u2
    refine j_goto (tgt := 24) dL_putIfAbsent_13 (by decide) ?_
    refine j_iconst (v := 0) dL_putIfAbsent_24 (by decide) ?_
    refine j_iret dL_putIfAbsent_25 rfl rfl ?_ (Nat.le_of_ble_eq_true rfl) (Nat.le_of_ble_eq_true rfl)
    exact ⟨_, by rw [hk], LT2, fun _ => rfl⟩
set_option maxRecDepth 100000 in
set_option maxHeartbeats 4000000 in
theorem lw_replace (hl : l.stackTraces = false) (w : z_W) (x : Nat) (C M : sp_S) (n : Int64) (LT : z_LX x C M n w) (a0 : Int32) (a1 : Int32) (a2 : Int32) : z_Con G l mL_replace 27 14 120 w [.ref 0, .int a0, .int a1, .int a2, .ref x] (fun v w9 => ∃ n9 : Int64, v = some (.int (t_replace C a0 a1 a2)) ∧ z_LX x (k_replace C a0 a1 a2) M n9 w9 ∧ (t_replace C a0 a1 a2 = 0 → n9 = (a_replace C a0 a1 a2).toInt64)) (fun _ _ => False) := by
  refine z_bodyW hl (by decide) (by decide) (Nat.le_of_ble_eq_true rfl) ?_
  show z_J G l mL_replace _ 0 [(0, _), (1, _), (2, _), (3, _), (4, _)] [] _ 0 0
  refine j_aload dL_replace_0 rfl rfl ?_
  refine j_aload_n dL_replace_2 rfl rfl ?_
  refine j_iload_n dL_replace_3 rfl ?_
  refine j_iload_n dL_replace_4 rfl ?_
  refine j_iload_n dL_replace_5 rfl ?_
  obtain ⟨fs23, gs23⟩ := LT.rc
  refine j_tryV (q := (RX8, TX8, 9)) dL_replace_6 kX8_replace lL_58 inX8_replace seX8_replace gs23 rfl (px_replace hl w C LT.1.1 LT.1.2 a0 a1 a2) (Nat.le_of_ble_eq_true rfl) ⟨(Nat.le_of_ble_eq_true rfl), (Nat.le_of_ble_eq_true rfl)⟩ rfl (Nat.le_of_ble_eq_true rfl) rfl ?_ ?_
  · rintro E _ ⟨hE, rfl⟩
    rcases hE with hE | hE
    · obtain ⟨hE, hk⟩ := hE
      have hk : t_replace C a0 a1 a2 = 1 := hk
      have hE : E = "java/lang/IndexOutOfBoundsException" := hE
      subst hE
      refine ⟨16, 18, ⟨[], (⟨0, 13, 16, 19⟩ : ExceptionTableEntry), _, "java/lang/IndexOutOfBoundsException", rfl, (fun z hz => by cases hz), by decide, by decide, (z_w 847 ((lwg_4 82).trans rfl) (by decide +kernel)), (z_wn 860 ((lwg_4 95).trans rfl) (by decide +kernel)), rfl⟩, Or.inl ⟨5, dL_replace_16, by decide, rfl⟩, ?_⟩
      refine j_iconst (v := 1) dL_replace_18 (by decide) ?_
      refine j_iret dL_replace_19 rfl rfl ?_ (Nat.le_of_ble_eq_true rfl) (Nat.le_of_ble_eq_true rfl)
      exact ⟨_, by rw [hk], by unfold k_replace; rw [if_neg (by rw [hk]; decide)]; exact LT, fun z => absurd (hk.symm.trans z) (by decide)⟩
    · obtain ⟨hE, hk⟩ := hE
      have hk : t_replace C a0 a1 a2 = 2 := hk
      have hE : E = "java/lang/IllegalArgumentException" := hE
      subst hE
      refine ⟨20, 22, ⟨[(⟨0, 13, 16, 19⟩ : ExceptionTableEntry)], (⟨0, 13, 20, 21⟩ : ExceptionTableEntry), _, "java/lang/IllegalArgumentException", rfl, (fun z hz => by
          simp only [List.mem_cons, List.not_mem_nil, or_false] at hz
          rcases hz with rfl
          · exact Or.inr ⟨by decide, "java/lang/IndexOutOfBoundsException", (z_w 847 ((lwg_4 82).trans rfl) (by decide +kernel)), by decide⟩), by decide, by decide, (z_w 848 ((lwg_4 83).trans rfl) (by decide +kernel)), (z_wn 460 ((lwg_2 175).trans rfl) (by decide +kernel)), rfl⟩, Or.inl ⟨5, dL_replace_20, by decide, rfl⟩, ?_⟩
      refine j_iconst (v := 2) dL_replace_22 (by decide) ?_
      refine j_iret dL_replace_23 rfl rfl ?_ (Nat.le_of_ble_eq_true rfl) (Nat.le_of_ble_eq_true rfl)
      exact ⟨_, by rw [hk], by unfold k_replace; rw [if_neg (by rw [hk]; decide)]; exact LT, fun z => absurd (hk.symm.trans z) (by decide)⟩
  · rintro _ w1 ⟨hk, rfl, hW1, hh1⟩
    have hk : t_replace C a0 a1 a2 = 0 := hk
    have LT1 : z_LX x (k_replace C a0 a1 a2) M n w1 := LT.cls (by unfold k_replace; rw [if_pos hk]; exact hW1) (okk_replace _ _ _ LT.1.2) hh1
    refine j_i2l dL_replace_9 ?_
    obtain ⟨-, -, ⟨ov24, og24⟩, -⟩ := id LT1
    refine j_put (w' := _) dL_replace_10 fL_13 tX9_0 og24 ⟨rfl, rfl⟩ rfl ?_
    refine j_seal (n := x) LT1.x1 ?_
    intro w2 u2
    have LT2 := LT1.out u2
    refine j_goto (tgt := 24) dL_replace_13 (by decide) ?_
    refine j_iconst (v := 0) dL_replace_24 (by decide) ?_
    refine j_iret dL_replace_25 rfl rfl ?_ (Nat.le_of_ble_eq_true rfl) (Nat.le_of_ble_eq_true rfl)
    exact ⟨_, by rw [hk], LT2, fun _ => rfl⟩
set_option maxRecDepth 100000 in
set_option maxHeartbeats 4000000 in
theorem lw_replaceIf (hl : l.stackTraces = false) (w : z_W) (x : Nat) (C M : sp_S) (n : Int64) (LT : z_LX x C M n w) (a0 : Int32) (a1 : Int32) (a2 : Int32) (a3 : Int32) : z_Con G l mL_replaceIf 27 14 120 w [.ref 0, .int a0, .int a1, .int a2, .int a3, .ref x] (fun v w9 => ∃ n9 : Int64, v = some (.int (t_replaceIf C a0 a1 a2 a3)) ∧ z_LX x (k_replaceIf C a0 a1 a2 a3) M n9 w9 ∧ (t_replaceIf C a0 a1 a2 a3 = 0 → n9 = (a_replaceIf C a0 a1 a2 a3).toInt64)) (fun _ _ => False) := by
  refine z_bodyW hl (by decide) (by decide) (Nat.le_of_ble_eq_true rfl) ?_
  show z_J G l mL_replaceIf _ 0 [(0, _), (1, _), (2, _), (3, _), (4, _), (5, _)] [] _ 0 0
  refine j_aload dL_replaceIf_0 rfl rfl ?_
  refine j_aload_n dL_replaceIf_2 rfl rfl ?_
  refine j_iload_n dL_replaceIf_3 rfl ?_
  refine j_iload_n dL_replaceIf_4 rfl ?_
  refine j_iload_n dL_replaceIf_5 rfl ?_
  refine j_iload dL_replaceIf_6 rfl ?_
  obtain ⟨fs25, gs25⟩ := LT.rc
  refine j_tryV (q := (RX8, TX8, 9)) dL_replaceIf_8 kX8_replaceIf lL_61 inX8_replaceIf seX8_replaceIf gs25 rfl (px_replaceIf hl w C LT.1.1 LT.1.2 a0 a1 a2 a3) (Nat.le_of_ble_eq_true rfl) ⟨(Nat.le_of_ble_eq_true rfl), (Nat.le_of_ble_eq_true rfl)⟩ rfl (Nat.le_of_ble_eq_true rfl) rfl ?_ ?_
  · rintro E _ ⟨hE, rfl⟩
    rcases hE with hE | hE
    · obtain ⟨hE, hk⟩ := hE
      have hk : t_replaceIf C a0 a1 a2 a3 = 1 := hk
      have hE : E = "java/lang/IndexOutOfBoundsException" := hE
      subst hE
      refine ⟨25, 27, ⟨[], (⟨0, 22, 25, 19⟩ : ExceptionTableEntry), _, "java/lang/IndexOutOfBoundsException", rfl, (fun z hz => by cases hz), by decide, by decide, (z_w 847 ((lwg_4 82).trans rfl) (by decide +kernel)), (z_wn 860 ((lwg_4 95).trans rfl) (by decide +kernel)), rfl⟩, Or.inl ⟨6, dL_replaceIf_25, by decide, rfl⟩, ?_⟩
      refine j_iconst (v := 1) dL_replaceIf_27 (by decide) ?_
      refine j_iret dL_replaceIf_28 rfl rfl ?_ (Nat.le_of_ble_eq_true rfl) (Nat.le_of_ble_eq_true rfl)
      exact ⟨_, by rw [hk], by unfold k_replaceIf; rw [if_neg (by rw [hk]; decide)]; exact LT, fun z => absurd (hk.symm.trans z) (by decide)⟩
    · obtain ⟨hE, hk⟩ := hE
      have hk : t_replaceIf C a0 a1 a2 a3 = 2 := hk
      have hE : E = "java/lang/IllegalArgumentException" := hE
      subst hE
      refine ⟨29, 31, ⟨[(⟨0, 22, 25, 19⟩ : ExceptionTableEntry)], (⟨0, 22, 29, 21⟩ : ExceptionTableEntry), _, "java/lang/IllegalArgumentException", rfl, (fun z hz => by
          simp only [List.mem_cons, List.not_mem_nil, or_false] at hz
          rcases hz with rfl
          · exact Or.inr ⟨by decide, "java/lang/IndexOutOfBoundsException", (z_w 847 ((lwg_4 82).trans rfl) (by decide +kernel)), by decide⟩), by decide, by decide, (z_w 848 ((lwg_4 83).trans rfl) (by decide +kernel)), (z_wn 460 ((lwg_2 175).trans rfl) (by decide +kernel)), rfl⟩, Or.inl ⟨6, dL_replaceIf_29, by decide, rfl⟩, ?_⟩
      refine j_iconst (v := 2) dL_replaceIf_31 (by decide) ?_
      refine j_iret dL_replaceIf_32 rfl rfl ?_ (Nat.le_of_ble_eq_true rfl) (Nat.le_of_ble_eq_true rfl)
      exact ⟨_, by rw [hk], by unfold k_replaceIf; rw [if_neg (by rw [hk]; decide)]; exact LT, fun z => absurd (hk.symm.trans z) (by decide)⟩
  · rintro _ w1 ⟨hk, rfl, hW1, hh1⟩
    have hk : t_replaceIf C a0 a1 a2 a3 = 0 := hk
    have LT1 : z_LX x (k_replaceIf C a0 a1 a2 a3) M n w1 := LT.cls (by unfold k_replaceIf; rw [if_pos hk]; exact hW1) (okk_replaceIf _ _ _ _ LT.1.2) hh1
    refine j_if_eq (tgt := 18) dL_replaceIf_11 (by decide) (fun c_11_31 => ?_) (fun c_11_31 => ?_)
    · refine j_lconst (v := 0) dL_replaceIf_18 (by decide) ?_
      obtain ⟨-, -, ⟨ov26, og26⟩, -⟩ := id LT1
      refine j_put (w' := _) dL_replaceIf_19 fL_13 tX9_0 og26 ⟨rfl, rfl⟩ rfl ?_
      refine j_seal (n := x) LT1.x1 ?_
      intro w2 u2
      have LT2 := LT1.out u2
      refine j_goto (tgt := 33) dL_replaceIf_22 (by decide) ?_
      refine j_iconst (v := 0) dL_replaceIf_33 (by decide) ?_
      refine j_iret dL_replaceIf_34 rfl rfl ?_ (Nat.le_of_ble_eq_true rfl) (Nat.le_of_ble_eq_true rfl)
      first | exact ⟨_, by rw [hk], LT2, fun _ => by rw [show a_replaceIf _ a0 a1 a2 a3 = 0 from c_11_31]; rfl⟩ | exact ⟨_, by rw [hk], LT2, fun _ => by rw [show a_replaceIf _ a0 a1 a2 a3 = 1 from sp_rif01.resolve_left c_11_31]; rfl⟩
    · refine j_lconst (v := 1) dL_replaceIf_14 (by decide) ?_
      refine j_goto (tgt := 19) dL_replaceIf_15 (by decide) ?_
      obtain ⟨-, -, ⟨ov27, og27⟩, -⟩ := id LT1
      refine j_put (w' := _) dL_replaceIf_19 fL_13 tX9_0 og27 ⟨rfl, rfl⟩ rfl ?_
      refine j_seal (n := x) LT1.x1 ?_
      intro w3 u3
      have LT3 := LT1.out u3
      refine j_goto (tgt := 33) dL_replaceIf_22 (by decide) ?_
      refine j_iconst (v := 0) dL_replaceIf_33 (by decide) ?_
      refine j_iret dL_replaceIf_34 rfl rfl ?_ (Nat.le_of_ble_eq_true rfl) (Nat.le_of_ble_eq_true rfl)
      first | exact ⟨_, by rw [hk], LT3, fun _ => by rw [show a_replaceIf _ a0 a1 a2 a3 = 0 from c_11_31]; rfl⟩ | exact ⟨_, by rw [hk], LT3, fun _ => by rw [show a_replaceIf _ a0 a1 a2 a3 = 1 from sp_rif01.resolve_left c_11_31]; rfl⟩
set_option maxRecDepth 100000 in
set_option maxHeartbeats 4000000 in
theorem lw_removePair (hl : l.stackTraces = false) (w : z_W) (x : Nat) (C M : sp_S) (n : Int64) (LT : z_LX x C M n w) (a0 : Int32) (a1 : Int32) (a2 : Int32) : z_Con G l mL_removePair 27 14 120 w [.ref 0, .int a0, .int a1, .int a2, .ref x] (fun v w9 => ∃ n9 : Int64, v = some (.int (t_removePair C a0 a1 a2)) ∧ z_LX x (k_removePair C a0 a1 a2) M n9 w9 ∧ (t_removePair C a0 a1 a2 = 0 → n9 = (a_removePair C a0 a1 a2).toInt64)) (fun _ _ => False) := by
  refine z_bodyW hl (by decide) (by decide) (Nat.le_of_ble_eq_true rfl) ?_
  show z_J G l mL_removePair _ 0 [(0, _), (1, _), (2, _), (3, _), (4, _)] [] _ 0 0
  refine j_aload dL_removePair_0 rfl rfl ?_
  refine j_aload_n dL_removePair_2 rfl rfl ?_
  refine j_iload_n dL_removePair_3 rfl ?_
  refine j_iload_n dL_removePair_4 rfl ?_
  refine j_iload_n dL_removePair_5 rfl ?_
  obtain ⟨fs28, gs28⟩ := LT.rc
  refine j_tryV (q := (RX8, TX8, 9)) dL_removePair_6 kX8_removePair lL_65 inX8_removePair seX8_removePair gs28 rfl (px_removePair hl w C LT.1.1 LT.1.2 a0 a1 a2) (Nat.le_of_ble_eq_true rfl) ⟨(Nat.le_of_ble_eq_true rfl), (Nat.le_of_ble_eq_true rfl)⟩ rfl (Nat.le_of_ble_eq_true rfl) rfl ?_ ?_
  · rintro E _ ⟨hE, rfl⟩
    rcases hE with hE | hE
    · obtain ⟨hE, hk⟩ := hE
      have hk : t_removePair C a0 a1 a2 = 1 := hk
      have hE : E = "java/lang/IndexOutOfBoundsException" := hE
      subst hE
      refine ⟨23, 25, ⟨[], (⟨0, 20, 23, 19⟩ : ExceptionTableEntry), _, "java/lang/IndexOutOfBoundsException", rfl, (fun z hz => by cases hz), by decide, by decide, (z_w 847 ((lwg_4 82).trans rfl) (by decide +kernel)), (z_wn 860 ((lwg_4 95).trans rfl) (by decide +kernel)), rfl⟩, Or.inl ⟨5, dL_removePair_23, by decide, rfl⟩, ?_⟩
      refine j_iconst (v := 1) dL_removePair_25 (by decide) ?_
      refine j_iret dL_removePair_26 rfl rfl ?_ (Nat.le_of_ble_eq_true rfl) (Nat.le_of_ble_eq_true rfl)
      exact ⟨_, by rw [hk], by unfold k_removePair; rw [if_neg (by rw [hk]; decide)]; exact LT, fun z => absurd (hk.symm.trans z) (by decide)⟩
    · obtain ⟨hE, hk⟩ := hE
      have hk : t_removePair C a0 a1 a2 = 2 := hk
      have hE : E = "java/lang/IllegalArgumentException" := hE
      subst hE
      refine ⟨27, 29, ⟨[(⟨0, 20, 23, 19⟩ : ExceptionTableEntry)], (⟨0, 20, 27, 21⟩ : ExceptionTableEntry), _, "java/lang/IllegalArgumentException", rfl, (fun z hz => by
          simp only [List.mem_cons, List.not_mem_nil, or_false] at hz
          rcases hz with rfl
          · exact Or.inr ⟨by decide, "java/lang/IndexOutOfBoundsException", (z_w 847 ((lwg_4 82).trans rfl) (by decide +kernel)), by decide⟩), by decide, by decide, (z_w 848 ((lwg_4 83).trans rfl) (by decide +kernel)), (z_wn 460 ((lwg_2 175).trans rfl) (by decide +kernel)), rfl⟩, Or.inl ⟨5, dL_removePair_27, by decide, rfl⟩, ?_⟩
      refine j_iconst (v := 2) dL_removePair_29 (by decide) ?_
      refine j_iret dL_removePair_30 rfl rfl ?_ (Nat.le_of_ble_eq_true rfl) (Nat.le_of_ble_eq_true rfl)
      exact ⟨_, by rw [hk], by unfold k_removePair; rw [if_neg (by rw [hk]; decide)]; exact LT, fun z => absurd (hk.symm.trans z) (by decide)⟩
  · rintro _ w1 ⟨hk, rfl, hW1, hh1⟩
    have hk : t_removePair C a0 a1 a2 = 0 := hk
    have LT1 : z_LX x (k_removePair C a0 a1 a2) M n w1 := LT.cls (by unfold k_removePair; rw [if_pos hk]; exact hW1) (okk_removePair _ _ _ LT.1.2) hh1
    refine j_if_eq (tgt := 16) dL_removePair_9 (by decide) (fun c_9_30 => ?_) (fun c_9_30 => ?_)
    · refine j_lconst (v := 0) dL_removePair_16 (by decide) ?_
      obtain ⟨-, -, ⟨ov29, og29⟩, -⟩ := id LT1
      refine j_put (w' := _) dL_removePair_17 fL_13 tX9_0 og29 ⟨rfl, rfl⟩ rfl ?_
      refine j_seal (n := x) LT1.x1 ?_
      intro w2 u2
      have LT2 := LT1.out u2
      refine j_goto (tgt := 31) dL_removePair_20 (by decide) ?_
      refine j_iconst (v := 0) dL_removePair_31 (by decide) ?_
      refine j_iret dL_removePair_32 rfl rfl ?_ (Nat.le_of_ble_eq_true rfl) (Nat.le_of_ble_eq_true rfl)
      first | exact ⟨_, by rw [hk], LT2, fun _ => by rw [show a_removePair _ a0 a1 a2 = 0 from c_9_30]; rfl⟩ | exact ⟨_, by rw [hk], LT2, fun _ => by rw [show a_removePair _ a0 a1 a2 = 1 from sp_rmp01.resolve_left c_9_30]; rfl⟩
    · refine j_lconst (v := 1) dL_removePair_12 (by decide) ?_
      refine j_goto (tgt := 17) dL_removePair_13 (by decide) ?_
      obtain ⟨-, -, ⟨ov30, og30⟩, -⟩ := id LT1
      refine j_put (w' := _) dL_removePair_17 fL_13 tX9_0 og30 ⟨rfl, rfl⟩ rfl ?_
      refine j_seal (n := x) LT1.x1 ?_
      intro w3 u3
      have LT3 := LT1.out u3
      refine j_goto (tgt := 31) dL_removePair_20 (by decide) ?_
      refine j_iconst (v := 0) dL_removePair_31 (by decide) ?_
      refine j_iret dL_removePair_32 rfl rfl ?_ (Nat.le_of_ble_eq_true rfl) (Nat.le_of_ble_eq_true rfl)
      first | exact ⟨_, by rw [hk], LT3, fun _ => by rw [show a_removePair _ a0 a1 a2 = 0 from c_9_30]; rfl⟩ | exact ⟨_, by rw [hk], LT3, fun _ => by rw [show a_removePair _ a0 a1 a2 = 1 from sp_rmp01.resolve_left c_9_30]; rfl⟩
set_option maxRecDepth 100000 in
set_option maxHeartbeats 4000000 in
theorem lw_computeIfAbsent (hl : l.stackTraces = false) (w : z_W) (x : Nat) (C M : sp_S) (n : Int64) (LT : z_LX x C M n w) (a0 : Int32) (a1 : Int32) (a2 : Int32) (a3 : Int32) : z_Con G l mL_computeIfAbsent 27 14 120 w [.ref 0, .int a0, .int a1, .int a2, .int a3, .ref x] (fun v w9 => ∃ n9 : Int64, v = some (.int (t_computeIfAbsent C a0 a1 a2 a3)) ∧ z_LX x (k_computeIfAbsent C a0 a1 a2 a3) M n9 w9 ∧ (t_computeIfAbsent C a0 a1 a2 a3 = 0 → n9 = (a_computeIfAbsent C a0 a1 a2 a3).toInt64)) (fun _ _ => False) := by
  refine z_bodyW hl (by decide) (by decide) (Nat.le_of_ble_eq_true rfl) ?_
  show z_J G l mL_computeIfAbsent _ 0 [(0, _), (1, _), (2, _), (3, _), (4, _), (5, _)] [] _ 0 0
  refine j_aload dL_computeIfAbsent_0 rfl rfl ?_
  refine j_aload_n dL_computeIfAbsent_2 rfl rfl ?_
  refine j_iload_n dL_computeIfAbsent_3 rfl ?_
  refine j_iload_n dL_computeIfAbsent_4 rfl ?_
  refine j_iload_n dL_computeIfAbsent_5 rfl ?_
  refine j_iload dL_computeIfAbsent_6 rfl ?_
  obtain ⟨fs31, gs31⟩ := LT.rc
  refine j_tryV (q := (RX8, TX8, 9)) dL_computeIfAbsent_8 kX8_computeIfAbsent lL_69 inX8_computeIfAbsent seX8_computeIfAbsent gs31 rfl (px_computeIfAbsent hl w C LT.1.1 LT.1.2 a0 a1 a2 a3) (Nat.le_of_ble_eq_true rfl) ⟨(Nat.le_of_ble_eq_true rfl), (Nat.le_of_ble_eq_true rfl)⟩ rfl (Nat.le_of_ble_eq_true rfl) rfl ?_ ?_
  · rintro E _ ⟨hE, rfl⟩
    rcases hE with hE | hE
    · obtain ⟨hE, hk⟩ := hE
      have hk : t_computeIfAbsent C a0 a1 a2 a3 = 1 := hk
      have hE : E = "java/lang/IndexOutOfBoundsException" := hE
      subst hE
      refine ⟨18, 20, ⟨[], (⟨0, 15, 18, 19⟩ : ExceptionTableEntry), _, "java/lang/IndexOutOfBoundsException", rfl, (fun z hz => by cases hz), by decide, by decide, (z_w 847 ((lwg_4 82).trans rfl) (by decide +kernel)), (z_wn 860 ((lwg_4 95).trans rfl) (by decide +kernel)), rfl⟩, Or.inl ⟨6, dL_computeIfAbsent_18, by decide, rfl⟩, ?_⟩
      refine j_iconst (v := 1) dL_computeIfAbsent_20 (by decide) ?_
      refine j_iret dL_computeIfAbsent_21 rfl rfl ?_ (Nat.le_of_ble_eq_true rfl) (Nat.le_of_ble_eq_true rfl)
      exact ⟨_, by rw [hk], by unfold k_computeIfAbsent; rw [if_neg (by rw [hk]; decide)]; exact LT, fun z => absurd (hk.symm.trans z) (by decide)⟩
    · obtain ⟨hE, hk⟩ := hE
      have hk : t_computeIfAbsent C a0 a1 a2 a3 = 2 := hk
      have hE : E = "java/lang/IllegalArgumentException" := hE
      subst hE
      refine ⟨22, 24, ⟨[(⟨0, 15, 18, 19⟩ : ExceptionTableEntry)], (⟨0, 15, 22, 21⟩ : ExceptionTableEntry), _, "java/lang/IllegalArgumentException", rfl, (fun z hz => by
          simp only [List.mem_cons, List.not_mem_nil, or_false] at hz
          rcases hz with rfl
          · exact Or.inr ⟨by decide, "java/lang/IndexOutOfBoundsException", (z_w 847 ((lwg_4 82).trans rfl) (by decide +kernel)), by decide⟩), by decide, by decide, (z_w 848 ((lwg_4 83).trans rfl) (by decide +kernel)), (z_wn 460 ((lwg_2 175).trans rfl) (by decide +kernel)), rfl⟩, Or.inl ⟨6, dL_computeIfAbsent_22, by decide, rfl⟩, ?_⟩
      refine j_iconst (v := 2) dL_computeIfAbsent_24 (by decide) ?_
      refine j_iret dL_computeIfAbsent_25 rfl rfl ?_ (Nat.le_of_ble_eq_true rfl) (Nat.le_of_ble_eq_true rfl)
      exact ⟨_, by rw [hk], by unfold k_computeIfAbsent; rw [if_neg (by rw [hk]; decide)]; exact LT, fun z => absurd (hk.symm.trans z) (by decide)⟩
  · rintro _ w1 ⟨hk, rfl, hW1, hh1⟩
    have hk : t_computeIfAbsent C a0 a1 a2 a3 = 0 := hk
    have LT1 : z_LX x (k_computeIfAbsent C a0 a1 a2 a3) M n w1 := LT.cls (by unfold k_computeIfAbsent; rw [if_pos hk]; exact hW1) (okk_computeIfAbsent _ _ _ _ LT.1.2) hh1
    refine j_i2l dL_computeIfAbsent_11 ?_
    obtain ⟨-, -, ⟨ov32, og32⟩, -⟩ := id LT1
    refine j_put (w' := _) dL_computeIfAbsent_12 fL_13 tX9_0 og32 ⟨rfl, rfl⟩ rfl ?_
    refine j_seal (n := x) LT1.x1 ?_
    intro w2 u2
    have LT2 := LT1.out u2
    refine j_goto (tgt := 26) dL_computeIfAbsent_15 (by decide) ?_
    refine j_iconst (v := 0) dL_computeIfAbsent_26 (by decide) ?_
    refine j_iret dL_computeIfAbsent_27 rfl rfl ?_ (Nat.le_of_ble_eq_true rfl) (Nat.le_of_ble_eq_true rfl)
    exact ⟨_, by rw [hk], LT2, fun _ => rfl⟩
set_option maxRecDepth 100000 in
set_option maxHeartbeats 4000000 in
theorem lw_computeIfPresent (hl : l.stackTraces = false) (w : z_W) (x : Nat) (C M : sp_S) (n : Int64) (LT : z_LX x C M n w) (a0 : Int32) (a1 : Int32) (a2 : Int32) (a3 : Int32) : z_Con G l mL_computeIfPresent 27 14 120 w [.ref 0, .int a0, .int a1, .int a2, .int a3, .ref x] (fun v w9 => ∃ n9 : Int64, v = some (.int (t_computeIfPresent C a0 a1 a2 a3)) ∧ z_LX x (k_computeIfPresent C a0 a1 a2 a3) M n9 w9 ∧ (t_computeIfPresent C a0 a1 a2 a3 = 0 → n9 = (a_computeIfPresent C a0 a1 a2 a3).toInt64)) (fun _ _ => False) := by
  refine z_bodyW hl (by decide) (by decide) (Nat.le_of_ble_eq_true rfl) ?_
  show z_J G l mL_computeIfPresent _ 0 [(0, _), (1, _), (2, _), (3, _), (4, _), (5, _)] [] _ 0 0
  refine j_aload dL_computeIfPresent_0 rfl rfl ?_
  refine j_aload_n dL_computeIfPresent_2 rfl rfl ?_
  refine j_iload_n dL_computeIfPresent_3 rfl ?_
  refine j_iload_n dL_computeIfPresent_4 rfl ?_
  refine j_iload_n dL_computeIfPresent_5 rfl ?_
  refine j_iload dL_computeIfPresent_6 rfl ?_
  obtain ⟨fs33, gs33⟩ := LT.rc
  refine j_tryV (q := (RX8, TX8, 9)) dL_computeIfPresent_8 kX8_computeIfPresent lL_73 inX8_computeIfPresent seX8_computeIfPresent gs33 rfl (px_computeIfPresent hl w C LT.1.1 LT.1.2 a0 a1 a2 a3) (Nat.le_of_ble_eq_true rfl) ⟨(Nat.le_of_ble_eq_true rfl), (Nat.le_of_ble_eq_true rfl)⟩ rfl (Nat.le_of_ble_eq_true rfl) rfl ?_ ?_
  · rintro E _ ⟨hE, rfl⟩
    rcases hE with hE | hE
    · obtain ⟨hE, hk⟩ := hE
      have hk : t_computeIfPresent C a0 a1 a2 a3 = 1 := hk
      have hE : E = "java/lang/IndexOutOfBoundsException" := hE
      subst hE
      refine ⟨18, 20, ⟨[], (⟨0, 15, 18, 19⟩ : ExceptionTableEntry), _, "java/lang/IndexOutOfBoundsException", rfl, (fun z hz => by cases hz), by decide, by decide, (z_w 847 ((lwg_4 82).trans rfl) (by decide +kernel)), (z_wn 860 ((lwg_4 95).trans rfl) (by decide +kernel)), rfl⟩, Or.inl ⟨6, dL_computeIfPresent_18, by decide, rfl⟩, ?_⟩
      refine j_iconst (v := 1) dL_computeIfPresent_20 (by decide) ?_
      refine j_iret dL_computeIfPresent_21 rfl rfl ?_ (Nat.le_of_ble_eq_true rfl) (Nat.le_of_ble_eq_true rfl)
      exact ⟨_, by rw [hk], by unfold k_computeIfPresent; rw [if_neg (by rw [hk]; decide)]; exact LT, fun z => absurd (hk.symm.trans z) (by decide)⟩
    · obtain ⟨hE, hk⟩ := hE
      have hk : t_computeIfPresent C a0 a1 a2 a3 = 2 := hk
      have hE : E = "java/lang/IllegalArgumentException" := hE
      subst hE
      refine ⟨22, 24, ⟨[(⟨0, 15, 18, 19⟩ : ExceptionTableEntry)], (⟨0, 15, 22, 21⟩ : ExceptionTableEntry), _, "java/lang/IllegalArgumentException", rfl, (fun z hz => by
          simp only [List.mem_cons, List.not_mem_nil, or_false] at hz
          rcases hz with rfl
          · exact Or.inr ⟨by decide, "java/lang/IndexOutOfBoundsException", (z_w 847 ((lwg_4 82).trans rfl) (by decide +kernel)), by decide⟩), by decide, by decide, (z_w 848 ((lwg_4 83).trans rfl) (by decide +kernel)), (z_wn 460 ((lwg_2 175).trans rfl) (by decide +kernel)), rfl⟩, Or.inl ⟨6, dL_computeIfPresent_22, by decide, rfl⟩, ?_⟩
      refine j_iconst (v := 2) dL_computeIfPresent_24 (by decide) ?_
      refine j_iret dL_computeIfPresent_25 rfl rfl ?_ (Nat.le_of_ble_eq_true rfl) (Nat.le_of_ble_eq_true rfl)
      exact ⟨_, by rw [hk], by unfold k_computeIfPresent; rw [if_neg (by rw [hk]; decide)]; exact LT, fun z => absurd (hk.symm.trans z) (by decide)⟩
  · rintro _ w1 ⟨hk, rfl, hW1, hh1⟩
    have hk : t_computeIfPresent C a0 a1 a2 a3 = 0 := hk
    have LT1 : z_LX x (k_computeIfPresent C a0 a1 a2 a3) M n w1 := LT.cls (by unfold k_computeIfPresent; rw [if_pos hk]; exact hW1) (okk_computeIfPresent _ _ _ _ LT.1.2) hh1
    refine j_i2l dL_computeIfPresent_11 ?_
    obtain ⟨-, -, ⟨ov34, og34⟩, -⟩ := id LT1
    refine j_put (w' := _) dL_computeIfPresent_12 fL_13 tX9_0 og34 ⟨rfl, rfl⟩ rfl ?_
    refine j_seal (n := x) LT1.x1 ?_
    intro w2 u2
    have LT2 := LT1.out u2
    refine j_goto (tgt := 26) dL_computeIfPresent_15 (by decide) ?_
    refine j_iconst (v := 0) dL_computeIfPresent_26 (by decide) ?_
    refine j_iret dL_computeIfPresent_27 rfl rfl ?_ (Nat.le_of_ble_eq_true rfl) (Nat.le_of_ble_eq_true rfl)
    exact ⟨_, by rw [hk], LT2, fun _ => rfl⟩
set_option maxRecDepth 100000 in
set_option maxHeartbeats 4000000 in
theorem lw_compute (hl : l.stackTraces = false) (w : z_W) (x : Nat) (C M : sp_S) (n : Int64) (LT : z_LX x C M n w) (a0 : Int32) (a1 : Int32) (a2 : Int32) (a3 : Int32) : z_Con G l mL_compute 27 14 120 w [.ref 0, .int a0, .int a1, .int a2, .int a3, .ref x] (fun v w9 => ∃ n9 : Int64, v = some (.int (t_compute C a0 a1 a2 a3)) ∧ z_LX x (k_compute C a0 a1 a2 a3) M n9 w9 ∧ (t_compute C a0 a1 a2 a3 = 0 → n9 = (a_compute C a0 a1 a2 a3).toInt64)) (fun _ _ => False) := by
  refine z_bodyW hl (by decide) (by decide) (Nat.le_of_ble_eq_true rfl) ?_
  show z_J G l mL_compute _ 0 [(0, _), (1, _), (2, _), (3, _), (4, _), (5, _)] [] _ 0 0
  refine j_aload dL_compute_0 rfl rfl ?_
  refine j_aload_n dL_compute_2 rfl rfl ?_
  refine j_iload_n dL_compute_3 rfl ?_
  refine j_iload_n dL_compute_4 rfl ?_
  refine j_iload_n dL_compute_5 rfl ?_
  refine j_iload dL_compute_6 rfl ?_
  obtain ⟨fs35, gs35⟩ := LT.rc
  refine j_tryV (q := (RX8, TX8, 9)) dL_compute_8 kX8_compute lL_76 inX8_compute seX8_compute gs35 rfl (px_compute hl w C LT.1.1 LT.1.2 a0 a1 a2 a3) (Nat.le_of_ble_eq_true rfl) ⟨(Nat.le_of_ble_eq_true rfl), (Nat.le_of_ble_eq_true rfl)⟩ rfl (Nat.le_of_ble_eq_true rfl) rfl ?_ ?_
  · rintro E _ ⟨hE, rfl⟩
    rcases hE with hE | hE
    · obtain ⟨hE, hk⟩ := hE
      have hk : t_compute C a0 a1 a2 a3 = 1 := hk
      have hE : E = "java/lang/IndexOutOfBoundsException" := hE
      subst hE
      refine ⟨18, 20, ⟨[], (⟨0, 15, 18, 19⟩ : ExceptionTableEntry), _, "java/lang/IndexOutOfBoundsException", rfl, (fun z hz => by cases hz), by decide, by decide, (z_w 847 ((lwg_4 82).trans rfl) (by decide +kernel)), (z_wn 860 ((lwg_4 95).trans rfl) (by decide +kernel)), rfl⟩, Or.inl ⟨6, dL_compute_18, by decide, rfl⟩, ?_⟩
      refine j_iconst (v := 1) dL_compute_20 (by decide) ?_
      refine j_iret dL_compute_21 rfl rfl ?_ (Nat.le_of_ble_eq_true rfl) (Nat.le_of_ble_eq_true rfl)
      exact ⟨_, by rw [hk], by unfold k_compute; rw [if_neg (by rw [hk]; decide)]; exact LT, fun z => absurd (hk.symm.trans z) (by decide)⟩
    · obtain ⟨hE, hk⟩ := hE
      have hk : t_compute C a0 a1 a2 a3 = 2 := hk
      have hE : E = "java/lang/IllegalArgumentException" := hE
      subst hE
      refine ⟨22, 24, ⟨[(⟨0, 15, 18, 19⟩ : ExceptionTableEntry)], (⟨0, 15, 22, 21⟩ : ExceptionTableEntry), _, "java/lang/IllegalArgumentException", rfl, (fun z hz => by
          simp only [List.mem_cons, List.not_mem_nil, or_false] at hz
          rcases hz with rfl
          · exact Or.inr ⟨by decide, "java/lang/IndexOutOfBoundsException", (z_w 847 ((lwg_4 82).trans rfl) (by decide +kernel)), by decide⟩), by decide, by decide, (z_w 848 ((lwg_4 83).trans rfl) (by decide +kernel)), (z_wn 460 ((lwg_2 175).trans rfl) (by decide +kernel)), rfl⟩, Or.inl ⟨6, dL_compute_22, by decide, rfl⟩, ?_⟩
      refine j_iconst (v := 2) dL_compute_24 (by decide) ?_
      refine j_iret dL_compute_25 rfl rfl ?_ (Nat.le_of_ble_eq_true rfl) (Nat.le_of_ble_eq_true rfl)
      exact ⟨_, by rw [hk], by unfold k_compute; rw [if_neg (by rw [hk]; decide)]; exact LT, fun z => absurd (hk.symm.trans z) (by decide)⟩
  · rintro _ w1 ⟨hk, rfl, hW1, hh1⟩
    have hk : t_compute C a0 a1 a2 a3 = 0 := hk
    have LT1 : z_LX x (k_compute C a0 a1 a2 a3) M n w1 := LT.cls (by unfold k_compute; rw [if_pos hk]; exact hW1) (okk_compute _ _ _ _ LT.1.2) hh1
    refine j_i2l dL_compute_11 ?_
    obtain ⟨-, -, ⟨ov36, og36⟩, -⟩ := id LT1
    refine j_put (w' := _) dL_compute_12 fL_13 tX9_0 og36 ⟨rfl, rfl⟩ rfl ?_
    refine j_seal (n := x) LT1.x1 ?_
    intro w2 u2
    have LT2 := LT1.out u2
    refine j_goto (tgt := 26) dL_compute_15 (by decide) ?_
    refine j_iconst (v := 0) dL_compute_26 (by decide) ?_
    refine j_iret dL_compute_27 rfl rfl ?_ (Nat.le_of_ble_eq_true rfl) (Nat.le_of_ble_eq_true rfl)
    exact ⟨_, by rw [hk], LT2, fun _ => rfl⟩
set_option maxRecDepth 100000 in
set_option maxHeartbeats 4000000 in
theorem lw_merge (hl : l.stackTraces = false) (w : z_W) (x : Nat) (C M : sp_S) (n : Int64) (LT : z_LX x C M n w) (a0 : Int32) (a1 : Int32) (a2 : Int32) (a3 : Int32) : z_Con G l mL_merge 27 14 120 w [.ref 0, .int a0, .int a1, .int a2, .int a3, .ref x] (fun v w9 => ∃ n9 : Int64, v = some (.int (t_merge C a0 a1 a2 a3)) ∧ z_LX x (k_merge C a0 a1 a2 a3) M n9 w9 ∧ (t_merge C a0 a1 a2 a3 = 0 → n9 = (a_merge C a0 a1 a2 a3).toInt64)) (fun _ _ => False) := by
  refine z_bodyW hl (by decide) (by decide) (Nat.le_of_ble_eq_true rfl) ?_
  show z_J G l mL_merge _ 0 [(0, _), (1, _), (2, _), (3, _), (4, _), (5, _)] [] _ 0 0
  refine j_aload dL_merge_0 rfl rfl ?_
  refine j_aload_n dL_merge_2 rfl rfl ?_
  refine j_iload_n dL_merge_3 rfl ?_
  refine j_iload_n dL_merge_4 rfl ?_
  refine j_iload_n dL_merge_5 rfl ?_
  refine j_iload dL_merge_6 rfl ?_
  obtain ⟨fs37, gs37⟩ := LT.rc
  refine j_tryV (q := (RX8, TX8, 9)) dL_merge_8 kX8_merge lL_79 inX8_merge seX8_merge gs37 rfl (px_merge hl w C LT.1.1 LT.1.2 a0 a1 a2 a3) (Nat.le_of_ble_eq_true rfl) ⟨(Nat.le_of_ble_eq_true rfl), (Nat.le_of_ble_eq_true rfl)⟩ rfl (Nat.le_of_ble_eq_true rfl) rfl ?_ ?_
  · rintro E _ ⟨hE, rfl⟩
    rcases hE with hE | hE
    · obtain ⟨hE, hk⟩ := hE
      have hk : t_merge C a0 a1 a2 a3 = 1 := hk
      have hE : E = "java/lang/IndexOutOfBoundsException" := hE
      subst hE
      refine ⟨18, 20, ⟨[], (⟨0, 15, 18, 19⟩ : ExceptionTableEntry), _, "java/lang/IndexOutOfBoundsException", rfl, (fun z hz => by cases hz), by decide, by decide, (z_w 847 ((lwg_4 82).trans rfl) (by decide +kernel)), (z_wn 860 ((lwg_4 95).trans rfl) (by decide +kernel)), rfl⟩, Or.inl ⟨6, dL_merge_18, by decide, rfl⟩, ?_⟩
      refine j_iconst (v := 1) dL_merge_20 (by decide) ?_
      refine j_iret dL_merge_21 rfl rfl ?_ (Nat.le_of_ble_eq_true rfl) (Nat.le_of_ble_eq_true rfl)
      exact ⟨_, by rw [hk], by unfold k_merge; rw [if_neg (by rw [hk]; decide)]; exact LT, fun z => absurd (hk.symm.trans z) (by decide)⟩
    · obtain ⟨hE, hk⟩ := hE
      have hk : t_merge C a0 a1 a2 a3 = 2 := hk
      have hE : E = "java/lang/IllegalArgumentException" := hE
      subst hE
      refine ⟨22, 24, ⟨[(⟨0, 15, 18, 19⟩ : ExceptionTableEntry)], (⟨0, 15, 22, 21⟩ : ExceptionTableEntry), _, "java/lang/IllegalArgumentException", rfl, (fun z hz => by
          simp only [List.mem_cons, List.not_mem_nil, or_false] at hz
          rcases hz with rfl
          · exact Or.inr ⟨by decide, "java/lang/IndexOutOfBoundsException", (z_w 847 ((lwg_4 82).trans rfl) (by decide +kernel)), by decide⟩), by decide, by decide, (z_w 848 ((lwg_4 83).trans rfl) (by decide +kernel)), (z_wn 460 ((lwg_2 175).trans rfl) (by decide +kernel)), rfl⟩, Or.inl ⟨6, dL_merge_22, by decide, rfl⟩, ?_⟩
      refine j_iconst (v := 2) dL_merge_24 (by decide) ?_
      refine j_iret dL_merge_25 rfl rfl ?_ (Nat.le_of_ble_eq_true rfl) (Nat.le_of_ble_eq_true rfl)
      exact ⟨_, by rw [hk], by unfold k_merge; rw [if_neg (by rw [hk]; decide)]; exact LT, fun z => absurd (hk.symm.trans z) (by decide)⟩
  · rintro _ w1 ⟨hk, rfl, hW1, hh1⟩
    have hk : t_merge C a0 a1 a2 a3 = 0 := hk
    have LT1 : z_LX x (k_merge C a0 a1 a2 a3) M n w1 := LT.cls (by unfold k_merge; rw [if_pos hk]; exact hW1) (okk_merge _ _ _ _ LT.1.2) hh1
    refine j_i2l dL_merge_11 ?_
    obtain ⟨-, -, ⟨ov38, og38⟩, -⟩ := id LT1
    refine j_put (w' := _) dL_merge_12 fL_13 tX9_0 og38 ⟨rfl, rfl⟩ rfl ?_
    refine j_seal (n := x) LT1.x1 ?_
    intro w2 u2
    have LT2 := LT1.out u2
    refine j_goto (tgt := 26) dL_merge_15 (by decide) ?_
    refine j_iconst (v := 0) dL_merge_26 (by decide) ?_
    refine j_iret dL_merge_27 rfl rfl ?_ (Nat.le_of_ble_eq_true rfl) (Nat.le_of_ble_eq_true rfl)
    exact ⟨_, by rw [hk], LT2, fun _ => rfl⟩
set_option maxRecDepth 100000 in
set_option maxHeartbeats 4000000 in
theorem lw_hearTable (hl : l.stackTraces = false) (w : z_W) (x : Nat) (C M : sp_S) (n : Int64) (LT : z_LX x C M n w) (a0 : Int32) (a1 : Int32) : z_Con G l mL_hearTable 27 14 120 w [.ref 0, .int a0, .int a1, .ref x] (fun v w9 => ∃ n9 : Int64, v = some (.int (t_hearTable C a0 a1)) ∧ z_LX x (k_hearTable C a0 a1) M n9 w9 ∧ (t_hearTable C a0 a1 = 0 → n9 = (a_hearTable C a0 a1).toInt64)) (fun _ _ => False) := by
  refine z_bodyW hl (by decide) (by decide) (Nat.le_of_ble_eq_true rfl) ?_
  show z_J G l mL_hearTable _ 0 [(0, _), (1, _), (2, _), (3, _)] [] _ 0 0
  refine j_aload_n dL_hearTable_0 rfl rfl ?_
  refine j_aload_n dL_hearTable_1 rfl rfl ?_
  refine j_iload_n dL_hearTable_2 rfl ?_
  refine j_iload_n dL_hearTable_3 rfl ?_
  obtain ⟨fs39, gs39⟩ := LT.rc
  refine j_tryV (q := (RX8, TX8, 9)) dL_hearTable_4 kX8_hearTable lL_82 inX8_hearTable seX8_hearTable gs39 rfl (px_hearTable hl w C LT.1.1 LT.1.2 a0 a1) (Nat.le_of_ble_eq_true rfl) ⟨(Nat.le_of_ble_eq_true rfl), (Nat.le_of_ble_eq_true rfl)⟩ rfl (Nat.le_of_ble_eq_true rfl) rfl ?_ ?_
  · rintro E _ ⟨hE, rfl⟩
    obtain ⟨hE, hk⟩ := hE
    have hk : t_hearTable C a0 a1 = 1 := hk
    have hE : E = "java/lang/IndexOutOfBoundsException" := hE
    subst hE
    refine ⟨14, 16, ⟨[], (⟨0, 11, 14, 19⟩ : ExceptionTableEntry), _, "java/lang/IndexOutOfBoundsException", rfl, (fun z hz => by cases hz), by decide, by decide, (z_w 847 ((lwg_4 82).trans rfl) (by decide +kernel)), (z_wn 860 ((lwg_4 95).trans rfl) (by decide +kernel)), rfl⟩, Or.inl ⟨4, dL_hearTable_14, by decide, rfl⟩, ?_⟩
    refine j_iconst (v := 1) dL_hearTable_16 (by decide) ?_
    refine j_iret dL_hearTable_17 rfl rfl ?_ (Nat.le_of_ble_eq_true rfl) (Nat.le_of_ble_eq_true rfl)
    exact ⟨_, by rw [hk], by unfold k_hearTable; rw [if_neg (by rw [hk]; decide)]; exact LT, fun z => absurd (hk.symm.trans z) (by decide)⟩
  · rintro _ w1 ⟨hk, rfl, hW1, hh1⟩
    have hk : t_hearTable C a0 a1 = 0 := hk
    have LT1 : z_LX x (k_hearTable C a0 a1) M n w1 := LT.cls (by unfold k_hearTable; rw [if_pos hk]; exact hW1) (okk_hearTable _ _ LT.1.2) hh1
    refine j_i2l dL_hearTable_7 ?_
    obtain ⟨-, -, ⟨ov40, og40⟩, -⟩ := id LT1
    refine j_put (w' := _) dL_hearTable_8 fL_13 tX9_0 og40 ⟨rfl, rfl⟩ rfl ?_
    refine j_seal (n := x) LT1.x1 ?_
    intro w2 u2
    have LT2 := LT1.out u2
    refine j_goto (tgt := 18) dL_hearTable_11 (by decide) ?_
    refine j_iconst (v := 0) dL_hearTable_18 (by decide) ?_
    refine j_iret dL_hearTable_19 rfl rfl ?_ (Nat.le_of_ble_eq_true rfl) (Nat.le_of_ble_eq_true rfl)
    exact ⟨_, by rw [hk], LT2, fun _ => rfl⟩
set_option maxRecDepth 100000 in
set_option maxHeartbeats 4000000 in
theorem lw_replaceTable (hl : l.stackTraces = false) (w : z_W) (x : Nat) (C M : sp_S) (n : Int64) (LT : z_LX x C M n w) (a0 : Int32) (a1 : Int32) (a2 : Int32) : z_Con G l mL_replaceTable 27 14 120 w [.ref 0, .int a0, .int a1, .int a2, .ref x] (fun v w9 => ∃ n9 : Int64, v = some (.int (t_replaceTable C a0 a1 a2)) ∧ z_LX x (k_replaceTable C a0 a1 a2) M n9 w9 ∧ (t_replaceTable C a0 a1 a2 = 0 → n9 = (a_replaceTable C a0 a1 a2).toInt64)) (fun _ _ => False) := by
  refine z_bodyW hl (by decide) (by decide) (Nat.le_of_ble_eq_true rfl) ?_
  show z_J G l mL_replaceTable _ 0 [(0, _), (1, _), (2, _), (3, _), (4, _)] [] _ 0 0
  refine j_aload dL_replaceTable_0 rfl rfl ?_
  refine j_aload_n dL_replaceTable_2 rfl rfl ?_
  refine j_iload_n dL_replaceTable_3 rfl ?_
  refine j_iload_n dL_replaceTable_4 rfl ?_
  refine j_iload_n dL_replaceTable_5 rfl ?_
  obtain ⟨fs41, gs41⟩ := LT.rc
  refine j_tryV (q := (RX8, TX8, 9)) dL_replaceTable_6 kX8_replaceTable lL_85 inX8_replaceTable seX8_replaceTable gs41 rfl (px_replaceTable hl w C LT.1.1 LT.1.2 a0 a1 a2) (Nat.le_of_ble_eq_true rfl) ⟨(Nat.le_of_ble_eq_true rfl), (Nat.le_of_ble_eq_true rfl)⟩ rfl (Nat.le_of_ble_eq_true rfl) rfl ?_ ?_
  · rintro E _ ⟨hE, rfl⟩
    rcases hE with hE | hE
    · obtain ⟨hE, hk⟩ := hE
      have hk : t_replaceTable C a0 a1 a2 = 1 := hk
      have hE : E = "java/lang/IndexOutOfBoundsException" := hE
      subst hE
      refine ⟨16, 18, ⟨[], (⟨0, 13, 16, 19⟩ : ExceptionTableEntry), _, "java/lang/IndexOutOfBoundsException", rfl, (fun z hz => by cases hz), by decide, by decide, (z_w 847 ((lwg_4 82).trans rfl) (by decide +kernel)), (z_wn 860 ((lwg_4 95).trans rfl) (by decide +kernel)), rfl⟩, Or.inl ⟨5, dL_replaceTable_16, by decide, rfl⟩, ?_⟩
      refine j_iconst (v := 1) dL_replaceTable_18 (by decide) ?_
      refine j_iret dL_replaceTable_19 rfl rfl ?_ (Nat.le_of_ble_eq_true rfl) (Nat.le_of_ble_eq_true rfl)
      exact ⟨_, by rw [hk], by unfold k_replaceTable; rw [if_neg (by rw [hk]; decide)]; exact LT, fun z => absurd (hk.symm.trans z) (by decide)⟩
    · obtain ⟨hE, hk⟩ := hE
      have hk : t_replaceTable C a0 a1 a2 = 2 := hk
      have hE : E = "java/lang/IllegalArgumentException" := hE
      subst hE
      refine ⟨20, 22, ⟨[(⟨0, 13, 16, 19⟩ : ExceptionTableEntry)], (⟨0, 13, 20, 21⟩ : ExceptionTableEntry), _, "java/lang/IllegalArgumentException", rfl, (fun z hz => by
          simp only [List.mem_cons, List.not_mem_nil, or_false] at hz
          rcases hz with rfl
          · exact Or.inr ⟨by decide, "java/lang/IndexOutOfBoundsException", (z_w 847 ((lwg_4 82).trans rfl) (by decide +kernel)), by decide⟩), by decide, by decide, (z_w 848 ((lwg_4 83).trans rfl) (by decide +kernel)), (z_wn 460 ((lwg_2 175).trans rfl) (by decide +kernel)), rfl⟩, Or.inl ⟨5, dL_replaceTable_20, by decide, rfl⟩, ?_⟩
      refine j_iconst (v := 2) dL_replaceTable_22 (by decide) ?_
      refine j_iret dL_replaceTable_23 rfl rfl ?_ (Nat.le_of_ble_eq_true rfl) (Nat.le_of_ble_eq_true rfl)
      exact ⟨_, by rw [hk], by unfold k_replaceTable; rw [if_neg (by rw [hk]; decide)]; exact LT, fun z => absurd (hk.symm.trans z) (by decide)⟩
  · rintro _ w1 ⟨hk, rfl, hW1, hh1⟩
    have hk : t_replaceTable C a0 a1 a2 = 0 := hk
    have LT1 : z_LX x (k_replaceTable C a0 a1 a2) M n w1 := LT.cls (by unfold k_replaceTable; rw [if_pos hk]; exact hW1) (okk_replaceTable _ _ _ LT.1.2) hh1
    refine j_i2l dL_replaceTable_9 ?_
    obtain ⟨-, -, ⟨ov42, og42⟩, -⟩ := id LT1
    refine j_put (w' := _) dL_replaceTable_10 fL_13 tX9_0 og42 ⟨rfl, rfl⟩ rfl ?_
    refine j_seal (n := x) LT1.x1 ?_
    intro w2 u2
    have LT2 := LT1.out u2
    refine j_goto (tgt := 24) dL_replaceTable_13 (by decide) ?_
    refine j_iconst (v := 0) dL_replaceTable_24 (by decide) ?_
    refine j_iret dL_replaceTable_25 rfl rfl ?_ (Nat.le_of_ble_eq_true rfl) (Nat.le_of_ble_eq_true rfl)
    exact ⟨_, by rw [hk], LT2, fun _ => rfl⟩
set_option maxRecDepth 100000 in
set_option maxHeartbeats 4000000 in
theorem lw_clear (hl : l.stackTraces = false) (w : z_W) (x : Nat) (C M : sp_S) (n : Int64) (LT : z_LX x C M n w) (a0 : Int32) : z_Con G l mL_clear 27 14 120 w [.ref 0, .int a0, .ref x] (fun v w9 => ∃ n9 : Int64, v = some (.int (t_clear C a0)) ∧ z_LX x (k_clear C a0) M n9 w9 ∧ (t_clear C a0 = 0 → n9 = (a_clear C a0).toInt64)) (fun _ _ => False) := by
  refine z_bodyW hl (by decide) (by decide) (Nat.le_of_ble_eq_true rfl) ?_
  show z_J G l mL_clear _ 0 [(0, _), (1, _), (2, _)] [] _ 0 0
  refine j_aload_n dL_clear_0 rfl rfl ?_
  refine j_aload_n dL_clear_1 rfl rfl ?_
  refine j_iload_n dL_clear_2 rfl ?_
  obtain ⟨fs43, gs43⟩ := LT.rc
  refine j_tryV (q := (RX8, TX8, 9)) dL_clear_3 kX8_clear lL_88 inX8_clear seX8_clear gs43 rfl (px_clear hl w C LT.1.1 LT.1.2 a0) (Nat.le_of_ble_eq_true rfl) ⟨(Nat.le_of_ble_eq_true rfl), (Nat.le_of_ble_eq_true rfl)⟩ rfl (Nat.le_of_ble_eq_true rfl) rfl ?_ ?_
  · rintro E _ ⟨hE, rfl⟩
    obtain ⟨hE, hk⟩ := hE
    have hk : t_clear C a0 = 1 := hk
    have hE : E = "java/lang/IndexOutOfBoundsException" := hE
    subst hE
    refine ⟨13, 14, ⟨[], (⟨0, 10, 13, 19⟩ : ExceptionTableEntry), _, "java/lang/IndexOutOfBoundsException", rfl, (fun z hz => by cases hz), by decide, by decide, (z_w 847 ((lwg_4 82).trans rfl) (by decide +kernel)), (z_wn 860 ((lwg_4 95).trans rfl) (by decide +kernel)), rfl⟩, Or.inr ⟨3, dL_clear_13, by decide, rfl⟩, ?_⟩
    refine j_iconst (v := 1) dL_clear_14 (by decide) ?_
    refine j_iret dL_clear_15 rfl rfl ?_ (Nat.le_of_ble_eq_true rfl) (Nat.le_of_ble_eq_true rfl)
    exact ⟨_, by rw [hk], by unfold k_clear; rw [if_neg (by rw [hk]; decide)]; exact LT, fun z => absurd (hk.symm.trans z) (by decide)⟩
  · rintro _ w1 ⟨hk, rfl, hW1, hh1⟩
    have hk : t_clear C a0 = 0 := hk
    have LT1 : z_LX x (k_clear C a0) M n w1 := LT.cls (by unfold k_clear; rw [if_pos hk]; exact hW1) (okk_clear _ LT.1.2) hh1
    refine j_i2l dL_clear_6 ?_
    obtain ⟨-, -, ⟨ov44, og44⟩, -⟩ := id LT1
    refine j_put (w' := _) dL_clear_7 fL_13 tX9_0 og44 ⟨rfl, rfl⟩ rfl ?_
    refine j_seal (n := x) LT1.x1 ?_
    intro w2 u2
    have LT2 := LT1.out u2
    refine j_goto (tgt := 16) dL_clear_10 (by decide) ?_
    refine j_iconst (v := 0) dL_clear_16 (by decide) ?_
    refine j_iret dL_clear_17 rfl rfl ?_ (Nat.le_of_ble_eq_true rfl) (Nat.le_of_ble_eq_true rfl)
    exact ⟨_, by rw [hk], LT2, fun _ => rfl⟩
set_option maxRecDepth 100000 in
set_option maxHeartbeats 4000000 in
theorem lw_hearSpan (hl : l.stackTraces = false) (w : z_W) (x : Nat) (C M : sp_S) (n : Int64) (LT : z_LX x C M n w) (a0 : Int32) (a1 : Int32) (a2 : Int32) (a3 : Int32) : z_Con G l mL_hearSpan 27 14 120 w [.ref 0, .int a0, .int a1, .int a2, .int a3, .ref x] (fun v w9 => ∃ n9 : Int64, v = some (.int (t_hearSpan C a0 a1 a2 a3)) ∧ z_LX x (k_hearSpan C a0 a1 a2 a3) M n9 w9 ∧ (t_hearSpan C a0 a1 a2 a3 = 0 → n9 = (a_hearSpan C a0 a1 a2 a3).toInt64)) (fun _ _ => False) := by
  refine z_bodyW hl (by decide) (by decide) (Nat.le_of_ble_eq_true rfl) ?_
  show z_J G l mL_hearSpan _ 0 [(0, _), (1, _), (2, _), (3, _), (4, _), (5, _)] [] _ 0 0
  refine j_aload dL_hearSpan_0 rfl rfl ?_
  refine j_aload_n dL_hearSpan_2 rfl rfl ?_
  refine j_iload_n dL_hearSpan_3 rfl ?_
  refine j_iload_n dL_hearSpan_4 rfl ?_
  refine j_iload_n dL_hearSpan_5 rfl ?_
  refine j_iload dL_hearSpan_6 rfl ?_
  obtain ⟨fs45, gs45⟩ := LT.rc
  refine j_tryV (q := (RX8, TX8, 9)) dL_hearSpan_8 kX8_hearSpan lL_91 inX8_hearSpan seX8_hearSpan gs45 rfl (px_hearSpan hl w C LT.1.1 LT.1.2 a0 a1 a2 a3) (Nat.le_of_ble_eq_true rfl) ⟨(Nat.le_of_ble_eq_true rfl), (Nat.le_of_ble_eq_true rfl)⟩ rfl (Nat.le_of_ble_eq_true rfl) rfl ?_ ?_
  · rintro E _ ⟨hE, rfl⟩
    rcases hE with hE | hE
    · obtain ⟨hE, hk⟩ := hE
      have hk : t_hearSpan C a0 a1 a2 a3 = 1 := hk
      have hE : E = "java/lang/IndexOutOfBoundsException" := hE
      subst hE
      refine ⟨18, 20, ⟨[], (⟨0, 15, 18, 19⟩ : ExceptionTableEntry), _, "java/lang/IndexOutOfBoundsException", rfl, (fun z hz => by cases hz), by decide, by decide, (z_w 847 ((lwg_4 82).trans rfl) (by decide +kernel)), (z_wn 860 ((lwg_4 95).trans rfl) (by decide +kernel)), rfl⟩, Or.inl ⟨6, dL_hearSpan_18, by decide, rfl⟩, ?_⟩
      refine j_iconst (v := 1) dL_hearSpan_20 (by decide) ?_
      refine j_iret dL_hearSpan_21 rfl rfl ?_ (Nat.le_of_ble_eq_true rfl) (Nat.le_of_ble_eq_true rfl)
      exact ⟨_, by rw [hk], by unfold k_hearSpan; rw [if_neg (by rw [hk]; decide)]; exact LT, fun z => absurd (hk.symm.trans z) (by decide)⟩
    · obtain ⟨hE, hk⟩ := hE
      have hk : t_hearSpan C a0 a1 a2 a3 = 2 := hk
      have hE : E = "java/lang/IllegalArgumentException" := hE
      subst hE
      refine ⟨22, 24, ⟨[(⟨0, 15, 18, 19⟩ : ExceptionTableEntry)], (⟨0, 15, 22, 21⟩ : ExceptionTableEntry), _, "java/lang/IllegalArgumentException", rfl, (fun z hz => by
          simp only [List.mem_cons, List.not_mem_nil, or_false] at hz
          rcases hz with rfl
          · exact Or.inr ⟨by decide, "java/lang/IndexOutOfBoundsException", (z_w 847 ((lwg_4 82).trans rfl) (by decide +kernel)), by decide⟩), by decide, by decide, (z_w 848 ((lwg_4 83).trans rfl) (by decide +kernel)), (z_wn 460 ((lwg_2 175).trans rfl) (by decide +kernel)), rfl⟩, Or.inl ⟨6, dL_hearSpan_22, by decide, rfl⟩, ?_⟩
      refine j_iconst (v := 2) dL_hearSpan_24 (by decide) ?_
      refine j_iret dL_hearSpan_25 rfl rfl ?_ (Nat.le_of_ble_eq_true rfl) (Nat.le_of_ble_eq_true rfl)
      exact ⟨_, by rw [hk], by unfold k_hearSpan; rw [if_neg (by rw [hk]; decide)]; exact LT, fun z => absurd (hk.symm.trans z) (by decide)⟩
  · rintro _ w1 ⟨hk, rfl, hW1, hh1⟩
    have hk : t_hearSpan C a0 a1 a2 a3 = 0 := hk
    have LT1 : z_LX x (k_hearSpan C a0 a1 a2 a3) M n w1 := LT.cls (by unfold k_hearSpan; rw [if_pos hk]; exact hW1) (okk_hearSpan _ _ _ _ LT.1.2) hh1
    refine j_i2l dL_hearSpan_11 ?_
    obtain ⟨-, -, ⟨ov46, og46⟩, -⟩ := id LT1
    refine j_put (w' := _) dL_hearSpan_12 fL_13 tX9_0 og46 ⟨rfl, rfl⟩ rfl ?_
    refine j_seal (n := x) LT1.x1 ?_
    intro w2 u2
    have LT2 := LT1.out u2
    refine j_goto (tgt := 26) dL_hearSpan_15 (by decide) ?_
    refine j_iconst (v := 0) dL_hearSpan_26 (by decide) ?_
    refine j_iret dL_hearSpan_27 rfl rfl ?_ (Nat.le_of_ble_eq_true rfl) (Nat.le_of_ble_eq_true rfl)
    exact ⟨_, by rw [hk], LT2, fun _ => rfl⟩
set_option maxRecDepth 100000 in
set_option maxHeartbeats 4000000 in
theorem lw_hearSteps (hl : l.stackTraces = false) (w : z_W) (x : Nat) (C M : sp_S) (n : Int64) (LT : z_LX x C M n w) (a0 : Int32) (a1 : Int32) (a2 : Int32) (a3 : Int32) (a4 : Int32) : z_Con G l mL_hearSteps 27 14 120 w [.ref 0, .int a0, .int a1, .int a2, .int a3, .int a4, .ref x] (fun v w9 => ∃ n9 : Int64, v = some (.int (t_hearSteps C a0 a1 a2 a3 a4)) ∧ z_LX x (k_hearSteps C a0 a1 a2 a3 a4) M n9 w9 ∧ (t_hearSteps C a0 a1 a2 a3 a4 = 0 → n9 = (a_hearSteps C a0 a1 a2 a3 a4).toInt64)) (fun _ _ => False) := by
  refine z_bodyW hl (by decide) (by decide) (Nat.le_of_ble_eq_true rfl) ?_
  show z_J G l mL_hearSteps _ 0 [(0, _), (1, _), (2, _), (3, _), (4, _), (5, _), (6, _)] [] _ 0 0
  refine j_aload dL_hearSteps_0 rfl rfl ?_
  refine j_aload_n dL_hearSteps_2 rfl rfl ?_
  refine j_iload_n dL_hearSteps_3 rfl ?_
  refine j_iload_n dL_hearSteps_4 rfl ?_
  refine j_iload_n dL_hearSteps_5 rfl ?_
  refine j_iload dL_hearSteps_6 rfl ?_
  refine j_iload dL_hearSteps_8 rfl ?_
  obtain ⟨fs47, gs47⟩ := LT.rc
  refine j_tryV (q := (RX8, TX8, 9)) dL_hearSteps_10 kX8_hearSteps lL_94 inX8_hearSteps seX8_hearSteps gs47 rfl (px_hearSteps hl w C LT.1.1 LT.1.2 a0 a1 a2 a3 a4) (Nat.le_of_ble_eq_true rfl) ⟨(Nat.le_of_ble_eq_true rfl), (Nat.le_of_ble_eq_true rfl)⟩ rfl (Nat.le_of_ble_eq_true rfl) rfl ?_ ?_
  · rintro E _ ⟨hE, rfl⟩
    rcases hE with hE | hE
    · obtain ⟨hE, hk⟩ := hE
      have hk : t_hearSteps C a0 a1 a2 a3 a4 = 1 := hk
      have hE : E = "java/lang/IndexOutOfBoundsException" := hE
      subst hE
      refine ⟨20, 22, ⟨[], (⟨0, 17, 20, 19⟩ : ExceptionTableEntry), _, "java/lang/IndexOutOfBoundsException", rfl, (fun z hz => by cases hz), by decide, by decide, (z_w 847 ((lwg_4 82).trans rfl) (by decide +kernel)), (z_wn 860 ((lwg_4 95).trans rfl) (by decide +kernel)), rfl⟩, Or.inl ⟨7, dL_hearSteps_20, by decide, rfl⟩, ?_⟩
      refine j_iconst (v := 1) dL_hearSteps_22 (by decide) ?_
      refine j_iret dL_hearSteps_23 rfl rfl ?_ (Nat.le_of_ble_eq_true rfl) (Nat.le_of_ble_eq_true rfl)
      exact ⟨_, by rw [hk], by unfold k_hearSteps; rw [if_neg (by rw [hk]; decide)]; exact LT, fun z => absurd (hk.symm.trans z) (by decide)⟩
    · obtain ⟨hE, hk⟩ := hE
      have hk : t_hearSteps C a0 a1 a2 a3 a4 = 2 := hk
      have hE : E = "java/lang/IllegalArgumentException" := hE
      subst hE
      refine ⟨24, 26, ⟨[(⟨0, 17, 20, 19⟩ : ExceptionTableEntry)], (⟨0, 17, 24, 21⟩ : ExceptionTableEntry), _, "java/lang/IllegalArgumentException", rfl, (fun z hz => by
          simp only [List.mem_cons, List.not_mem_nil, or_false] at hz
          rcases hz with rfl
          · exact Or.inr ⟨by decide, "java/lang/IndexOutOfBoundsException", (z_w 847 ((lwg_4 82).trans rfl) (by decide +kernel)), by decide⟩), by decide, by decide, (z_w 848 ((lwg_4 83).trans rfl) (by decide +kernel)), (z_wn 460 ((lwg_2 175).trans rfl) (by decide +kernel)), rfl⟩, Or.inl ⟨7, dL_hearSteps_24, by decide, rfl⟩, ?_⟩
      refine j_iconst (v := 2) dL_hearSteps_26 (by decide) ?_
      refine j_iret dL_hearSteps_27 rfl rfl ?_ (Nat.le_of_ble_eq_true rfl) (Nat.le_of_ble_eq_true rfl)
      exact ⟨_, by rw [hk], by unfold k_hearSteps; rw [if_neg (by rw [hk]; decide)]; exact LT, fun z => absurd (hk.symm.trans z) (by decide)⟩
  · rintro _ w1 ⟨hk, rfl, hW1, hh1⟩
    have hk : t_hearSteps C a0 a1 a2 a3 a4 = 0 := hk
    have LT1 : z_LX x (k_hearSteps C a0 a1 a2 a3 a4) M n w1 := LT.cls (by unfold k_hearSteps; rw [if_pos hk]; exact hW1) (okk_hearSteps _ _ _ _ _ LT.1.2) hh1
    refine j_i2l dL_hearSteps_13 ?_
    obtain ⟨-, -, ⟨ov48, og48⟩, -⟩ := id LT1
    refine j_put (w' := _) dL_hearSteps_14 fL_13 tX9_0 og48 ⟨rfl, rfl⟩ rfl ?_
    refine j_seal (n := x) LT1.x1 ?_
    intro w2 u2
    have LT2 := LT1.out u2
    refine j_goto (tgt := 28) dL_hearSteps_17 (by decide) ?_
    refine j_iconst (v := 0) dL_hearSteps_28 (by decide) ?_
    refine j_iret dL_hearSteps_29 rfl rfl ?_ (Nat.le_of_ble_eq_true rfl) (Nat.le_of_ble_eq_true rfl)
    exact ⟨_, by rw [hk], LT2, fun _ => rfl⟩
set_option maxRecDepth 100000 in
set_option maxHeartbeats 4000000 in
theorem lw_takeStep (hl : l.stackTraces = false) (w : z_W) (x : Nat) (C M : sp_S) (n : Int64) (LT : z_LX x C M n w) (a0 : Int32) (a1 : Int32) : z_Con G l mL_takeStep 27 14 120 w [.ref 0, .int a0, .int a1, .ref x] (fun v w9 => ∃ n9 : Int64, v = some (.int (t_takeStep C a0 a1)) ∧ z_LX x (k_takeStep C a0 a1) M n9 w9 ∧ (t_takeStep C a0 a1 = 0 → n9 = (a_takeStep C a0 a1).toInt64)) (fun _ _ => False) := by
  refine z_bodyW hl (by decide) (by decide) (Nat.le_of_ble_eq_true rfl) ?_
  show z_J G l mL_takeStep _ 0 [(0, _), (1, _), (2, _), (3, _)] [] _ 0 0
  refine j_aload_n dL_takeStep_0 rfl rfl ?_
  refine j_aload_n dL_takeStep_1 rfl rfl ?_
  refine j_iload_n dL_takeStep_2 rfl ?_
  refine j_iload_n dL_takeStep_3 rfl ?_
  obtain ⟨fs49, gs49⟩ := LT.rc
  refine j_tryV (q := (RX8, TX8, 9)) dL_takeStep_4 kX8_takeStep lL_98 inX8_takeStep seX8_takeStep gs49 rfl (px_takeStep hl w C LT.1.1 LT.1.2 a0 a1) (Nat.le_of_ble_eq_true rfl) ⟨(Nat.le_of_ble_eq_true rfl), (Nat.le_of_ble_eq_true rfl)⟩ rfl (Nat.le_of_ble_eq_true rfl) rfl ?_ ?_
  · rintro E _ ⟨hE, rfl⟩
    obtain ⟨hE, hk⟩ := hE
    have hk : t_takeStep C a0 a1 = 1 := hk
    have hE : E = "java/lang/IllegalArgumentException" := hE
    subst hE
    refine ⟨14, 16, ⟨[], (⟨0, 11, 14, 21⟩ : ExceptionTableEntry), _, "java/lang/IllegalArgumentException", rfl, (fun z hz => by cases hz), by decide, by decide, (z_w 848 ((lwg_4 83).trans rfl) (by decide +kernel)), (z_wn 460 ((lwg_2 175).trans rfl) (by decide +kernel)), rfl⟩, Or.inl ⟨4, dL_takeStep_14, by decide, rfl⟩, ?_⟩
    refine j_iconst (v := 1) dL_takeStep_16 (by decide) ?_
    refine j_iret dL_takeStep_17 rfl rfl ?_ (Nat.le_of_ble_eq_true rfl) (Nat.le_of_ble_eq_true rfl)
    exact ⟨_, by rw [hk], by unfold k_takeStep; rw [if_neg (by rw [hk]; decide)]; exact LT, fun z => absurd (hk.symm.trans z) (by decide)⟩
  · rintro _ w1 ⟨hk, rfl, hW1, hh1⟩
    have hk : t_takeStep C a0 a1 = 0 := hk
    have LT1 : z_LX x (k_takeStep C a0 a1) M n w1 := LT.cls (by unfold k_takeStep; rw [if_pos hk]; exact hW1) (okk_takeStep _ _ LT.1.2) hh1
    refine j_i2l dL_takeStep_7 ?_
    obtain ⟨-, -, ⟨ov50, og50⟩, -⟩ := id LT1
    refine j_put (w' := _) dL_takeStep_8 fL_13 tX9_0 og50 ⟨rfl, rfl⟩ rfl ?_
    refine j_seal (n := x) LT1.x1 ?_
    intro w2 u2
    have LT2 := LT1.out u2
    refine j_goto (tgt := 18) dL_takeStep_11 (by decide) ?_
    refine j_iconst (v := 0) dL_takeStep_18 (by decide) ?_
    refine j_iret dL_takeStep_19 rfl rfl ?_ (Nat.le_of_ble_eq_true rfl) (Nat.le_of_ble_eq_true rfl)
    exact ⟨_, by rw [hk], LT2, fun _ => rfl⟩
set_option maxRecDepth 100000 in
set_option maxHeartbeats 4000000 in
theorem lw_stop (hl : l.stackTraces = false) (w : z_W) (x : Nat) (C M : sp_S) (n : Int64) (LT : z_LX x C M n w) (a0 : Int32) (a1 : Int32) : z_Con G l mL_stop 27 14 120 w [.ref 0, .int a0, .int a1, .ref x] (fun v w9 => ∃ n9 : Int64, v = some (.int (t_stop C a0 a1)) ∧ z_LX x (k_stop C a0 a1) M n9 w9 ∧ (t_stop C a0 a1 = 0 → n9 = (a_stop C a0 a1).toInt64)) (fun _ _ => False) := by
  refine z_bodyW hl (by decide) (by decide) (Nat.le_of_ble_eq_true rfl) ?_
  show z_J G l mL_stop _ 0 [(0, _), (1, _), (2, _), (3, _)] [] _ 0 0
  refine j_aload_n dL_stop_0 rfl rfl ?_
  refine j_aload_n dL_stop_1 rfl rfl ?_
  refine j_iload_n dL_stop_2 rfl ?_
  refine j_iload_n dL_stop_3 rfl ?_
  obtain ⟨fs51, gs51⟩ := LT.rc
  refine j_tryV (q := (RX8, TX8, 9)) dL_stop_4 kX8_stop lL_101 inX8_stop seX8_stop gs51 rfl (px_stop hl w C LT.1.1 LT.1.2 a0 a1) (Nat.le_of_ble_eq_true rfl) ⟨(Nat.le_of_ble_eq_true rfl), (Nat.le_of_ble_eq_true rfl)⟩ rfl (Nat.le_of_ble_eq_true rfl) rfl ?_ ?_
  · rintro E _ ⟨hE, rfl⟩
    rcases hE with hE | hE
    · obtain ⟨hE, hk⟩ := hE
      have hk : t_stop C a0 a1 = 1 := hk
      have hE : E = "java/lang/IndexOutOfBoundsException" := hE
      subst hE
      refine ⟨14, 16, ⟨[], (⟨0, 11, 14, 19⟩ : ExceptionTableEntry), _, "java/lang/IndexOutOfBoundsException", rfl, (fun z hz => by cases hz), by decide, by decide, (z_w 847 ((lwg_4 82).trans rfl) (by decide +kernel)), (z_wn 860 ((lwg_4 95).trans rfl) (by decide +kernel)), rfl⟩, Or.inl ⟨4, dL_stop_14, by decide, rfl⟩, ?_⟩
      refine j_iconst (v := 1) dL_stop_16 (by decide) ?_
      refine j_iret dL_stop_17 rfl rfl ?_ (Nat.le_of_ble_eq_true rfl) (Nat.le_of_ble_eq_true rfl)
      exact ⟨_, by rw [hk], by unfold k_stop; rw [if_neg (by rw [hk]; decide)]; exact LT, fun z => absurd (hk.symm.trans z) (by decide)⟩
    · obtain ⟨hE, hk⟩ := hE
      have hk : t_stop C a0 a1 = 2 := hk
      have hE : E = "java/lang/IllegalArgumentException" := hE
      subst hE
      refine ⟨18, 20, ⟨[(⟨0, 11, 14, 19⟩ : ExceptionTableEntry)], (⟨0, 11, 18, 21⟩ : ExceptionTableEntry), _, "java/lang/IllegalArgumentException", rfl, (fun z hz => by
          simp only [List.mem_cons, List.not_mem_nil, or_false] at hz
          rcases hz with rfl
          · exact Or.inr ⟨by decide, "java/lang/IndexOutOfBoundsException", (z_w 847 ((lwg_4 82).trans rfl) (by decide +kernel)), by decide⟩), by decide, by decide, (z_w 848 ((lwg_4 83).trans rfl) (by decide +kernel)), (z_wn 460 ((lwg_2 175).trans rfl) (by decide +kernel)), rfl⟩, Or.inl ⟨4, dL_stop_18, by decide, rfl⟩, ?_⟩
      refine j_iconst (v := 2) dL_stop_20 (by decide) ?_
      refine j_iret dL_stop_21 rfl rfl ?_ (Nat.le_of_ble_eq_true rfl) (Nat.le_of_ble_eq_true rfl)
      exact ⟨_, by rw [hk], by unfold k_stop; rw [if_neg (by rw [hk]; decide)]; exact LT, fun z => absurd (hk.symm.trans z) (by decide)⟩
  · rintro _ w1 ⟨hk, rfl, hW1, hh1⟩
    have hk : t_stop C a0 a1 = 0 := hk
    have LT1 : z_LX x (k_stop C a0 a1) M n w1 := LT.cls (by unfold k_stop; rw [if_pos hk]; exact hW1) (okk_stop _ _ LT.1.2) hh1
    refine j_i2l dL_stop_7 ?_
    obtain ⟨-, -, ⟨ov52, og52⟩, -⟩ := id LT1
    refine j_put (w' := _) dL_stop_8 fL_13 tX9_0 og52 ⟨rfl, rfl⟩ rfl ?_
    refine j_seal (n := x) LT1.x1 ?_
    intro w2 u2
    have LT2 := LT1.out u2
    refine j_goto (tgt := 22) dL_stop_11 (by decide) ?_
    refine j_iconst (v := 0) dL_stop_22 (by decide) ?_
    refine j_iret dL_stop_23 rfl rfl ?_ (Nat.le_of_ble_eq_true rfl) (Nat.le_of_ble_eq_true rfl)
    exact ⟨_, by rw [hk], LT2, fun _ => rfl⟩
set_option maxRecDepth 100000 in
set_option maxHeartbeats 4000000 in
theorem lw_forget (hl : l.stackTraces = false) (w : z_W) (x : Nat) (C M : sp_S) (n : Int64) (LT : z_LX x C M n w) (a0 : Int32) : z_Con G l mL_forget 27 14 120 w [.ref 0, .int a0, .ref x] (fun v w9 => ∃ n9 : Int64, v = some (.int (t_forget C a0)) ∧ z_LX x (k_forget C a0) M n9 w9 ∧ (t_forget C a0 = 0 → n9 = (a_forget C a0).toInt64)) (fun _ _ => False) := by
  refine z_bodyW hl (by decide) (by decide) (Nat.le_of_ble_eq_true rfl) ?_
  show z_J G l mL_forget _ 0 [(0, _), (1, _), (2, _)] [] _ 0 0
  refine j_aload_n dL_forget_0 rfl rfl ?_
  refine j_aload_n dL_forget_1 rfl rfl ?_
  refine j_iload_n dL_forget_2 rfl ?_
  obtain ⟨fs53, gs53⟩ := LT.rc
  refine j_tryV (q := (RX8, TX8, 9)) dL_forget_3 kX8_forget lL_104 inX8_forget seX8_forget gs53 rfl (px_forget hl w C LT.1.1 LT.1.2 a0) (Nat.le_of_ble_eq_true rfl) ⟨(Nat.le_of_ble_eq_true rfl), (Nat.le_of_ble_eq_true rfl)⟩ rfl (Nat.le_of_ble_eq_true rfl) rfl ?_ ?_
  · rintro E _ ⟨hE, rfl⟩
    obtain ⟨hE, hk⟩ := hE
    have hk : t_forget C a0 = 1 := hk
    have hE : E = "java/lang/IndexOutOfBoundsException" := hE
    subst hE
    refine ⟨13, 14, ⟨[], (⟨0, 10, 13, 19⟩ : ExceptionTableEntry), _, "java/lang/IndexOutOfBoundsException", rfl, (fun z hz => by cases hz), by decide, by decide, (z_w 847 ((lwg_4 82).trans rfl) (by decide +kernel)), (z_wn 860 ((lwg_4 95).trans rfl) (by decide +kernel)), rfl⟩, Or.inr ⟨3, dL_forget_13, by decide, rfl⟩, ?_⟩
    refine j_iconst (v := 1) dL_forget_14 (by decide) ?_
    refine j_iret dL_forget_15 rfl rfl ?_ (Nat.le_of_ble_eq_true rfl) (Nat.le_of_ble_eq_true rfl)
    exact ⟨_, by rw [hk], by unfold k_forget; rw [if_neg (by rw [hk]; decide)]; exact LT, fun z => absurd (hk.symm.trans z) (by decide)⟩
  · rintro _ w1 ⟨hk, rfl, hW1, hh1⟩
    have hk : t_forget C a0 = 0 := hk
    have LT1 : z_LX x (k_forget C a0) M n w1 := LT.cls (by unfold k_forget; rw [if_pos hk]; exact hW1) (okk_forget _ LT.1.2) hh1
    refine j_i2l dL_forget_6 ?_
    obtain ⟨-, -, ⟨ov54, og54⟩, -⟩ := id LT1
    refine j_put (w' := _) dL_forget_7 fL_13 tX9_0 og54 ⟨rfl, rfl⟩ rfl ?_
    refine j_seal (n := x) LT1.x1 ?_
    intro w2 u2
    have LT2 := LT1.out u2
    refine j_goto (tgt := 16) dL_forget_10 (by decide) ?_
    refine j_iconst (v := 0) dL_forget_16 (by decide) ?_
    refine j_iret dL_forget_17 rfl rfl ?_ (Nat.le_of_ble_eq_true rfl) (Nat.le_of_ble_eq_true rfl)
    exact ⟨_, by rw [hk], LT2, fun _ => rfl⟩
set_option maxRecDepth 100000 in
set_option maxHeartbeats 4000000 in
theorem lw_heard (hl : l.stackTraces = false) (w : z_W) (x : Nat) (C M : sp_S) (n : Int64) (LT : z_LX x C M n w) (a0 : Int32) (a1 : Int32) : z_Con G l mL_heard 27 14 120 w [.ref 0, .int a0, .int a1, .ref x] (fun v w9 => ∃ n9 : Int64, v = some (.int (t_heard C a0 a1)) ∧ z_LX x (k_heard C a0 a1) M n9 w9 ∧ (t_heard C a0 a1 = 0 → n9 = (a_heard C a0 a1).toInt64)) (fun _ _ => False) := by
  refine z_bodyW hl (by decide) (by decide) (Nat.le_of_ble_eq_true rfl) ?_
  show z_J G l mL_heard _ 0 [(0, _), (1, _), (2, _), (3, _)] [] _ 0 0
  refine j_aload_n dL_heard_0 rfl rfl ?_
  refine j_aload_n dL_heard_1 rfl rfl ?_
  refine j_iload_n dL_heard_2 rfl ?_
  refine j_iload_n dL_heard_3 rfl ?_
  obtain ⟨fs55, gs55⟩ := LT.rc
  refine j_tryV (q := (RX8, TX8, 9)) dL_heard_4 kX8_heard lL_107 inX8_heard seX8_heard gs55 rfl (px_heard hl w C LT.1.1 LT.1.2 a0 a1) (Nat.le_of_ble_eq_true rfl) ⟨(Nat.le_of_ble_eq_true rfl), (Nat.le_of_ble_eq_true rfl)⟩ rfl (Nat.le_of_ble_eq_true rfl) rfl ?_ ?_
  · rintro E _ ⟨hE, rfl⟩
    rcases hE with hE | hE
    · obtain ⟨hE, hk⟩ := hE
      have hk : t_heard C a0 a1 = 1 := hk
      have hE : E = "java/lang/IndexOutOfBoundsException" := hE
      subst hE
      refine ⟨14, 16, ⟨[], (⟨0, 11, 14, 19⟩ : ExceptionTableEntry), _, "java/lang/IndexOutOfBoundsException", rfl, (fun z hz => by cases hz), by decide, by decide, (z_w 847 ((lwg_4 82).trans rfl) (by decide +kernel)), (z_wn 860 ((lwg_4 95).trans rfl) (by decide +kernel)), rfl⟩, Or.inl ⟨4, dL_heard_14, by decide, rfl⟩, ?_⟩
      refine j_iconst (v := 1) dL_heard_16 (by decide) ?_
      refine j_iret dL_heard_17 rfl rfl ?_ (Nat.le_of_ble_eq_true rfl) (Nat.le_of_ble_eq_true rfl)
      exact ⟨_, by rw [hk], by unfold k_heard; rw [if_neg (by rw [hk]; decide)]; exact LT, fun z => absurd (hk.symm.trans z) (by decide)⟩
    · obtain ⟨hE, hk⟩ := hE
      have hk : t_heard C a0 a1 = 2 := hk
      have hE : E = "java/lang/IllegalArgumentException" := hE
      subst hE
      refine ⟨18, 20, ⟨[(⟨0, 11, 14, 19⟩ : ExceptionTableEntry)], (⟨0, 11, 18, 21⟩ : ExceptionTableEntry), _, "java/lang/IllegalArgumentException", rfl, (fun z hz => by
          simp only [List.mem_cons, List.not_mem_nil, or_false] at hz
          rcases hz with rfl
          · exact Or.inr ⟨by decide, "java/lang/IndexOutOfBoundsException", (z_w 847 ((lwg_4 82).trans rfl) (by decide +kernel)), by decide⟩), by decide, by decide, (z_w 848 ((lwg_4 83).trans rfl) (by decide +kernel)), (z_wn 460 ((lwg_2 175).trans rfl) (by decide +kernel)), rfl⟩, Or.inl ⟨4, dL_heard_18, by decide, rfl⟩, ?_⟩
      refine j_iconst (v := 2) dL_heard_20 (by decide) ?_
      refine j_iret dL_heard_21 rfl rfl ?_ (Nat.le_of_ble_eq_true rfl) (Nat.le_of_ble_eq_true rfl)
      exact ⟨_, by rw [hk], by unfold k_heard; rw [if_neg (by rw [hk]; decide)]; exact LT, fun z => absurd (hk.symm.trans z) (by decide)⟩
  · rintro _ w1 ⟨hk, rfl, hW1, hh1⟩
    have hk : t_heard C a0 a1 = 0 := hk
    have LT1 : z_LX x (k_heard C a0 a1) M n w1 := LT.cls (by unfold k_heard; rw [if_pos hk]; exact hW1) (okk_heard _ _ LT.1.2) hh1
    refine j_i2l dL_heard_7 ?_
    obtain ⟨-, -, ⟨ov56, og56⟩, -⟩ := id LT1
    refine j_put (w' := _) dL_heard_8 fL_13 tX9_0 og56 ⟨rfl, rfl⟩ rfl ?_
    refine j_seal (n := x) LT1.x1 ?_
    intro w2 u2
    have LT2 := LT1.out u2
    refine j_goto (tgt := 22) dL_heard_11 (by decide) ?_
    refine j_iconst (v := 0) dL_heard_22 (by decide) ?_
    refine j_iret dL_heard_23 rfl rfl ?_ (Nat.le_of_ble_eq_true rfl) (Nat.le_of_ble_eq_true rfl)
    exact ⟨_, by rw [hk], LT2, fun _ => rfl⟩
set_option maxRecDepth 100000 in
set_option maxHeartbeats 4000000 in
theorem lw_heardText (hl : l.stackTraces = false) (w : z_W) (x : Nat) (C M : sp_S) (n : Int64) (LT : z_LX x C M n w) (a0 : Int32) : z_Con G l mL_heardText 27 26 810 w [.ref 0, .int a0, .ref x] (fun v w9 => ∃ (r : Int32) (n9 : Int64), v = some (.int r) ∧ z_LX x C M n9 w9) (fun _ _ => False) := by
  obtain ⟨kn, xa, xb, b0, b1, hWk⟩ := LT.1.1.Wk
  refine z_bodyW hl (by decide) (by decide) (Nat.le_of_ble_eq_true rfl) ?_
  show z_J G l mL_heardText _ 0 [(0, _), (1, _), (2, _)] [] _ 0 0
  refine j_aload_n dL_heardText_0 rfl rfl ?_
  refine j_aload_n dL_heardText_1 rfl rfl ?_
  refine j_iload_n dL_heardText_2 rfl ?_
  obtain ⟨fs57, gs57⟩ := LT.rc
  refine j_tryV (q := (RX8, TX8, 9)) dL_heardText_3 kX8_heardText lL_110 inX8_heardText seX8_heardText gs57 rfl (pt_heardText hl w kn xa xb b0 b1 a0 hWk LT.fn) (Nat.le_of_ble_eq_true rfl) ⟨(Nat.le_of_ble_eq_true rfl), (Nat.le_of_ble_eq_true rfl)⟩ rfl (Nat.le_of_ble_eq_true rfl) rfl ?_ ?_
  · rintro E w1 ⟨hE, hW1, hh1⟩
    have hE : E = "java/lang/IndexOutOfBoundsException" := hE
    subst hE
    refine ⟨12, 13, ⟨[], (⟨0, 9, 12, 19⟩ : ExceptionTableEntry), _, "java/lang/IndexOutOfBoundsException", rfl, (fun z hz => by cases hz), by decide, by decide, (z_w 847 ((lwg_4 82).trans rfl) (by decide +kernel)), (z_wn 860 ((lwg_4 95).trans rfl) (by decide +kernel)), rfl⟩, Or.inr ⟨3, dL_heardText_12, by decide, rfl⟩, ?_⟩
    refine j_iconst (v := 1) dL_heardText_13 (by decide) ?_
    refine j_iret dL_heardText_14 rfl rfl ?_ (Nat.le_of_ble_eq_true rfl) (Nat.le_of_ble_eq_true rfl)
    exact ⟨_, _, rfl, LT.cls (by rw [hW1]; exact LT.1.1) LT.1.2 hh1⟩
  · rintro _ w1 ⟨x1, rfl, hW1, hh1⟩
    have LT1 := LT.cls (by rw [hW1]; exact LT.1.1) LT.1.2 hh1
    obtain ⟨-, -, ⟨ov58, og58⟩, -⟩ := id LT1
    refine j_put (w' := _) dL_heardText_6 fL_114 tX9_1 og58 (Or.inl ⟨_, rfl⟩) rfl ?_
    refine j_seal (n := x) LT1.x1 ?_
    intro w2 u2
    have LT2 := LT1.out u2
    refine j_goto (tgt := 15) dL_heardText_9 (by decide) ?_
    refine j_iconst (v := 0) dL_heardText_15 (by decide) ?_
    refine j_iret dL_heardText_16 rfl rfl ?_ (Nat.le_of_ble_eq_true rfl) (Nat.le_of_ble_eq_true rfl)
    exact ⟨_, _, rfl, LT2⟩
set_option maxRecDepth 100000 in
set_option maxHeartbeats 4000000 in
theorem lw_length (hl : l.stackTraces = false) (w : z_W) (x : Nat) (C M : sp_S) (n : Int64) (LT : z_LX x C M n w) (a0 : Int32) : z_Con G l mL_length 27 14 120 w [.ref 0, .int a0, .ref x] (fun v w9 => ∃ n9 : Int64, v = some (.int (t_length C a0)) ∧ z_LX x (k_length C a0) M n9 w9 ∧ (t_length C a0 = 0 → n9 = (a_length C a0).toInt64)) (fun _ _ => False) := by
  refine z_bodyW hl (by decide) (by decide) (Nat.le_of_ble_eq_true rfl) ?_
  show z_J G l mL_length _ 0 [(0, _), (1, _), (2, _)] [] _ 0 0
  refine j_aload_n dL_length_0 rfl rfl ?_
  refine j_aload_n dL_length_1 rfl rfl ?_
  refine j_iload_n dL_length_2 rfl ?_
  obtain ⟨fs59, gs59⟩ := LT.rc
  refine j_tryV (q := (RX8, TX8, 9)) dL_length_3 kX8_length lL_118 inX8_length seX8_length gs59 rfl (px_length hl w C LT.1.1 LT.1.2 a0) (Nat.le_of_ble_eq_true rfl) ⟨(Nat.le_of_ble_eq_true rfl), (Nat.le_of_ble_eq_true rfl)⟩ rfl (Nat.le_of_ble_eq_true rfl) rfl ?_ ?_
  · rintro E _ ⟨hE, rfl⟩
    obtain ⟨hE, hk⟩ := hE
    have hk : t_length C a0 = 1 := hk
    have hE : E = "java/lang/IndexOutOfBoundsException" := hE
    subst hE
    refine ⟨13, 14, ⟨[], (⟨0, 10, 13, 19⟩ : ExceptionTableEntry), _, "java/lang/IndexOutOfBoundsException", rfl, (fun z hz => by cases hz), by decide, by decide, (z_w 847 ((lwg_4 82).trans rfl) (by decide +kernel)), (z_wn 860 ((lwg_4 95).trans rfl) (by decide +kernel)), rfl⟩, Or.inr ⟨3, dL_length_13, by decide, rfl⟩, ?_⟩
    refine j_iconst (v := 1) dL_length_14 (by decide) ?_
    refine j_iret dL_length_15 rfl rfl ?_ (Nat.le_of_ble_eq_true rfl) (Nat.le_of_ble_eq_true rfl)
    exact ⟨_, by rw [hk], by unfold k_length; rw [if_neg (by rw [hk]; decide)]; exact LT, fun z => absurd (hk.symm.trans z) (by decide)⟩
  · rintro _ w1 ⟨hk, rfl, hW1, hh1⟩
    have hk : t_length C a0 = 0 := hk
    have LT1 : z_LX x (k_length C a0) M n w1 := LT.cls (by unfold k_length; rw [if_pos hk]; exact hW1) (okk_length _ LT.1.2) hh1
    refine j_i2l dL_length_6 ?_
    obtain ⟨-, -, ⟨ov60, og60⟩, -⟩ := id LT1
    refine j_put (w' := _) dL_length_7 fL_13 tX9_0 og60 ⟨rfl, rfl⟩ rfl ?_
    refine j_seal (n := x) LT1.x1 ?_
    intro w2 u2
    have LT2 := LT1.out u2
    refine j_goto (tgt := 16) dL_length_10 (by decide) ?_
    refine j_iconst (v := 0) dL_length_16 (by decide) ?_
    refine j_iret dL_length_17 rfl rfl ?_ (Nat.le_of_ble_eq_true rfl) (Nat.le_of_ble_eq_true rfl)
    exact ⟨_, by rw [hk], LT2, fun _ => rfl⟩
set_option maxRecDepth 100000 in
set_option maxHeartbeats 4000000 in
theorem lw_at (hl : l.stackTraces = false) (w : z_W) (x : Nat) (C M : sp_S) (n : Int64) (LT : z_LX x C M n w) (a0 : Int32) (a1 : Int32) : z_Con G l mL_at 27 14 120 w [.ref 0, .int a0, .int a1, .ref x] (fun v w9 => ∃ n9 : Int64, v = some (.int (t_at C a0 a1)) ∧ z_LX x (k_at C a0 a1) M n9 w9 ∧ (t_at C a0 a1 = 0 → n9 = (a_at C a0 a1).toInt64)) (fun _ _ => False) := by
  refine z_bodyW hl (by decide) (by decide) (Nat.le_of_ble_eq_true rfl) ?_
  show z_J G l mL_at _ 0 [(0, _), (1, _), (2, _), (3, _)] [] _ 0 0
  refine j_aload_n dL_at_0 rfl rfl ?_
  refine j_aload_n dL_at_1 rfl rfl ?_
  refine j_iload_n dL_at_2 rfl ?_
  refine j_iload_n dL_at_3 rfl ?_
  obtain ⟨fs61, gs61⟩ := LT.rc
  refine j_tryV (q := (RX8, TX8, 9)) dL_at_4 kX8_at lL_121 inX8_at seX8_at gs61 rfl (px_at hl w C LT.1.1 LT.1.2 a0 a1) (Nat.le_of_ble_eq_true rfl) ⟨(Nat.le_of_ble_eq_true rfl), (Nat.le_of_ble_eq_true rfl)⟩ rfl (Nat.le_of_ble_eq_true rfl) rfl ?_ ?_
  · rintro E _ ⟨hE, rfl⟩
    obtain ⟨hE, hk⟩ := hE
    have hk : t_at C a0 a1 = 1 := hk
    have hE : E = "java/lang/IndexOutOfBoundsException" := hE
    subst hE
    refine ⟨14, 16, ⟨[], (⟨0, 11, 14, 19⟩ : ExceptionTableEntry), _, "java/lang/IndexOutOfBoundsException", rfl, (fun z hz => by cases hz), by decide, by decide, (z_w 847 ((lwg_4 82).trans rfl) (by decide +kernel)), (z_wn 860 ((lwg_4 95).trans rfl) (by decide +kernel)), rfl⟩, Or.inl ⟨4, dL_at_14, by decide, rfl⟩, ?_⟩
    refine j_iconst (v := 1) dL_at_16 (by decide) ?_
    refine j_iret dL_at_17 rfl rfl ?_ (Nat.le_of_ble_eq_true rfl) (Nat.le_of_ble_eq_true rfl)
    exact ⟨_, by rw [hk], by unfold k_at; rw [if_neg (by rw [hk]; decide)]; exact LT, fun z => absurd (hk.symm.trans z) (by decide)⟩
  · rintro _ w1 ⟨hk, rfl, hW1, hh1⟩
    have hk : t_at C a0 a1 = 0 := hk
    have LT1 : z_LX x (k_at C a0 a1) M n w1 := LT.cls (by unfold k_at; rw [if_pos hk]; exact hW1) (okk_at _ _ LT.1.2) hh1
    refine j_i2l dL_at_7 ?_
    obtain ⟨-, -, ⟨ov62, og62⟩, -⟩ := id LT1
    refine j_put (w' := _) dL_at_8 fL_13 tX9_0 og62 ⟨rfl, rfl⟩ rfl ?_
    refine j_seal (n := x) LT1.x1 ?_
    intro w2 u2
    have LT2 := LT1.out u2
    refine j_goto (tgt := 18) dL_at_11 (by decide) ?_
    refine j_iconst (v := 0) dL_at_18 (by decide) ?_
    refine j_iret dL_at_19 rfl rfl ?_ (Nat.le_of_ble_eq_true rfl) (Nat.le_of_ble_eq_true rfl)
    exact ⟨_, by rw [hk], LT2, fun _ => rfl⟩
set_option maxRecDepth 100000 in
set_option maxHeartbeats 4000000 in
theorem lw_rowText (hl : l.stackTraces = false) (w : z_W) (x : Nat) (C M : sp_S) (n : Int64) (LT : z_LX x C M n w) (a0 : Int32) : z_Con G l mL_rowText 27 26 810 w [.ref 0, .int a0, .ref x] (fun v w9 => ∃ (r : Int32) (n9 : Int64), v = some (.int r) ∧ z_LX x C M n9 w9) (fun _ _ => False) := by
  obtain ⟨kn, xa, xb, b0, b1, hWk⟩ := LT.1.1.Wk
  refine z_bodyW hl (by decide) (by decide) (Nat.le_of_ble_eq_true rfl) ?_
  show z_J G l mL_rowText _ 0 [(0, _), (1, _), (2, _)] [] _ 0 0
  refine j_aload_n dL_rowText_0 rfl rfl ?_
  refine j_aload_n dL_rowText_1 rfl rfl ?_
  refine j_iload_n dL_rowText_2 rfl ?_
  obtain ⟨fs63, gs63⟩ := LT.rc
  refine j_tryV (q := (RX8, TX8, 9)) dL_rowText_3 kX8_rowText lL_124 inX8_rowText seX8_rowText gs63 rfl (pt_rowText hl w kn xa xb b0 b1 a0 hWk LT.fn) (Nat.le_of_ble_eq_true rfl) ⟨(Nat.le_of_ble_eq_true rfl), (Nat.le_of_ble_eq_true rfl)⟩ rfl (Nat.le_of_ble_eq_true rfl) rfl ?_ ?_
  · rintro E w1 ⟨hE, hW1, hh1⟩
    have hE : E = "java/lang/IndexOutOfBoundsException" := hE
    subst hE
    refine ⟨12, 13, ⟨[], (⟨0, 9, 12, 19⟩ : ExceptionTableEntry), _, "java/lang/IndexOutOfBoundsException", rfl, (fun z hz => by cases hz), by decide, by decide, (z_w 847 ((lwg_4 82).trans rfl) (by decide +kernel)), (z_wn 860 ((lwg_4 95).trans rfl) (by decide +kernel)), rfl⟩, Or.inr ⟨3, dL_rowText_12, by decide, rfl⟩, ?_⟩
    refine j_iconst (v := 1) dL_rowText_13 (by decide) ?_
    refine j_iret dL_rowText_14 rfl rfl ?_ (Nat.le_of_ble_eq_true rfl) (Nat.le_of_ble_eq_true rfl)
    exact ⟨_, _, rfl, LT.cls (by rw [hW1]; exact LT.1.1) LT.1.2 hh1⟩
  · rintro _ w1 ⟨x1, rfl, hW1, hh1⟩
    have LT1 := LT.cls (by rw [hW1]; exact LT.1.1) LT.1.2 hh1
    obtain ⟨-, -, ⟨ov64, og64⟩, -⟩ := id LT1
    refine j_put (w' := _) dL_rowText_6 fL_114 tX9_1 og64 (Or.inl ⟨_, rfl⟩) rfl ?_
    refine j_seal (n := x) LT1.x1 ?_
    intro w2 u2
    have LT2 := LT1.out u2
    refine j_goto (tgt := 15) dL_rowText_9 (by decide) ?_
    refine j_iconst (v := 0) dL_rowText_15 (by decide) ?_
    refine j_iret dL_rowText_16 rfl rfl ?_ (Nat.le_of_ble_eq_true rfl) (Nat.le_of_ble_eq_true rfl)
    exact ⟨_, _, rfl, LT2⟩
set_option maxRecDepth 100000 in
set_option maxHeartbeats 4000000 in
theorem lw_isFixed (hl : l.stackTraces = false) (w : z_W) (x : Nat) (C M : sp_S) (n : Int64) (LT : z_LX x C M n w) (a0 : Int32) : z_Con G l mL_isFixed 27 14 120 w [.ref 0, .int a0, .ref x] (fun v w9 => ∃ n9 : Int64, v = some (.int (t_isFixed C a0)) ∧ z_LX x (k_isFixed C a0) M n9 w9 ∧ (t_isFixed C a0 = 0 → n9 = (a_isFixed C a0).toInt64)) (fun _ _ => False) := by
  refine z_bodyW hl (by decide) (by decide) (Nat.le_of_ble_eq_true rfl) ?_
  show z_J G l mL_isFixed _ 0 [(0, _), (1, _), (2, _)] [] _ 0 0
  refine j_aload_n dL_isFixed_0 rfl rfl ?_
  refine j_aload_n dL_isFixed_1 rfl rfl ?_
  refine j_iload_n dL_isFixed_2 rfl ?_
  obtain ⟨fs65, gs65⟩ := LT.rc
  refine j_tryV (q := (RX8, TX8, 9)) dL_isFixed_3 kX8_isFixed lL_127 inX8_isFixed seX8_isFixed gs65 rfl (px_isFixed hl w C LT.1.1 LT.1.2 a0) (Nat.le_of_ble_eq_true rfl) ⟨(Nat.le_of_ble_eq_true rfl), (Nat.le_of_ble_eq_true rfl)⟩ rfl (Nat.le_of_ble_eq_true rfl) rfl ?_ ?_
  · rintro E _ ⟨hE, rfl⟩
    obtain ⟨hE, hk⟩ := hE
    have hk : t_isFixed C a0 = 1 := hk
    have hE : E = "java/lang/IndexOutOfBoundsException" := hE
    subst hE
    refine ⟨20, 21, ⟨[], (⟨0, 17, 20, 19⟩ : ExceptionTableEntry), _, "java/lang/IndexOutOfBoundsException", rfl, (fun z hz => by cases hz), by decide, by decide, (z_w 847 ((lwg_4 82).trans rfl) (by decide +kernel)), (z_wn 860 ((lwg_4 95).trans rfl) (by decide +kernel)), rfl⟩, Or.inr ⟨3, dL_isFixed_20, by decide, rfl⟩, ?_⟩
    refine j_iconst (v := 1) dL_isFixed_21 (by decide) ?_
    refine j_iret dL_isFixed_22 rfl rfl ?_ (Nat.le_of_ble_eq_true rfl) (Nat.le_of_ble_eq_true rfl)
    exact ⟨_, by rw [hk], by unfold k_isFixed; rw [if_neg (by rw [hk]; decide)]; exact LT, fun z => absurd (hk.symm.trans z) (by decide)⟩
  · rintro _ w1 ⟨hk, rfl, hW1, hh1⟩
    have hk : t_isFixed C a0 = 0 := hk
    have LT1 : z_LX x (k_isFixed C a0) M n w1 := LT.cls (by unfold k_isFixed; rw [if_pos hk]; exact hW1) (okk_isFixed _ LT.1.2) hh1
    refine j_if_eq (tgt := 13) dL_isFixed_6 (by decide) (fun c_6_19 => ?_) (fun c_6_19 => ?_)
    · refine j_lconst (v := 0) dL_isFixed_13 (by decide) ?_
      obtain ⟨-, -, ⟨ov66, og66⟩, -⟩ := id LT1
      refine j_put (w' := _) dL_isFixed_14 fL_13 tX9_0 og66 ⟨rfl, rfl⟩ rfl ?_
      refine j_seal (n := x) LT1.x1 ?_
      intro w2 u2
      have LT2 := LT1.out u2
      refine j_goto (tgt := 23) dL_isFixed_17 (by decide) ?_
      refine j_iconst (v := 0) dL_isFixed_23 (by decide) ?_
      refine j_iret dL_isFixed_24 rfl rfl ?_ (Nat.le_of_ble_eq_true rfl) (Nat.le_of_ble_eq_true rfl)
      first | exact ⟨_, by rw [hk], LT2, fun _ => by show _ = (z_bi _).toInt64; rw [z_bF c_6_19]; rfl⟩ | exact ⟨_, by rw [hk], LT2, fun _ => by show _ = (z_bi _).toInt64; rw [z_bt c_6_19]; rfl⟩
    · refine j_lconst (v := 1) dL_isFixed_9 (by decide) ?_
      refine j_goto (tgt := 14) dL_isFixed_10 (by decide) ?_
      obtain ⟨-, -, ⟨ov67, og67⟩, -⟩ := id LT1
      refine j_put (w' := _) dL_isFixed_14 fL_13 tX9_0 og67 ⟨rfl, rfl⟩ rfl ?_
      refine j_seal (n := x) LT1.x1 ?_
      intro w3 u3
      have LT3 := LT1.out u3
      refine j_goto (tgt := 23) dL_isFixed_17 (by decide) ?_
      refine j_iconst (v := 0) dL_isFixed_23 (by decide) ?_
      refine j_iret dL_isFixed_24 rfl rfl ?_ (Nat.le_of_ble_eq_true rfl) (Nat.le_of_ble_eq_true rfl)
      first | exact ⟨_, by rw [hk], LT3, fun _ => by show _ = (z_bi _).toInt64; rw [z_bF c_6_19]; rfl⟩ | exact ⟨_, by rw [hk], LT3, fun _ => by show _ = (z_bi _).toInt64; rw [z_bt c_6_19]; rfl⟩
set_option maxRecDepth 100000 in
set_option maxHeartbeats 4000000 in
theorem lw_counts (hl : l.stackTraces = false) (w : z_W) (x : Nat) (C M : sp_S) (n : Int64) (LT : z_LX x C M n w) (a0 : Int32) (a1 : Int32) : z_Con G l mL_counts 27 14 120 w [.ref 0, .int a0, .int a1, .ref x] (fun v w9 => ∃ n9 : Int64, v = some (.int (t_counts C a0 a1)) ∧ z_LX x (k_counts C a0 a1) M n9 w9 ∧ (t_counts C a0 a1 = 0 → n9 = (a_counts C a0 a1).toInt64)) (fun _ _ => False) := by
  refine z_bodyW hl (by decide) (by decide) (Nat.le_of_ble_eq_true rfl) ?_
  show z_J G l mL_counts _ 0 [(0, _), (1, _), (2, _), (3, _)] [] _ 0 0
  refine j_aload_n dL_counts_0 rfl rfl ?_
  refine j_aload_n dL_counts_1 rfl rfl ?_
  refine j_iload_n dL_counts_2 rfl ?_
  refine j_iload_n dL_counts_3 rfl ?_
  obtain ⟨fs68, gs68⟩ := LT.rc
  refine j_tryV (q := (RX8, TX8, 9)) dL_counts_4 kX8_counts lL_131 inX8_counts seX8_counts gs68 rfl (px_counts hl w C LT.1.1 LT.1.2 a0 a1) (Nat.le_of_ble_eq_true rfl) ⟨(Nat.le_of_ble_eq_true rfl), (Nat.le_of_ble_eq_true rfl)⟩ rfl (Nat.le_of_ble_eq_true rfl) rfl ?_ ?_
  · rintro E _ ⟨hE, rfl⟩
    rcases hE with hE | hE
    · obtain ⟨hE, hk⟩ := hE
      have hk : t_counts C a0 a1 = 1 := hk
      have hE : E = "java/lang/IndexOutOfBoundsException" := hE
      subst hE
      refine ⟨14, 16, ⟨[], (⟨0, 11, 14, 19⟩ : ExceptionTableEntry), _, "java/lang/IndexOutOfBoundsException", rfl, (fun z hz => by cases hz), by decide, by decide, (z_w 847 ((lwg_4 82).trans rfl) (by decide +kernel)), (z_wn 860 ((lwg_4 95).trans rfl) (by decide +kernel)), rfl⟩, Or.inl ⟨4, dL_counts_14, by decide, rfl⟩, ?_⟩
      refine j_iconst (v := 1) dL_counts_16 (by decide) ?_
      refine j_iret dL_counts_17 rfl rfl ?_ (Nat.le_of_ble_eq_true rfl) (Nat.le_of_ble_eq_true rfl)
      exact ⟨_, by rw [hk], by unfold k_counts; rw [if_neg (by rw [hk]; decide)]; exact LT, fun z => absurd (hk.symm.trans z) (by decide)⟩
    · obtain ⟨hE, hk⟩ := hE
      have hk : t_counts C a0 a1 = 2 := hk
      have hE : E = "java/lang/IllegalArgumentException" := hE
      subst hE
      refine ⟨18, 20, ⟨[(⟨0, 11, 14, 19⟩ : ExceptionTableEntry)], (⟨0, 11, 18, 21⟩ : ExceptionTableEntry), _, "java/lang/IllegalArgumentException", rfl, (fun z hz => by
          simp only [List.mem_cons, List.not_mem_nil, or_false] at hz
          rcases hz with rfl
          · exact Or.inr ⟨by decide, "java/lang/IndexOutOfBoundsException", (z_w 847 ((lwg_4 82).trans rfl) (by decide +kernel)), by decide⟩), by decide, by decide, (z_w 848 ((lwg_4 83).trans rfl) (by decide +kernel)), (z_wn 460 ((lwg_2 175).trans rfl) (by decide +kernel)), rfl⟩, Or.inl ⟨4, dL_counts_18, by decide, rfl⟩, ?_⟩
      refine j_iconst (v := 2) dL_counts_20 (by decide) ?_
      refine j_iret dL_counts_21 rfl rfl ?_ (Nat.le_of_ble_eq_true rfl) (Nat.le_of_ble_eq_true rfl)
      exact ⟨_, by rw [hk], by unfold k_counts; rw [if_neg (by rw [hk]; decide)]; exact LT, fun z => absurd (hk.symm.trans z) (by decide)⟩
  · rintro _ w1 ⟨hk, rfl, hW1, hh1⟩
    have hk : t_counts C a0 a1 = 0 := hk
    have LT1 : z_LX x (k_counts C a0 a1) M n w1 := LT.cls (by unfold k_counts; rw [if_pos hk]; exact hW1) (okk_counts _ _ LT.1.2) hh1
    refine j_i2l dL_counts_7 ?_
    obtain ⟨-, -, ⟨ov69, og69⟩, -⟩ := id LT1
    refine j_put (w' := _) dL_counts_8 fL_13 tX9_0 og69 ⟨rfl, rfl⟩ rfl ?_
    refine j_seal (n := x) LT1.x1 ?_
    intro w2 u2
    have LT2 := LT1.out u2
    refine j_goto (tgt := 22) dL_counts_11 (by decide) ?_
    refine j_iconst (v := 0) dL_counts_22 (by decide) ?_
    refine j_iret dL_counts_23 rfl rfl ?_ (Nat.le_of_ble_eq_true rfl) (Nat.le_of_ble_eq_true rfl)
    exact ⟨_, by rw [hk], LT2, fun _ => rfl⟩
set_option maxRecDepth 100000 in
set_option maxHeartbeats 4000000 in
theorem lw_shelfCounts (hl : l.stackTraces = false) (w : z_W) (x : Nat) (C M : sp_S) (n : Int64) (LT : z_LX x C M n w) (a0 : Int32) : z_Con G l mL_shelfCounts 27 14 120 w [.ref 0, .int a0, .ref x] (fun v w9 => ∃ n9 : Int64, v = some (.int (t_shelfCounts C a0)) ∧ z_LX x (k_shelfCounts C a0) M n9 w9 ∧ (t_shelfCounts C a0 = 0 → n9 = (a_shelfCounts C a0).toInt64)) (fun _ _ => False) := by
  refine z_bodyW hl (by decide) (by decide) (Nat.le_of_ble_eq_true rfl) ?_
  show z_J G l mL_shelfCounts _ 0 [(0, _), (1, _), (2, _)] [] _ 0 0
  refine j_aload_n dL_shelfCounts_0 rfl rfl ?_
  refine j_aload_n dL_shelfCounts_1 rfl rfl ?_
  refine j_iload_n dL_shelfCounts_2 rfl ?_
  obtain ⟨fs70, gs70⟩ := LT.rc
  refine j_tryV (q := (RX8, TX8, 9)) dL_shelfCounts_3 kX8_shelfCounts lL_134 inX8_shelfCounts seX8_shelfCounts gs70 rfl (px_shelfCounts hl w C LT.1.1 LT.1.2 a0) (Nat.le_of_ble_eq_true rfl) ⟨(Nat.le_of_ble_eq_true rfl), (Nat.le_of_ble_eq_true rfl)⟩ rfl (Nat.le_of_ble_eq_true rfl) rfl ?_ ?_
  · rintro E _ ⟨hE, rfl⟩
    obtain ⟨hE, hk⟩ := hE
    have hk : t_shelfCounts C a0 = 1 := hk
    have hE : E = "java/lang/IllegalArgumentException" := hE
    subst hE
    refine ⟨13, 14, ⟨[], (⟨0, 10, 13, 21⟩ : ExceptionTableEntry), _, "java/lang/IllegalArgumentException", rfl, (fun z hz => by cases hz), by decide, by decide, (z_w 848 ((lwg_4 83).trans rfl) (by decide +kernel)), (z_wn 460 ((lwg_2 175).trans rfl) (by decide +kernel)), rfl⟩, Or.inr ⟨3, dL_shelfCounts_13, by decide, rfl⟩, ?_⟩
    refine j_iconst (v := 1) dL_shelfCounts_14 (by decide) ?_
    refine j_iret dL_shelfCounts_15 rfl rfl ?_ (Nat.le_of_ble_eq_true rfl) (Nat.le_of_ble_eq_true rfl)
    exact ⟨_, by rw [hk], by unfold k_shelfCounts; rw [if_neg (by rw [hk]; decide)]; exact LT, fun z => absurd (hk.symm.trans z) (by decide)⟩
  · rintro _ w1 ⟨hk, rfl, hW1, hh1⟩
    have hk : t_shelfCounts C a0 = 0 := hk
    have LT1 : z_LX x (k_shelfCounts C a0) M n w1 := LT.cls (by unfold k_shelfCounts; rw [if_pos hk]; exact hW1) (okk_shelfCounts _ LT.1.2) hh1
    refine j_i2l dL_shelfCounts_6 ?_
    obtain ⟨-, -, ⟨ov71, og71⟩, -⟩ := id LT1
    refine j_put (w' := _) dL_shelfCounts_7 fL_13 tX9_0 og71 ⟨rfl, rfl⟩ rfl ?_
    refine j_seal (n := x) LT1.x1 ?_
    intro w2 u2
    have LT2 := LT1.out u2
    refine j_goto (tgt := 16) dL_shelfCounts_10 (by decide) ?_
    refine j_iconst (v := 0) dL_shelfCounts_16 (by decide) ?_
    refine j_iret dL_shelfCounts_17 rfl rfl ?_ (Nat.le_of_ble_eq_true rfl) (Nat.le_of_ble_eq_true rfl)
    exact ⟨_, by rw [hk], LT2, fun _ => rfl⟩
set_option maxRecDepth 100000 in
set_option maxHeartbeats 4000000 in
theorem lw_get (hl : l.stackTraces = false) (w : z_W) (x : Nat) (C M : sp_S) (n : Int64) (LT : z_LX x C M n w) (a0 : Int32) (a1 : Int32) : z_Con G l mL_get 27 14 120 w [.ref 0, .int a0, .int a1, .ref x] (fun v w9 => ∃ n9 : Int64, v = some (.int (t_get C a0 a1)) ∧ z_LX x (k_get C a0 a1) M n9 w9 ∧ (t_get C a0 a1 = 0 → n9 = (a_get C a0 a1).toInt64)) (fun _ _ => False) := by
  refine z_bodyW hl (by decide) (by decide) (Nat.le_of_ble_eq_true rfl) ?_
  show z_J G l mL_get _ 0 [(0, _), (1, _), (2, _), (3, _)] [] _ 0 0
  refine j_aload_n dL_get_0 rfl rfl ?_
  refine j_aload_n dL_get_1 rfl rfl ?_
  refine j_iload_n dL_get_2 rfl ?_
  refine j_iload_n dL_get_3 rfl ?_
  obtain ⟨fs72, gs72⟩ := LT.rc
  refine j_tryV (q := (RX8, TX8, 9)) dL_get_4 kX8_get lL_137 inX8_get seX8_get gs72 rfl (px_get hl w C LT.1.1 LT.1.2 a0 a1) (Nat.le_of_ble_eq_true rfl) ⟨(Nat.le_of_ble_eq_true rfl), (Nat.le_of_ble_eq_true rfl)⟩ rfl (Nat.le_of_ble_eq_true rfl) rfl ?_ ?_
  · rintro E _ ⟨hE, rfl⟩
    rcases hE with hE | hE
    · obtain ⟨hE, hk⟩ := hE
      have hk : t_get C a0 a1 = 1 := hk
      have hE : E = "java/lang/IndexOutOfBoundsException" := hE
      subst hE
      refine ⟨14, 16, ⟨[], (⟨0, 11, 14, 19⟩ : ExceptionTableEntry), _, "java/lang/IndexOutOfBoundsException", rfl, (fun z hz => by cases hz), by decide, by decide, (z_w 847 ((lwg_4 82).trans rfl) (by decide +kernel)), (z_wn 860 ((lwg_4 95).trans rfl) (by decide +kernel)), rfl⟩, Or.inl ⟨4, dL_get_14, by decide, rfl⟩, ?_⟩
      refine j_iconst (v := 1) dL_get_16 (by decide) ?_
      refine j_iret dL_get_17 rfl rfl ?_ (Nat.le_of_ble_eq_true rfl) (Nat.le_of_ble_eq_true rfl)
      exact ⟨_, by rw [hk], by unfold k_get; rw [if_neg (by rw [hk]; decide)]; exact LT, fun z => absurd (hk.symm.trans z) (by decide)⟩
    · obtain ⟨hE, hk⟩ := hE
      have hk : t_get C a0 a1 = 2 := hk
      have hE : E = "java/lang/IllegalArgumentException" := hE
      subst hE
      refine ⟨18, 20, ⟨[(⟨0, 11, 14, 19⟩ : ExceptionTableEntry)], (⟨0, 11, 18, 21⟩ : ExceptionTableEntry), _, "java/lang/IllegalArgumentException", rfl, (fun z hz => by
          simp only [List.mem_cons, List.not_mem_nil, or_false] at hz
          rcases hz with rfl
          · exact Or.inr ⟨by decide, "java/lang/IndexOutOfBoundsException", (z_w 847 ((lwg_4 82).trans rfl) (by decide +kernel)), by decide⟩), by decide, by decide, (z_w 848 ((lwg_4 83).trans rfl) (by decide +kernel)), (z_wn 460 ((lwg_2 175).trans rfl) (by decide +kernel)), rfl⟩, Or.inl ⟨4, dL_get_18, by decide, rfl⟩, ?_⟩
      refine j_iconst (v := 2) dL_get_20 (by decide) ?_
      refine j_iret dL_get_21 rfl rfl ?_ (Nat.le_of_ble_eq_true rfl) (Nat.le_of_ble_eq_true rfl)
      exact ⟨_, by rw [hk], by unfold k_get; rw [if_neg (by rw [hk]; decide)]; exact LT, fun z => absurd (hk.symm.trans z) (by decide)⟩
  · rintro _ w1 ⟨hk, rfl, hW1, hh1⟩
    have hk : t_get C a0 a1 = 0 := hk
    have LT1 : z_LX x (k_get C a0 a1) M n w1 := LT.cls (by unfold k_get; rw [if_pos hk]; exact hW1) (okk_get _ _ LT.1.2) hh1
    refine j_i2l dL_get_7 ?_
    obtain ⟨-, -, ⟨ov73, og73⟩, -⟩ := id LT1
    refine j_put (w' := _) dL_get_8 fL_13 tX9_0 og73 ⟨rfl, rfl⟩ rfl ?_
    refine j_seal (n := x) LT1.x1 ?_
    intro w2 u2
    have LT2 := LT1.out u2
    refine j_goto (tgt := 22) dL_get_11 (by decide) ?_
    refine j_iconst (v := 0) dL_get_22 (by decide) ?_
    refine j_iret dL_get_23 rfl rfl ?_ (Nat.le_of_ble_eq_true rfl) (Nat.le_of_ble_eq_true rfl)
    exact ⟨_, by rw [hk], LT2, fun _ => rfl⟩
set_option maxRecDepth 100000 in
set_option maxHeartbeats 4000000 in
theorem lw_getOr (hl : l.stackTraces = false) (w : z_W) (x : Nat) (C M : sp_S) (n : Int64) (LT : z_LX x C M n w) (a0 : Int32) (a1 : Int32) (a2 : Int32) : z_Con G l mL_getOr 27 14 120 w [.ref 0, .int a0, .int a1, .int a2, .ref x] (fun v w9 => ∃ n9 : Int64, v = some (.int (t_getOr C a0 a1 a2)) ∧ z_LX x (k_getOr C a0 a1 a2) M n9 w9 ∧ (t_getOr C a0 a1 a2 = 0 → n9 = (a_getOr C a0 a1 a2).toInt64)) (fun _ _ => False) := by
  refine z_bodyW hl (by decide) (by decide) (Nat.le_of_ble_eq_true rfl) ?_
  show z_J G l mL_getOr _ 0 [(0, _), (1, _), (2, _), (3, _), (4, _)] [] _ 0 0
  refine j_aload dL_getOr_0 rfl rfl ?_
  refine j_aload_n dL_getOr_2 rfl rfl ?_
  refine j_iload_n dL_getOr_3 rfl ?_
  refine j_iload_n dL_getOr_4 rfl ?_
  refine j_iload_n dL_getOr_5 rfl ?_
  obtain ⟨fs74, gs74⟩ := LT.rc
  refine j_tryV (q := (RX8, TX8, 9)) dL_getOr_6 kX8_getOr lL_140 inX8_getOr seX8_getOr gs74 rfl (px_getOr hl w C LT.1.1 LT.1.2 a0 a1 a2) (Nat.le_of_ble_eq_true rfl) ⟨(Nat.le_of_ble_eq_true rfl), (Nat.le_of_ble_eq_true rfl)⟩ rfl (Nat.le_of_ble_eq_true rfl) rfl ?_ ?_
  · rintro E _ ⟨hE, rfl⟩
    rcases hE with hE | hE
    · obtain ⟨hE, hk⟩ := hE
      have hk : t_getOr C a0 a1 a2 = 1 := hk
      have hE : E = "java/lang/IndexOutOfBoundsException" := hE
      subst hE
      refine ⟨16, 18, ⟨[], (⟨0, 13, 16, 19⟩ : ExceptionTableEntry), _, "java/lang/IndexOutOfBoundsException", rfl, (fun z hz => by cases hz), by decide, by decide, (z_w 847 ((lwg_4 82).trans rfl) (by decide +kernel)), (z_wn 860 ((lwg_4 95).trans rfl) (by decide +kernel)), rfl⟩, Or.inl ⟨5, dL_getOr_16, by decide, rfl⟩, ?_⟩
      refine j_iconst (v := 1) dL_getOr_18 (by decide) ?_
      refine j_iret dL_getOr_19 rfl rfl ?_ (Nat.le_of_ble_eq_true rfl) (Nat.le_of_ble_eq_true rfl)
      exact ⟨_, by rw [hk], by unfold k_getOr; rw [if_neg (by rw [hk]; decide)]; exact LT, fun z => absurd (hk.symm.trans z) (by decide)⟩
    · obtain ⟨hE, hk⟩ := hE
      have hk : t_getOr C a0 a1 a2 = 2 := hk
      have hE : E = "java/lang/IllegalArgumentException" := hE
      subst hE
      refine ⟨20, 22, ⟨[(⟨0, 13, 16, 19⟩ : ExceptionTableEntry)], (⟨0, 13, 20, 21⟩ : ExceptionTableEntry), _, "java/lang/IllegalArgumentException", rfl, (fun z hz => by
          simp only [List.mem_cons, List.not_mem_nil, or_false] at hz
          rcases hz with rfl
          · exact Or.inr ⟨by decide, "java/lang/IndexOutOfBoundsException", (z_w 847 ((lwg_4 82).trans rfl) (by decide +kernel)), by decide⟩), by decide, by decide, (z_w 848 ((lwg_4 83).trans rfl) (by decide +kernel)), (z_wn 460 ((lwg_2 175).trans rfl) (by decide +kernel)), rfl⟩, Or.inl ⟨5, dL_getOr_20, by decide, rfl⟩, ?_⟩
      refine j_iconst (v := 2) dL_getOr_22 (by decide) ?_
      refine j_iret dL_getOr_23 rfl rfl ?_ (Nat.le_of_ble_eq_true rfl) (Nat.le_of_ble_eq_true rfl)
      exact ⟨_, by rw [hk], by unfold k_getOr; rw [if_neg (by rw [hk]; decide)]; exact LT, fun z => absurd (hk.symm.trans z) (by decide)⟩
  · rintro _ w1 ⟨hk, rfl, hW1, hh1⟩
    have hk : t_getOr C a0 a1 a2 = 0 := hk
    have LT1 : z_LX x (k_getOr C a0 a1 a2) M n w1 := LT.cls (by unfold k_getOr; rw [if_pos hk]; exact hW1) (okk_getOr _ _ _ LT.1.2) hh1
    refine j_i2l dL_getOr_9 ?_
    obtain ⟨-, -, ⟨ov75, og75⟩, -⟩ := id LT1
    refine j_put (w' := _) dL_getOr_10 fL_13 tX9_0 og75 ⟨rfl, rfl⟩ rfl ?_
    refine j_seal (n := x) LT1.x1 ?_
    intro w2 u2
    have LT2 := LT1.out u2
    refine j_goto (tgt := 24) dL_getOr_13 (by decide) ?_
    refine j_iconst (v := 0) dL_getOr_24 (by decide) ?_
    refine j_iret dL_getOr_25 rfl rfl ?_ (Nat.le_of_ble_eq_true rfl) (Nat.le_of_ble_eq_true rfl)
    exact ⟨_, by rw [hk], LT2, fun _ => rfl⟩
set_option maxRecDepth 100000 in
set_option maxHeartbeats 4000000 in
theorem lw_has (hl : l.stackTraces = false) (w : z_W) (x : Nat) (C M : sp_S) (n : Int64) (LT : z_LX x C M n w) (a0 : Int32) (a1 : Int32) : z_Con G l mL_has 27 14 120 w [.ref 0, .int a0, .int a1, .ref x] (fun v w9 => ∃ n9 : Int64, v = some (.int (t_has C a0 a1)) ∧ z_LX x (k_has C a0 a1) M n9 w9 ∧ (t_has C a0 a1 = 0 → n9 = (a_has C a0 a1).toInt64)) (fun _ _ => False) := by
  refine z_bodyW hl (by decide) (by decide) (Nat.le_of_ble_eq_true rfl) ?_
  show z_J G l mL_has _ 0 [(0, _), (1, _), (2, _), (3, _)] [] _ 0 0
  refine j_aload_n dL_has_0 rfl rfl ?_
  refine j_aload_n dL_has_1 rfl rfl ?_
  refine j_iload_n dL_has_2 rfl ?_
  refine j_iload_n dL_has_3 rfl ?_
  obtain ⟨fs76, gs76⟩ := LT.rc
  refine j_tryV (q := (RX8, TX8, 9)) dL_has_4 kX8_has lL_143 inX8_has seX8_has gs76 rfl (px_has hl w C LT.1.1 LT.1.2 a0 a1) (Nat.le_of_ble_eq_true rfl) ⟨(Nat.le_of_ble_eq_true rfl), (Nat.le_of_ble_eq_true rfl)⟩ rfl (Nat.le_of_ble_eq_true rfl) rfl ?_ ?_
  · rintro E _ ⟨hE, rfl⟩
    rcases hE with hE | hE
    · obtain ⟨hE, hk⟩ := hE
      have hk : t_has C a0 a1 = 1 := hk
      have hE : E = "java/lang/IndexOutOfBoundsException" := hE
      subst hE
      refine ⟨21, 23, ⟨[], (⟨0, 18, 21, 19⟩ : ExceptionTableEntry), _, "java/lang/IndexOutOfBoundsException", rfl, (fun z hz => by cases hz), by decide, by decide, (z_w 847 ((lwg_4 82).trans rfl) (by decide +kernel)), (z_wn 860 ((lwg_4 95).trans rfl) (by decide +kernel)), rfl⟩, Or.inl ⟨4, dL_has_21, by decide, rfl⟩, ?_⟩
      refine j_iconst (v := 1) dL_has_23 (by decide) ?_
      refine j_iret dL_has_24 rfl rfl ?_ (Nat.le_of_ble_eq_true rfl) (Nat.le_of_ble_eq_true rfl)
      exact ⟨_, by rw [hk], by unfold k_has; rw [if_neg (by rw [hk]; decide)]; exact LT, fun z => absurd (hk.symm.trans z) (by decide)⟩
    · obtain ⟨hE, hk⟩ := hE
      have hk : t_has C a0 a1 = 2 := hk
      have hE : E = "java/lang/IllegalArgumentException" := hE
      subst hE
      refine ⟨25, 27, ⟨[(⟨0, 18, 21, 19⟩ : ExceptionTableEntry)], (⟨0, 18, 25, 21⟩ : ExceptionTableEntry), _, "java/lang/IllegalArgumentException", rfl, (fun z hz => by
          simp only [List.mem_cons, List.not_mem_nil, or_false] at hz
          rcases hz with rfl
          · exact Or.inr ⟨by decide, "java/lang/IndexOutOfBoundsException", (z_w 847 ((lwg_4 82).trans rfl) (by decide +kernel)), by decide⟩), by decide, by decide, (z_w 848 ((lwg_4 83).trans rfl) (by decide +kernel)), (z_wn 460 ((lwg_2 175).trans rfl) (by decide +kernel)), rfl⟩, Or.inl ⟨4, dL_has_25, by decide, rfl⟩, ?_⟩
      refine j_iconst (v := 2) dL_has_27 (by decide) ?_
      refine j_iret dL_has_28 rfl rfl ?_ (Nat.le_of_ble_eq_true rfl) (Nat.le_of_ble_eq_true rfl)
      exact ⟨_, by rw [hk], by unfold k_has; rw [if_neg (by rw [hk]; decide)]; exact LT, fun z => absurd (hk.symm.trans z) (by decide)⟩
  · rintro _ w1 ⟨hk, rfl, hW1, hh1⟩
    have hk : t_has C a0 a1 = 0 := hk
    have LT1 : z_LX x (k_has C a0 a1) M n w1 := LT.cls (by unfold k_has; rw [if_pos hk]; exact hW1) (okk_has _ _ LT.1.2) hh1
    refine j_if_eq (tgt := 14) dL_has_7 (by decide) (fun c_7_29 => ?_) (fun c_7_29 => ?_)
    · refine j_lconst (v := 0) dL_has_14 (by decide) ?_
      obtain ⟨-, -, ⟨ov77, og77⟩, -⟩ := id LT1
      refine j_put (w' := _) dL_has_15 fL_13 tX9_0 og77 ⟨rfl, rfl⟩ rfl ?_
      refine j_seal (n := x) LT1.x1 ?_
      intro w2 u2
      have LT2 := LT1.out u2
      refine j_goto (tgt := 29) dL_has_18 (by decide) ?_
      refine j_iconst (v := 0) dL_has_29 (by decide) ?_
      refine j_iret dL_has_30 rfl rfl ?_ (Nat.le_of_ble_eq_true rfl) (Nat.le_of_ble_eq_true rfl)
      first | exact ⟨_, by rw [hk], LT2, fun _ => by show _ = (z_bi _).toInt64; rw [z_bF c_7_29]; rfl⟩ | exact ⟨_, by rw [hk], LT2, fun _ => by show _ = (z_bi _).toInt64; rw [z_bt c_7_29]; rfl⟩
    · refine j_lconst (v := 1) dL_has_10 (by decide) ?_
      refine j_goto (tgt := 15) dL_has_11 (by decide) ?_
      obtain ⟨-, -, ⟨ov78, og78⟩, -⟩ := id LT1
      refine j_put (w' := _) dL_has_15 fL_13 tX9_0 og78 ⟨rfl, rfl⟩ rfl ?_
      refine j_seal (n := x) LT1.x1 ?_
      intro w3 u3
      have LT3 := LT1.out u3
      refine j_goto (tgt := 29) dL_has_18 (by decide) ?_
      refine j_iconst (v := 0) dL_has_29 (by decide) ?_
      refine j_iret dL_has_30 rfl rfl ?_ (Nat.le_of_ble_eq_true rfl) (Nat.le_of_ble_eq_true rfl)
      first | exact ⟨_, by rw [hk], LT3, fun _ => by show _ = (z_bi _).toInt64; rw [z_bF c_7_29]; rfl⟩ | exact ⟨_, by rw [hk], LT3, fun _ => by show _ = (z_bi _).toInt64; rw [z_bt c_7_29]; rfl⟩
set_option maxRecDepth 100000 in
set_option maxHeartbeats 4000000 in
theorem lw_size (hl : l.stackTraces = false) (w : z_W) (x : Nat) (C M : sp_S) (n : Int64) (LT : z_LX x C M n w) (a0 : Int32) : z_Con G l mL_size 27 14 120 w [.ref 0, .int a0, .ref x] (fun v w9 => ∃ n9 : Int64, v = some (.int (t_size C a0)) ∧ z_LX x (k_size C a0) M n9 w9 ∧ (t_size C a0 = 0 → n9 = (a_size C a0).toInt64)) (fun _ _ => False) := by
  refine z_bodyW hl (by decide) (by decide) (Nat.le_of_ble_eq_true rfl) ?_
  show z_J G l mL_size _ 0 [(0, _), (1, _), (2, _)] [] _ 0 0
  refine j_aload_n dL_size_0 rfl rfl ?_
  refine j_aload_n dL_size_1 rfl rfl ?_
  refine j_iload_n dL_size_2 rfl ?_
  obtain ⟨fs79, gs79⟩ := LT.rc
  refine j_tryV (q := (RX8, TX8, 9)) dL_size_3 kX8_size lL_147 inX8_size seX8_size gs79 rfl (px_size hl w C LT.1.1 LT.1.2 a0) (Nat.le_of_ble_eq_true rfl) ⟨(Nat.le_of_ble_eq_true rfl), (Nat.le_of_ble_eq_true rfl)⟩ rfl (Nat.le_of_ble_eq_true rfl) rfl ?_ ?_
  · rintro E _ ⟨hE, rfl⟩
    obtain ⟨hE, hk⟩ := hE
    have hk : t_size C a0 = 1 := hk
    have hE : E = "java/lang/IndexOutOfBoundsException" := hE
    subst hE
    refine ⟨13, 14, ⟨[], (⟨0, 10, 13, 19⟩ : ExceptionTableEntry), _, "java/lang/IndexOutOfBoundsException", rfl, (fun z hz => by cases hz), by decide, by decide, (z_w 847 ((lwg_4 82).trans rfl) (by decide +kernel)), (z_wn 860 ((lwg_4 95).trans rfl) (by decide +kernel)), rfl⟩, Or.inr ⟨3, dL_size_13, by decide, rfl⟩, ?_⟩
    refine j_iconst (v := 1) dL_size_14 (by decide) ?_
    refine j_iret dL_size_15 rfl rfl ?_ (Nat.le_of_ble_eq_true rfl) (Nat.le_of_ble_eq_true rfl)
    exact ⟨_, by rw [hk], by unfold k_size; rw [if_neg (by rw [hk]; decide)]; exact LT, fun z => absurd (hk.symm.trans z) (by decide)⟩
  · rintro _ w1 ⟨hk, rfl, hW1, hh1⟩
    have hk : t_size C a0 = 0 := hk
    have LT1 : z_LX x (k_size C a0) M n w1 := LT.cls (by unfold k_size; rw [if_pos hk]; exact hW1) (okk_size _ LT.1.2) hh1
    refine j_i2l dL_size_6 ?_
    obtain ⟨-, -, ⟨ov80, og80⟩, -⟩ := id LT1
    refine j_put (w' := _) dL_size_7 fL_13 tX9_0 og80 ⟨rfl, rfl⟩ rfl ?_
    refine j_seal (n := x) LT1.x1 ?_
    intro w2 u2
    have LT2 := LT1.out u2
    refine j_goto (tgt := 16) dL_size_10 (by decide) ?_
    refine j_iconst (v := 0) dL_size_16 (by decide) ?_
    refine j_iret dL_size_17 rfl rfl ?_ (Nat.le_of_ble_eq_true rfl) (Nat.le_of_ble_eq_true rfl)
    exact ⟨_, by rw [hk], LT2, fun _ => rfl⟩
set_option maxRecDepth 100000 in
set_option maxHeartbeats 4000000 in
theorem lw_text (hl : l.stackTraces = false) (w : z_W) (x : Nat) (C M : sp_S) (n : Int64) (LT : z_LX x C M n w) (a0 : Int32) : z_Con G l mL_text 27 68 2460 w [.ref 0, .int a0, .ref x] (fun v w9 => ∃ (r : Int32) (n9 : Int64), v = some (.int r) ∧ z_LX x C M n9 w9) (fun _ _ => False) := by
  obtain ⟨kn, xa, xb, b0, b1, hWk⟩ := LT.1.1.Wk
  refine z_bodyW hl (by decide) (by decide) (Nat.le_of_ble_eq_true rfl) ?_
  show z_J G l mL_text _ 0 [(0, _), (1, _), (2, _)] [] _ 0 0
  refine j_aload_n dL_text_0 rfl rfl ?_
  refine j_aload_n dL_text_1 rfl rfl ?_
  refine j_iload_n dL_text_2 rfl ?_
  obtain ⟨fs81, gs81⟩ := LT.rc
  refine j_tryV (q := (RX8, TX8, 9)) dL_text_3 kX8_text lL_150 inX8_text seX8_text gs81 rfl (pt_text hl w kn xa xb b0 b1 a0 hWk LT.fn) (Nat.le_of_ble_eq_true rfl) ⟨(Nat.le_of_ble_eq_true rfl), (Nat.le_of_ble_eq_true rfl)⟩ rfl (Nat.le_of_ble_eq_true rfl) rfl ?_ ?_
  · rintro E w1 ⟨hE, hW1, hh1⟩
    have hE : E = "java/lang/IndexOutOfBoundsException" := hE
    subst hE
    refine ⟨12, 13, ⟨[], (⟨0, 9, 12, 19⟩ : ExceptionTableEntry), _, "java/lang/IndexOutOfBoundsException", rfl, (fun z hz => by cases hz), by decide, by decide, (z_w 847 ((lwg_4 82).trans rfl) (by decide +kernel)), (z_wn 860 ((lwg_4 95).trans rfl) (by decide +kernel)), rfl⟩, Or.inr ⟨3, dL_text_12, by decide, rfl⟩, ?_⟩
    refine j_iconst (v := 1) dL_text_13 (by decide) ?_
    refine j_iret dL_text_14 rfl rfl ?_ (Nat.le_of_ble_eq_true rfl) (Nat.le_of_ble_eq_true rfl)
    exact ⟨_, _, rfl, LT.cls (by rw [hW1]; exact LT.1.1) LT.1.2 hh1⟩
  · rintro _ w1 ⟨x1, rfl, hW1, hh1⟩
    have LT1 := LT.cls (by rw [hW1]; exact LT.1.1) LT.1.2 hh1
    obtain ⟨-, -, ⟨ov82, og82⟩, -⟩ := id LT1
    refine j_put (w' := _) dL_text_6 fL_114 tX9_1 og82 (Or.inl ⟨_, rfl⟩) rfl ?_
    refine j_seal (n := x) LT1.x1 ?_
    intro w2 u2
    have LT2 := LT1.out u2
    refine j_goto (tgt := 15) dL_text_9 (by decide) ?_
    refine j_iconst (v := 0) dL_text_15 (by decide) ?_
    refine j_iret dL_text_16 rfl rfl ?_ (Nat.le_of_ble_eq_true rfl) (Nat.le_of_ble_eq_true rfl)
    exact ⟨_, _, rfl, LT2⟩
set_option maxRecDepth 100000 in
set_option maxHeartbeats 4000000 in
theorem lw_areLike (hl : l.stackTraces = false) (w : z_W) (x : Nat) (C M : sp_S) (n : Int64) (LT : z_LX x C M n w) (a0 : Int32) (a1 : Int32) : z_Con G l mL_areLike 27 14 120 w [.ref 0, .int a0, .int a1, .ref x] (fun v w9 => ∃ n9 : Int64, v = some (.int (t_areLike C a0 a1)) ∧ z_LX x (k_areLike C a0 a1) M n9 w9 ∧ (t_areLike C a0 a1 = 0 → n9 = (a_areLike C a0 a1).toInt64)) (fun _ _ => False) := by
  refine z_bodyW hl (by decide) (by decide) (Nat.le_of_ble_eq_true rfl) ?_
  show z_J G l mL_areLike _ 0 [(0, _), (1, _), (2, _), (3, _)] [] _ 0 0
  refine j_aload_n dL_areLike_0 rfl rfl ?_
  refine j_aload_n dL_areLike_1 rfl rfl ?_
  refine j_iload_n dL_areLike_2 rfl ?_
  refine j_iload_n dL_areLike_3 rfl ?_
  obtain ⟨fs83, gs83⟩ := LT.rc
  refine j_tryV (q := (RX8, TX8, 9)) dL_areLike_4 kX8_areLike lL_153 inX8_areLike seX8_areLike gs83 rfl (px_areLike hl w C LT.1.1 LT.1.2 a0 a1) (Nat.le_of_ble_eq_true rfl) ⟨(Nat.le_of_ble_eq_true rfl), (Nat.le_of_ble_eq_true rfl)⟩ rfl (Nat.le_of_ble_eq_true rfl) rfl ?_ ?_
  · rintro E _ ⟨hE, rfl⟩
    obtain ⟨hE, hk⟩ := hE
    have hk : t_areLike C a0 a1 = 1 := hk
    have hE : E = "java/lang/IndexOutOfBoundsException" := hE
    subst hE
    refine ⟨21, 23, ⟨[], (⟨0, 18, 21, 19⟩ : ExceptionTableEntry), _, "java/lang/IndexOutOfBoundsException", rfl, (fun z hz => by cases hz), by decide, by decide, (z_w 847 ((lwg_4 82).trans rfl) (by decide +kernel)), (z_wn 860 ((lwg_4 95).trans rfl) (by decide +kernel)), rfl⟩, Or.inl ⟨4, dL_areLike_21, by decide, rfl⟩, ?_⟩
    refine j_iconst (v := 1) dL_areLike_23 (by decide) ?_
    refine j_iret dL_areLike_24 rfl rfl ?_ (Nat.le_of_ble_eq_true rfl) (Nat.le_of_ble_eq_true rfl)
    exact ⟨_, by rw [hk], by unfold k_areLike; rw [if_neg (by rw [hk]; decide)]; exact LT, fun z => absurd (hk.symm.trans z) (by decide)⟩
  · rintro _ w1 ⟨hk, rfl, hW1, hh1⟩
    have hk : t_areLike C a0 a1 = 0 := hk
    have LT1 : z_LX x (k_areLike C a0 a1) M n w1 := LT.cls (by unfold k_areLike; rw [if_pos hk]; exact hW1) (okk_areLike _ _ LT.1.2) hh1
    refine j_if_eq (tgt := 14) dL_areLike_7 (by decide) (fun c_7_20 => ?_) (fun c_7_20 => ?_)
    · refine j_lconst (v := 0) dL_areLike_14 (by decide) ?_
      obtain ⟨-, -, ⟨ov84, og84⟩, -⟩ := id LT1
      refine j_put (w' := _) dL_areLike_15 fL_13 tX9_0 og84 ⟨rfl, rfl⟩ rfl ?_
      refine j_seal (n := x) LT1.x1 ?_
      intro w2 u2
      have LT2 := LT1.out u2
      refine j_goto (tgt := 25) dL_areLike_18 (by decide) ?_
      refine j_iconst (v := 0) dL_areLike_25 (by decide) ?_
      refine j_iret dL_areLike_26 rfl rfl ?_ (Nat.le_of_ble_eq_true rfl) (Nat.le_of_ble_eq_true rfl)
      first | exact ⟨_, by rw [hk], LT2, fun _ => by show _ = (z_bi _).toInt64; rw [z_bF c_7_20]; rfl⟩ | exact ⟨_, by rw [hk], LT2, fun _ => by show _ = (z_bi _).toInt64; rw [z_bt c_7_20]; rfl⟩
    · refine j_lconst (v := 1) dL_areLike_10 (by decide) ?_
      refine j_goto (tgt := 15) dL_areLike_11 (by decide) ?_
      obtain ⟨-, -, ⟨ov85, og85⟩, -⟩ := id LT1
      refine j_put (w' := _) dL_areLike_15 fL_13 tX9_0 og85 ⟨rfl, rfl⟩ rfl ?_
      refine j_seal (n := x) LT1.x1 ?_
      intro w3 u3
      have LT3 := LT1.out u3
      refine j_goto (tgt := 25) dL_areLike_18 (by decide) ?_
      refine j_iconst (v := 0) dL_areLike_25 (by decide) ?_
      refine j_iret dL_areLike_26 rfl rfl ?_ (Nat.le_of_ble_eq_true rfl) (Nat.le_of_ble_eq_true rfl)
      first | exact ⟨_, by rw [hk], LT3, fun _ => by show _ = (z_bi _).toInt64; rw [z_bF c_7_20]; rfl⟩ | exact ⟨_, by rw [hk], LT3, fun _ => by show _ = (z_bi _).toInt64; rw [z_bt c_7_20]; rfl⟩
set_option maxRecDepth 100000 in
set_option maxHeartbeats 4000000 in
theorem lw_given (hl : l.stackTraces = false) (w : z_W) (x : Nat) (C M : sp_S) (n : Int64) (LT : z_LX x C M n w) (a0 : Int32) (a1 : Int32) (a2 : Int32) (a3 : Int32) : z_Con G l mL_given 27 14 120 w [.ref 0, .int a0, .int a1, .int a2, .int a3, .ref x] (fun v w9 => ∃ n9 : Int64, v = some (.int (t_given C a0 a1 a2 a3)) ∧ z_LX x (k_given C a0 a1 a2 a3) M n9 w9 ∧ (t_given C a0 a1 a2 a3 = 0 → n9 = (a_given C a0 a1 a2 a3).toInt64)) (fun _ _ => False) := by
  refine z_bodyW hl (by decide) (by decide) (Nat.le_of_ble_eq_true rfl) ?_
  show z_J G l mL_given _ 0 [(0, _), (1, _), (2, _), (3, _), (4, _), (5, _)] [] _ 0 0
  refine j_aload dL_given_0 rfl rfl ?_
  refine j_aload_n dL_given_2 rfl rfl ?_
  refine j_iload_n dL_given_3 rfl ?_
  refine j_iload_n dL_given_4 rfl ?_
  refine j_iload_n dL_given_5 rfl ?_
  refine j_iload dL_given_6 rfl ?_
  obtain ⟨fs86, gs86⟩ := LT.rc
  refine j_tryV (q := (RX8, TX8, 9)) dL_given_8 kX8_given lL_156 inX8_given seX8_given gs86 rfl (px_given hl w C LT.1.1 LT.1.2 a0 a1 a2 a3) (Nat.le_of_ble_eq_true rfl) ⟨(Nat.le_of_ble_eq_true rfl), (Nat.le_of_ble_eq_true rfl)⟩ rfl (Nat.le_of_ble_eq_true rfl) rfl ?_ ?_
  · rintro E _ ⟨hE, rfl⟩
    obtain ⟨hE, hk⟩ := hE
    have hk : t_given C a0 a1 a2 a3 = 1 := hk
    have hE : E = "java/lang/IllegalArgumentException" := hE
    subst hE
    refine ⟨18, 20, ⟨[], (⟨0, 15, 18, 21⟩ : ExceptionTableEntry), _, "java/lang/IllegalArgumentException", rfl, (fun z hz => by cases hz), by decide, by decide, (z_w 848 ((lwg_4 83).trans rfl) (by decide +kernel)), (z_wn 460 ((lwg_2 175).trans rfl) (by decide +kernel)), rfl⟩, Or.inl ⟨6, dL_given_18, by decide, rfl⟩, ?_⟩
    refine j_iconst (v := 1) dL_given_20 (by decide) ?_
    refine j_iret dL_given_21 rfl rfl ?_ (Nat.le_of_ble_eq_true rfl) (Nat.le_of_ble_eq_true rfl)
    exact ⟨_, by rw [hk], by unfold k_given; rw [if_neg (by rw [hk]; decide)]; exact LT, fun z => absurd (hk.symm.trans z) (by decide)⟩
  · rintro _ w1 ⟨hk, rfl, hW1, hh1⟩
    have hk : t_given C a0 a1 a2 a3 = 0 := hk
    have LT1 : z_LX x (k_given C a0 a1 a2 a3) M n w1 := LT.cls (by unfold k_given; rw [if_pos hk]; exact hW1) (okk_given _ _ _ _ LT.1.2) hh1
    refine j_i2l dL_given_11 ?_
    obtain ⟨-, -, ⟨ov87, og87⟩, -⟩ := id LT1
    refine j_put (w' := _) dL_given_12 fL_13 tX9_0 og87 ⟨rfl, rfl⟩ rfl ?_
    refine j_seal (n := x) LT1.x1 ?_
    intro w2 u2
    have LT2 := LT1.out u2
    refine j_goto (tgt := 22) dL_given_15 (by decide) ?_
    refine j_iconst (v := 0) dL_given_22 (by decide) ?_
    refine j_iret dL_given_23 rfl rfl ?_ (Nat.le_of_ble_eq_true rfl) (Nat.le_of_ble_eq_true rfl)
    exact ⟨_, by rw [hk], LT2, fun _ => rfl⟩
set_option maxRecDepth 100000 in
set_option maxHeartbeats 4000000 in
theorem lw_tested (hl : l.stackTraces = false) (w : z_W) (x : Nat) (C M : sp_S) (n : Int64) (LT : z_LX x C M n w) (a0 : Int32) (a1 : Int32) (a2 : Int32) : z_Con G l mL_tested 27 14 120 w [.ref 0, .int a0, .int a1, .int a2, .ref x] (fun v w9 => ∃ n9 : Int64, v = some (.int (t_tested C a0 a1 a2)) ∧ z_LX x (k_tested C a0 a1 a2) M n9 w9 ∧ (t_tested C a0 a1 a2 = 0 → n9 = (a_tested C a0 a1 a2).toInt64)) (fun _ _ => False) := by
  refine z_bodyW hl (by decide) (by decide) (Nat.le_of_ble_eq_true rfl) ?_
  show z_J G l mL_tested _ 0 [(0, _), (1, _), (2, _), (3, _), (4, _)] [] _ 0 0
  refine j_aload dL_tested_0 rfl rfl ?_
  refine j_aload_n dL_tested_2 rfl rfl ?_
  refine j_iload_n dL_tested_3 rfl ?_
  refine j_iload_n dL_tested_4 rfl ?_
  refine j_iload_n dL_tested_5 rfl ?_
  obtain ⟨fs88, gs88⟩ := LT.rc
  refine j_tryV (q := (RX8, TX8, 9)) dL_tested_6 kX8_tested lL_159 inX8_tested seX8_tested gs88 rfl (px_tested hl w C LT.1.1 LT.1.2 a0 a1 a2) (Nat.le_of_ble_eq_true rfl) ⟨(Nat.le_of_ble_eq_true rfl), (Nat.le_of_ble_eq_true rfl)⟩ rfl (Nat.le_of_ble_eq_true rfl) rfl ?_ ?_
  · rintro E _ ⟨hE, rfl⟩
    obtain ⟨hE, hk⟩ := hE
    have hk : t_tested C a0 a1 a2 = 1 := hk
    have hE : E = "java/lang/IllegalArgumentException" := hE
    subst hE
    refine ⟨16, 18, ⟨[], (⟨0, 13, 16, 21⟩ : ExceptionTableEntry), _, "java/lang/IllegalArgumentException", rfl, (fun z hz => by cases hz), by decide, by decide, (z_w 848 ((lwg_4 83).trans rfl) (by decide +kernel)), (z_wn 460 ((lwg_2 175).trans rfl) (by decide +kernel)), rfl⟩, Or.inl ⟨5, dL_tested_16, by decide, rfl⟩, ?_⟩
    refine j_iconst (v := 1) dL_tested_18 (by decide) ?_
    refine j_iret dL_tested_19 rfl rfl ?_ (Nat.le_of_ble_eq_true rfl) (Nat.le_of_ble_eq_true rfl)
    exact ⟨_, by rw [hk], by unfold k_tested; rw [if_neg (by rw [hk]; decide)]; exact LT, fun z => absurd (hk.symm.trans z) (by decide)⟩
  · rintro _ w1 ⟨hk, rfl, hW1, hh1⟩
    have hk : t_tested C a0 a1 a2 = 0 := hk
    have LT1 : z_LX x (k_tested C a0 a1 a2) M n w1 := LT.cls (by unfold k_tested; rw [if_pos hk]; exact hW1) (okk_tested _ _ _ LT.1.2) hh1
    refine j_i2l dL_tested_9 ?_
    obtain ⟨-, -, ⟨ov89, og89⟩, -⟩ := id LT1
    refine j_put (w' := _) dL_tested_10 fL_13 tX9_0 og89 ⟨rfl, rfl⟩ rfl ?_
    refine j_seal (n := x) LT1.x1 ?_
    intro w2 u2
    have LT2 := LT1.out u2
    refine j_goto (tgt := 20) dL_tested_13 (by decide) ?_
    refine j_iconst (v := 0) dL_tested_20 (by decide) ?_
    refine j_iret dL_tested_21 rfl rfl ?_ (Nat.le_of_ble_eq_true rfl) (Nat.le_of_ble_eq_true rfl)
    exact ⟨_, by rw [hk], LT2, fun _ => rfl⟩
set_option maxRecDepth 100000 in
set_option maxHeartbeats 4000000 in
theorem lw_house (hl : l.stackTraces = false) (w : z_W) (x : Nat) (C M : sp_S) (n : Int64) (LT : z_LX x C M n w) (a0 : Int32) : z_Con G l mL_house 27 14 120 w [.ref 0, .int a0, .ref x] (fun v w9 => ∃ n9 : Int64, v = some (.int (t_house C a0)) ∧ z_LX x (k_house C a0) M n9 w9 ∧ (t_house C a0 = 0 → n9 = (a_house C a0).toInt64)) (fun _ _ => False) := by
  refine z_bodyW hl (by decide) (by decide) (Nat.le_of_ble_eq_true rfl) ?_
  show z_J G l mL_house _ 0 [(0, _), (1, _), (2, _)] [] _ 0 0
  refine j_aload_n dL_house_0 rfl rfl ?_
  refine j_aload_n dL_house_1 rfl rfl ?_
  refine j_iload_n dL_house_2 rfl ?_
  obtain ⟨fs90, gs90⟩ := LT.rc
  refine j_tryV (q := (RX8, TX8, 9)) dL_house_3 kX8_house lL_162 inX8_house seX8_house gs90 rfl (px_house hl w C LT.1.1 LT.1.2 a0) (Nat.le_of_ble_eq_true rfl) ⟨(Nat.le_of_ble_eq_true rfl), (Nat.le_of_ble_eq_true rfl)⟩ rfl (Nat.le_of_ble_eq_true rfl) rfl ?_ ?_
  · rintro E _ ⟨hE, rfl⟩
    obtain ⟨hE, hk⟩ := hE
    have hk : t_house C a0 = 1 := hk
    have hE : E = "java/lang/IllegalArgumentException" := hE
    subst hE
    refine ⟨13, 14, ⟨[], (⟨0, 10, 13, 21⟩ : ExceptionTableEntry), _, "java/lang/IllegalArgumentException", rfl, (fun z hz => by cases hz), by decide, by decide, (z_w 848 ((lwg_4 83).trans rfl) (by decide +kernel)), (z_wn 460 ((lwg_2 175).trans rfl) (by decide +kernel)), rfl⟩, Or.inr ⟨3, dL_house_13, by decide, rfl⟩, ?_⟩
    refine j_iconst (v := 1) dL_house_14 (by decide) ?_
    refine j_iret dL_house_15 rfl rfl ?_ (Nat.le_of_ble_eq_true rfl) (Nat.le_of_ble_eq_true rfl)
    exact ⟨_, by rw [hk], by unfold k_house; rw [if_neg (by rw [hk]; decide)]; exact LT, fun z => absurd (hk.symm.trans z) (by decide)⟩
  · rintro _ w1 ⟨hk, rfl, hW1, hh1⟩
    have hk : t_house C a0 = 0 := hk
    have LT1 : z_LX x (k_house C a0) M n w1 := LT.cls (by unfold k_house; rw [if_pos hk]; exact hW1) (okk_house _ LT.1.2) hh1
    refine j_i2l dL_house_6 ?_
    obtain ⟨-, -, ⟨ov91, og91⟩, -⟩ := id LT1
    refine j_put (w' := _) dL_house_7 fL_13 tX9_0 og91 ⟨rfl, rfl⟩ rfl ?_
    refine j_seal (n := x) LT1.x1 ?_
    intro w2 u2
    have LT2 := LT1.out u2
    refine j_goto (tgt := 16) dL_house_10 (by decide) ?_
    refine j_iconst (v := 0) dL_house_16 (by decide) ?_
    refine j_iret dL_house_17 rfl rfl ?_ (Nat.le_of_ble_eq_true rfl) (Nat.le_of_ble_eq_true rfl)
    exact ⟨_, by rw [hk], LT2, fun _ => rfl⟩
end ZLw
