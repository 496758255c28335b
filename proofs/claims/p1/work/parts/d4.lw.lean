section ZM0
section ZLw
variable {G : z_G} {l : Launch}
set_option maxRecDepth 100000 in
set_option maxHeartbeats 4000000 in
theorem lw_type (hl : l.stackTraces = false) (w : z_W) (x : Nat) (C M : sp_S) (n : Int64) (LT : z_LX x C M n w) (a0 : Int32) (a1 : Int32) : z_Con G l mL_type 27 14 120 w [.ref 0, .int a0, .int a1, .ref x] (fun v w9 => ∃ n9 : Int64, v = some (.int (t_type C a0 a1)) ∧ z_LX x (k_type C a0 a1) M n9 w9 ∧ (t_type C a0 a1 = 0 → n9 = (a_type C a0 a1).toInt64)) (fun _ _ => False) := by
  refine z_bodyW hl (by decide) (by decide) (Nat.le_of_ble_eq_true rfl) ?_
  show z_J G l mL_type _ 0 [(0, _), (1, _), (2, _), (3, _)] [] _ 0 0
  refine j_aload_n dL_type_0 rfl rfl ?_
  refine j_aload_n dL_type_1 rfl rfl ?_
  refine j_iload_n dL_type_2 rfl ?_
  refine j_iload_n dL_type_3 rfl ?_
  obtain ⟨fs1, gs1⟩ := LT.rc
  refine j_tryV (q := (RX8, TX8, 9)) dL_type_4 kX8_type lL_7 inX8_type seX8_type gs1 rfl (px_type hl w C LT.1.1 LT.1.2 a0 a1) (Nat.le_of_ble_eq_true rfl) ⟨(Nat.le_of_ble_eq_true rfl), (Nat.le_of_ble_eq_true rfl)⟩ rfl (Nat.le_of_ble_eq_true rfl) rfl ?_ ?_
  · rintro E _ ⟨hE, rfl⟩
    rcases hE with hE | hE
    · obtain ⟨hE, hk⟩ := hE
      have hk : t_type C a0 a1 = 1 := hk
      have hE : E = "java/lang/IndexOutOfBoundsException" := hE
      subst hE
      refine ⟨14, 16, ⟨[], (⟨0, 11, 14, 19⟩ : ExceptionTableEntry), _, "java/lang/IndexOutOfBoundsException", rfl, (fun z hz => by cases hz), by decide, by decide, (z_w 847 ((lwt_4_2 22).trans rfl) (by decide +kernel)), (z_wn 860 ((lwt_4_3 5).trans rfl) (by decide +kernel)), rfl⟩, Or.inl ⟨4, dL_type_14, by decide, rfl⟩, ?_⟩
      refine j_iconst (v := 1) dL_type_16 (by decide) ?_
      refine j_iret dL_type_17 rfl rfl ?_ (Nat.le_of_ble_eq_true rfl) (Nat.le_of_ble_eq_true rfl)
      exact ⟨_, by rw [hk], by unfold k_type; rw [if_neg (by rw [hk]; decide)]; exact LT, fun z => absurd (hk.symm.trans z) (by decide)⟩
    · rcases hE with hE | hE
      · obtain ⟨hE, hk⟩ := hE
        have hk : t_type C a0 a1 = 2 := hk
        have hE : E = "java/lang/IllegalArgumentException" := hE
        subst hE
        refine ⟨18, 20, ⟨[(⟨0, 11, 14, 19⟩ : ExceptionTableEntry)], (⟨0, 11, 18, 21⟩ : ExceptionTableEntry), _, "java/lang/IllegalArgumentException", rfl, (fun z hz => by
            simp only [List.mem_cons, List.not_mem_nil, or_false] at hz
            rcases hz with rfl
            · exact Or.inr ⟨by decide, "java/lang/IndexOutOfBoundsException", (z_w 847 ((lwt_4_2 22).trans rfl) (by decide +kernel)), by decide⟩), by decide, by decide, (z_w 848 ((lwt_4_2 23).trans rfl) (by decide +kernel)), (z_wn 460 ((lwt_2_5 25).trans rfl) (by decide +kernel)), rfl⟩, Or.inl ⟨4, dL_type_18, by decide, rfl⟩, ?_⟩
        refine j_iconst (v := 2) dL_type_20 (by decide) ?_
        refine j_iret dL_type_21 rfl rfl ?_ (Nat.le_of_ble_eq_true rfl) (Nat.le_of_ble_eq_true rfl)
        exact ⟨_, by rw [hk], by unfold k_type; rw [if_neg (by rw [hk]; decide)]; exact LT, fun z => absurd (hk.symm.trans z) (by decide)⟩
      · obtain ⟨hE, hk⟩ := hE
        have hk : t_type C a0 a1 = 3 := hk
        have hE : E = "java/lang/IllegalStateException" := hE
        subst hE
        refine ⟨22, 24, ⟨[(⟨0, 11, 14, 19⟩ : ExceptionTableEntry), (⟨0, 11, 18, 21⟩ : ExceptionTableEntry)], (⟨0, 11, 22, 23⟩ : ExceptionTableEntry), _, "java/lang/IllegalStateException", rfl, (fun z hz => by
            simp only [List.mem_cons, List.not_mem_nil, or_false] at hz
            rcases hz with rfl | rfl
            · exact Or.inr ⟨by decide, "java/lang/IndexOutOfBoundsException", (z_w 847 ((lwt_4_2 22).trans rfl) (by decide +kernel)), by decide⟩
            · exact Or.inr ⟨by decide, "java/lang/IllegalArgumentException", (z_w 848 ((lwt_4_2 23).trans rfl) (by decide +kernel)), by decide⟩), by decide, by decide, (z_w 849 ((lwt_4_2 24).trans rfl) (by decide +kernel)), (z_wn 883 ((lwt_4_3 28).trans rfl) (by decide +kernel)), rfl⟩, Or.inl ⟨4, dL_type_22, by decide, rfl⟩, ?_⟩
        refine j_iconst (v := 3) dL_type_24 (by decide) ?_
        refine j_iret dL_type_25 rfl rfl ?_ (Nat.le_of_ble_eq_true rfl) (Nat.le_of_ble_eq_true rfl)
        exact ⟨_, by rw [hk], by unfold k_type; rw [if_neg (by rw [hk]; decide)]; exact LT, fun z => absurd (hk.symm.trans z) (by decide)⟩
  · rintro _ w1 ⟨hk, rfl, hW1, hh1⟩
    have hk : t_type C a0 a1 = 0 := hk
    have LT1 : z_LX x (k_type C a0 a1) M n w1 := LT.cls (by unfold k_type; rw [if_pos hk]; exact hW1) (okk_type _ _ LT.1.2) hh1
    refine j_i2l dL_type_7 ?_
    obtain ⟨-, -, ⟨ov2, og2⟩, -⟩ := id LT1
    refine j_put (w' := _) dL_type_8 fL_13 tX9_0 og2 ⟨rfl, rfl⟩ rfl ?_
    refine j_seal (n := x) LT1.x1 ?_
    intro w2 u2
    have LT2 := LT1.out u2
    refine j_goto (tgt := 26) dL_type_11 (by decide) ?_
    refine j_iconst (v := 0) dL_type_26 (by decide) ?_
    refine j_iret dL_type_27 rfl rfl ?_ (Nat.le_of_ble_eq_true rfl) (Nat.le_of_ble_eq_true rfl)
    exact ⟨_, by rw [hk], LT2, fun _ => rfl⟩
set_option maxRecDepth 100000 in
set_option maxHeartbeats 4000000 in
theorem lw_drop (hl : l.stackTraces = false) (w : z_W) (x : Nat) (C M : sp_S) (n : Int64) (LT : z_LX x C M n w) (a0 : Int32) (a1 : Int32) : z_Con G l mL_drop 27 14 120 w [.ref 0, .int a0, .int a1, .ref x] (fun v w9 => ∃ n9 : Int64, v = some (.int (t_drop C a0 a1)) ∧ z_LX x (k_drop C a0 a1) M n9 w9 ∧ (t_drop C a0 a1 = 0 → n9 = (a_drop C a0 a1).toInt64)) (fun _ _ => False) := by
  refine z_bodyW hl (by decide) (by decide) (Nat.le_of_ble_eq_true rfl) ?_
  show z_J G l mL_drop _ 0 [(0, _), (1, _), (2, _), (3, _)] [] _ 0 0
  refine j_aload_n dL_drop_0 rfl rfl ?_
  refine j_aload_n dL_drop_1 rfl rfl ?_
  refine j_iload_n dL_drop_2 rfl ?_
  refine j_iload_n dL_drop_3 rfl ?_
  obtain ⟨fs3, gs3⟩ := LT.rc
  refine j_tryV (q := (RX8, TX8, 9)) dL_drop_4 kX8_drop lL_25 inX8_drop seX8_drop gs3 rfl (px_drop hl w C LT.1.1 LT.1.2 a0 a1) (Nat.le_of_ble_eq_true rfl) ⟨(Nat.le_of_ble_eq_true rfl), (Nat.le_of_ble_eq_true rfl)⟩ rfl (Nat.le_of_ble_eq_true rfl) rfl ?_ ?_
  · rintro E _ ⟨hE, rfl⟩
    rcases hE with hE | hE
    · obtain ⟨hE, hk⟩ := hE
      have hk : t_drop C a0 a1 = 1 := hk
      have hE : E = "java/lang/IndexOutOfBoundsException" := hE
      subst hE
      refine ⟨14, 16, ⟨[], (⟨0, 11, 14, 19⟩ : ExceptionTableEntry), _, "java/lang/IndexOutOfBoundsException", rfl, (fun z hz => by cases hz), by decide, by decide, (z_w 847 ((lwt_4_2 22).trans rfl) (by decide +kernel)), (z_wn 860 ((lwt_4_3 5).trans rfl) (by decide +kernel)), rfl⟩, Or.inl ⟨4, dL_drop_14, by decide, rfl⟩, ?_⟩
      refine j_iconst (v := 1) dL_drop_16 (by decide) ?_
      refine j_iret dL_drop_17 rfl rfl ?_ (Nat.le_of_ble_eq_true rfl) (Nat.le_of_ble_eq_true rfl)
      exact ⟨_, by rw [hk], by unfold k_drop; rw [if_neg (by rw [hk]; decide)]; exact LT, fun z => absurd (hk.symm.trans z) (by decide)⟩
    · obtain ⟨hE, hk⟩ := hE
      have hk : t_drop C a0 a1 = 2 := hk
      have hE : E = "java/lang/IllegalArgumentException" := hE
      subst hE
      refine ⟨18, 20, ⟨[(⟨0, 11, 14, 19⟩ : ExceptionTableEntry)], (⟨0, 11, 18, 21⟩ : ExceptionTableEntry), _, "java/lang/IllegalArgumentException", rfl, (fun z hz => by
          simp only [List.mem_cons, List.not_mem_nil, or_false] at hz
          rcases hz with rfl
          · exact Or.inr ⟨by decide, "java/lang/IndexOutOfBoundsException", (z_w 847 ((lwt_4_2 22).trans rfl) (by decide +kernel)), by decide⟩), by decide, by decide, (z_w 848 ((lwt_4_2 23).trans rfl) (by decide +kernel)), (z_wn 460 ((lwt_2_5 25).trans rfl) (by decide +kernel)), rfl⟩, Or.inl ⟨4, dL_drop_18, by decide, rfl⟩, ?_⟩
      refine j_iconst (v := 2) dL_drop_20 (by decide) ?_
      refine j_iret dL_drop_21 rfl rfl ?_ (Nat.le_of_ble_eq_true rfl) (Nat.le_of_ble_eq_true rfl)
      exact ⟨_, by rw [hk], by unfold k_drop; rw [if_neg (by rw [hk]; decide)]; exact LT, fun z => absurd (hk.symm.trans z) (by decide)⟩
  · rintro _ w1 ⟨hk, rfl, hW1, hh1⟩
    have hk : t_drop C a0 a1 = 0 := hk
    have LT1 : z_LX x (k_drop C a0 a1) M n w1 := LT.cls (by unfold k_drop; rw [if_pos hk]; exact hW1) (okk_drop _ _ LT.1.2) hh1
    refine j_i2l dL_drop_7 ?_
    obtain ⟨-, -, ⟨ov4, og4⟩, -⟩ := id LT1
    refine j_put (w' := _) dL_drop_8 fL_13 tX9_0 og4 ⟨rfl, rfl⟩ rfl ?_
    refine j_seal (n := x) LT1.x1 ?_
    intro w2 u2
    have LT2 := LT1.out u2
    refine j_goto (tgt := 22) dL_drop_11 (by decide) ?_
    refine j_iconst (v := 0) dL_drop_22 (by decide) ?_
    refine j_iret dL_drop_23 rfl rfl ?_ (Nat.le_of_ble_eq_true rfl) (Nat.le_of_ble_eq_true rfl)
    exact ⟨_, by rw [hk], LT2, fun _ => rfl⟩
set_option maxRecDepth 100000 in
set_option maxHeartbeats 4000000 in
theorem lw_fix (hl : l.stackTraces = false) (w : z_W) (x : Nat) (C M : sp_S) (n : Int64) (LT : z_LX x C M n w) (a0 : Int32) (a1 : Bool) : z_Con G l mL_fix 27 14 120 w [.ref 0, .int a0, .int (z_bi a1), .ref x] (fun v w9 => ∃ n9 : Int64, v = some (.int (t_fix C a0 a1)) ∧ z_LX x (k_fix C a0 a1) M n9 w9 ∧ (t_fix C a0 a1 = 0 → n9 = (a_fix C a0 a1).toInt64)) (fun _ _ => False) := by
  refine z_bodyW hl (by decide) (by decide) (Nat.le_of_ble_eq_true rfl) ?_
  show z_J G l mL_fix _ 0 [(0, _), (1, _), (2, _), (3, _)] [] _ 0 0
  refine j_aload_n dL_fix_0 rfl rfl ?_
  refine j_aload_n dL_fix_1 rfl rfl ?_
  refine j_iload_n dL_fix_2 rfl ?_
  refine j_iload_n dL_fix_3 rfl ?_
  obtain ⟨fs5, gs5⟩ := LT.rc
  refine j_tryV (q := (RX8, TX8, 9)) dL_fix_4 kX8_fix lL_28 inX8_fix seX8_fix gs5 rfl (px_fix hl w C LT.1.1 LT.1.2 a0 a1) (Nat.le_of_ble_eq_true rfl) ⟨(Nat.le_of_ble_eq_true rfl), (Nat.le_of_ble_eq_true rfl)⟩ rfl (Nat.le_of_ble_eq_true rfl) rfl ?_ ?_
  · rintro E _ ⟨hE, rfl⟩
    obtain ⟨hE, hk⟩ := hE
    have hk : t_fix C a0 a1 = 1 := hk
    have hE : E = "java/lang/IndexOutOfBoundsException" := hE
    subst hE
    refine ⟨14, 16, ⟨[], (⟨0, 11, 14, 19⟩ : ExceptionTableEntry), _, "java/lang/IndexOutOfBoundsException", rfl, (fun z hz => by cases hz), by decide, by decide, (z_w 847 ((lwt_4_2 22).trans rfl) (by decide +kernel)), (z_wn 860 ((lwt_4_3 5).trans rfl) (by decide +kernel)), rfl⟩, Or.inl ⟨4, dL_fix_14, by decide, rfl⟩, ?_⟩
    refine j_iconst (v := 1) dL_fix_16 (by decide) ?_
    refine j_iret dL_fix_17 rfl rfl ?_ (Nat.le_of_ble_eq_true rfl) (Nat.le_of_ble_eq_true rfl)
    exact ⟨_, by rw [hk], by unfold k_fix; rw [if_neg (by rw [hk]; decide)]; exact LT, fun z => absurd (hk.symm.trans z) (by decide)⟩
  · rintro _ w1 ⟨hk, rfl, hW1, hh1⟩
    have hk : t_fix C a0 a1 = 0 := hk
    have LT1 : z_LX x (k_fix C a0 a1) M n w1 := LT.cls (by unfold k_fix; rw [if_pos hk]; exact hW1) (okk_fix _ _ LT.1.2) hh1
    refine j_i2l dL_fix_7 ?_
    obtain ⟨-, -, ⟨ov6, og6⟩, -⟩ := id LT1
    refine j_put (w' := _) dL_fix_8 fL_13 tX9_0 og6 ⟨rfl, rfl⟩ rfl ?_
    refine j_seal (n := x) LT1.x1 ?_
    intro w2 u2
    have LT2 := LT1.out u2
    refine j_goto (tgt := 18) dL_fix_11 (by decide) ?_
    refine j_iconst (v := 0) dL_fix_18 (by decide) ?_
    refine j_iret dL_fix_19 rfl rfl ?_ (Nat.le_of_ble_eq_true rfl) (Nat.le_of_ble_eq_true rfl)
    exact ⟨_, by rw [hk], LT2, fun _ => rfl⟩
set_option maxRecDepth 100000 in
set_option maxHeartbeats 4000000 in
theorem lw_hear (hl : l.stackTraces = false) (w : z_W) (x : Nat) (C M : sp_S) (n : Int64) (LT : z_LX x C M n w) (a0 : Int32) (a1 : Int32) : z_Con G l mL_hear 27 14 120 w [.ref 0, .int a0, .int a1, .ref x] (fun v w9 => ∃ n9 : Int64, v = some (.int (t_hear C a0 a1)) ∧ z_LX x (k_hear C a0 a1) M n9 w9 ∧ (t_hear C a0 a1 = 0 → n9 = (a_hear C a0 a1).toInt64)) (fun _ _ => False) := by
  refine z_bodyW hl (by decide) (by decide) (Nat.le_of_ble_eq_true rfl) ?_
  show z_J G l mL_hear _ 0 [(0, _), (1, _), (2, _), (3, _)] [] _ 0 0
  refine j_aload_n dL_hear_0 rfl rfl ?_
  refine j_aload_n dL_hear_1 rfl rfl ?_
  refine j_iload_n dL_hear_2 rfl ?_
  refine j_iload_n dL_hear_3 rfl ?_
  obtain ⟨fs7, gs7⟩ := LT.rc
  refine j_tryV (q := (RX8, TX8, 9)) dL_hear_4 kX8_hear lL_32 inX8_hear seX8_hear gs7 rfl (px_hear hl w C LT.1.1 LT.1.2 a0 a1) (Nat.le_of_ble_eq_true rfl) ⟨(Nat.le_of_ble_eq_true rfl), (Nat.le_of_ble_eq_true rfl)⟩ rfl (Nat.le_of_ble_eq_true rfl) rfl ?_ ?_
  · rintro E _ ⟨hE, rfl⟩
    obtain ⟨hE, hk⟩ := hE
    have hk : t_hear C a0 a1 = 1 := hk
    have hE : E = "java/lang/IndexOutOfBoundsException" := hE
    subst hE
    refine ⟨14, 16, ⟨[], (⟨0, 11, 14, 19⟩ : ExceptionTableEntry), _, "java/lang/IndexOutOfBoundsException", rfl, (fun z hz => by cases hz), by decide, by decide, (z_w 847 ((lwt_4_2 22).trans rfl) (by decide +kernel)), (z_wn 860 ((lwt_4_3 5).trans rfl) (by decide +kernel)), rfl⟩, Or.inl ⟨4, dL_hear_14, by decide, rfl⟩, ?_⟩
    refine j_iconst (v := 1) dL_hear_16 (by decide) ?_
    refine j_iret dL_hear_17 rfl rfl ?_ (Nat.le_of_ble_eq_true rfl) (Nat.le_of_ble_eq_true rfl)
    exact ⟨_, by rw [hk], by unfold k_hear; rw [if_neg (by rw [hk]; decide)]; exact LT, fun z => absurd (hk.symm.trans z) (by decide)⟩
  · rintro _ w1 ⟨hk, rfl, hW1, hh1⟩
    have hk : t_hear C a0 a1 = 0 := hk
    have LT1 : z_LX x (k_hear C a0 a1) M n w1 := LT.cls (by unfold k_hear; rw [if_pos hk]; exact hW1) (okk_hear _ _ LT.1.2) hh1
    refine j_i2l dL_hear_7 ?_
    obtain ⟨-, -, ⟨ov8, og8⟩, -⟩ := id LT1
    refine j_put (w' := _) dL_hear_8 fL_13 tX9_0 og8 ⟨rfl, rfl⟩ rfl ?_
    refine j_seal (n := x) LT1.x1 ?_
    intro w2 u2
    have LT2 := LT1.out u2
    refine j_goto (tgt := 18) dL_hear_11 (by decide) ?_
    refine j_iconst (v := 0) dL_hear_18 (by decide) ?_
    refine j_iret dL_hear_19 rfl rfl ?_ (Nat.le_of_ble_eq_true rfl) (Nat.le_of_ble_eq_true rfl)
    exact ⟨_, by rw [hk], LT2, fun _ => rfl⟩
set_option maxRecDepth 100000 in
set_option maxHeartbeats 4000000 in
theorem lw_rest (hl : l.stackTraces = false) (w : z_W) (x : Nat) (C M : sp_S) (n : Int64) (LT : z_LX x C M n w) (a0 : Int32) (a1 : Int32) (a2 : Int32) : z_Con G l mL_rest 27 14 120 w [.ref 0, .int a0, .int a1, .int a2, .ref x] (fun v w9 => ∃ n9 : Int64, v = some (.int (t_rest C a0 a1 a2)) ∧ z_LX x (k_rest C a0 a1 a2) M n9 w9 ∧ (t_rest C a0 a1 a2 = 0 → n9 = (a_rest C a0 a1 a2).toInt64)) (fun _ _ => False) := by
  refine z_bodyW hl (by decide) (by decide) (Nat.le_of_ble_eq_true rfl) ?_
  show z_J G l mL_rest _ 0 [(0, _), (1, _), (2, _), (3, _), (4, _)] [] _ 0 0
  refine j_aload dL_rest_0 rfl rfl ?_
  refine j_aload_n dL_rest_2 rfl rfl ?_
  refine j_iload_n dL_rest_3 rfl ?_
  refine j_iload_n dL_rest_4 rfl ?_
  refine j_iload_n dL_rest_5 rfl ?_
  obtain ⟨fs9, gs9⟩ := LT.rc
  refine j_tryV (q := (RX8, TX8, 9)) dL_rest_6 kX8_rest lL_35 inX8_rest seX8_rest gs9 rfl (px_rest hl w C LT.1.1 LT.1.2 a0 a1 a2) (Nat.le_of_ble_eq_true rfl) ⟨(Nat.le_of_ble_eq_true rfl), (Nat.le_of_ble_eq_true rfl)⟩ rfl (Nat.le_of_ble_eq_true rfl) rfl ?_ ?_
  · rintro E _ ⟨hE, rfl⟩
    rcases hE with hE | hE
    · obtain ⟨hE, hk⟩ := hE
      have hk : t_rest C a0 a1 a2 = 1 := hk
      have hE : E = "java/lang/IndexOutOfBoundsException" := hE
      subst hE
      refine ⟨16, 18, ⟨[], (⟨0, 13, 16, 19⟩ : ExceptionTableEntry), _, "java/lang/IndexOutOfBoundsException", rfl, (fun z hz => by cases hz), by decide, by decide, (z_w 847 ((lwt_4_2 22).trans rfl) (by decide +kernel)), (z_wn 860 ((lwt_4_3 5).trans rfl) (by decide +kernel)), rfl⟩, Or.inl ⟨5, dL_rest_16, by decide, rfl⟩, ?_⟩
      refine j_iconst (v := 1) dL_rest_18 (by decide) ?_
      refine j_iret dL_rest_19 rfl rfl ?_ (Nat.le_of_ble_eq_true rfl) (Nat.le_of_ble_eq_true rfl)
      exact ⟨_, by rw [hk], by unfold k_rest; rw [if_neg (by rw [hk]; decide)]; exact LT, fun z => absurd (hk.symm.trans z) (by decide)⟩
    · obtain ⟨hE, hk⟩ := hE
      have hk : t_rest C a0 a1 a2 = 2 := hk
      have hE : E = "java/lang/IllegalArgumentException" := hE
      subst hE
      refine ⟨20, 22, ⟨[(⟨0, 13, 16, 19⟩ : ExceptionTableEntry)], (⟨0, 13, 20, 21⟩ : ExceptionTableEntry), _, "java/lang/IllegalArgumentException", rfl, (fun z hz => by
          simp only [List.mem_cons, List.not_mem_nil, or_false] at hz
          rcases hz with rfl
          · exact Or.inr ⟨by decide, "java/lang/IndexOutOfBoundsException", (z_w 847 ((lwt_4_2 22).trans rfl) (by decide +kernel)), by decide⟩), by decide, by decide, (z_w 848 ((lwt_4_2 23).trans rfl) (by decide +kernel)), (z_wn 460 ((lwt_2_5 25).trans rfl) (by decide +kernel)), rfl⟩, Or.inl ⟨5, dL_rest_20, by decide, rfl⟩, ?_⟩
      refine j_iconst (v := 2) dL_rest_22 (by decide) ?_
      refine j_iret dL_rest_23 rfl rfl ?_ (Nat.le_of_ble_eq_true rfl) (Nat.le_of_ble_eq_true rfl)
      exact ⟨_, by rw [hk], by unfold k_rest; rw [if_neg (by rw [hk]; decide)]; exact LT, fun z => absurd (hk.symm.trans z) (by decide)⟩
  · rintro _ w1 ⟨hk, rfl, hW1, hh1⟩
    have hk : t_rest C a0 a1 a2 = 0 := hk
    have LT1 : z_LX x (k_rest C a0 a1 a2) M n w1 := LT.cls (by unfold k_rest; rw [if_pos hk]; exact hW1) (okk_rest _ _ _ LT.1.2) hh1
    refine j_i2l dL_rest_9 ?_
    obtain ⟨-, -, ⟨ov10, og10⟩, -⟩ := id LT1
    refine j_put (w' := _) dL_rest_10 fL_13 tX9_0 og10 ⟨rfl, rfl⟩ rfl ?_
    refine j_seal (n := x) LT1.x1 ?_
    intro w2 u2
    have LT2 := LT1.out u2
    refine j_goto (tgt := 24) dL_rest_13 (by decide) ?_
    refine j_iconst (v := 0) dL_rest_24 (by decide) ?_
    refine j_iret dL_rest_25 rfl rfl ?_ (Nat.le_of_ble_eq_true rfl) (Nat.le_of_ble_eq_true rfl)
    exact ⟨_, by rw [hk], LT2, fun _ => rfl⟩
set_option maxRecDepth 100000 in
set_option maxHeartbeats 4000000 in
theorem lw_removeIf (hl : l.stackTraces = false) (w : z_W) (x : Nat) (C M : sp_S) (n : Int64) (LT : z_LX x C M n w) (a0 : Int32) (a1 : Int32) (a2 : Int32) : z_Con G l mL_removeIf 27 14 120 w [.ref 0, .int a0, .int a1, .int a2, .ref x] (fun v w9 => ∃ n9 : Int64, v = some (.int (t_removeIf C a0 a1 a2)) ∧ z_LX x (k_removeIf C a0 a1 a2) M n9 w9 ∧ (t_removeIf C a0 a1 a2 = 0 → n9 = (a_removeIf C a0 a1 a2).toInt64)) (fun _ _ => False) := by
  refine z_bodyW hl (by decide) (by decide) (Nat.le_of_ble_eq_true rfl) ?_
  show z_J G l mL_removeIf _ 0 [(0, _), (1, _), (2, _), (3, _), (4, _)] [] _ 0 0
  refine j_aload dL_removeIf_0 rfl rfl ?_
  refine j_aload_n dL_removeIf_2 rfl rfl ?_
  refine j_iload_n dL_removeIf_3 rfl ?_
  refine j_iload_n dL_removeIf_4 rfl ?_
  refine j_iload_n dL_removeIf_5 rfl ?_
  obtain ⟨fs11, gs11⟩ := LT.rc
  refine j_tryV (q := (RX8, TX8, 9)) dL_removeIf_6 kX8_removeIf lL_39 inX8_removeIf seX8_removeIf gs11 rfl (px_removeIf hl w C LT.1.1 LT.1.2 a0 a1 a2) (Nat.le_of_ble_eq_true rfl) ⟨(Nat.le_of_ble_eq_true rfl), (Nat.le_of_ble_eq_true rfl)⟩ rfl (Nat.le_of_ble_eq_true rfl) rfl ?_ ?_
  · rintro E _ ⟨hE, rfl⟩
    rcases hE with hE | hE
    · obtain ⟨hE, hk⟩ := hE
      have hk : t_removeIf C a0 a1 a2 = 1 := hk
      have hE : E = "java/lang/IndexOutOfBoundsException" := hE
      subst hE
      refine ⟨16, 18, ⟨[], (⟨0, 13, 16, 19⟩ : ExceptionTableEntry), _, "java/lang/IndexOutOfBoundsException", rfl, (fun z hz => by cases hz), by decide, by decide, (z_w 847 ((lwt_4_2 22).trans rfl) (by decide +kernel)), (z_wn 860 ((lwt_4_3 5).trans rfl) (by decide +kernel)), rfl⟩, Or.inl ⟨5, dL_removeIf_16, by decide, rfl⟩, ?_⟩
      refine j_iconst (v := 1) dL_removeIf_18 (by decide) ?_
      refine j_iret dL_removeIf_19 rfl rfl ?_ (Nat.le_of_ble_eq_true rfl) (Nat.le_of_ble_eq_true rfl)
      exact ⟨_, by rw [hk], by unfold k_removeIf; rw [if_neg (by rw [hk]; decide)]; exact LT, fun z => absurd (hk.symm.trans z) (by decide)⟩
    · obtain ⟨hE, hk⟩ := hE
      have hk : t_removeIf C a0 a1 a2 = 2 := hk
      have hE : E = "java/lang/IllegalArgumentException" := hE
      subst hE
      refine ⟨20, 22, ⟨[(⟨0, 13, 16, 19⟩ : ExceptionTableEntry)], (⟨0, 13, 20, 21⟩ : ExceptionTableEntry), _, "java/lang/IllegalArgumentException", rfl, (fun z hz => by
          simp only [List.mem_cons, List.not_mem_nil, or_false] at hz
          rcases hz with rfl
          · exact Or.inr ⟨by decide, "java/lang/IndexOutOfBoundsException", (z_w 847 ((lwt_4_2 22).trans rfl) (by decide +kernel)), by decide⟩), by decide, by decide, (z_w 848 ((lwt_4_2 23).trans rfl) (by decide +kernel)), (z_wn 460 ((lwt_2_5 25).trans rfl) (by decide +kernel)), rfl⟩, Or.inl ⟨5, dL_removeIf_20, by decide, rfl⟩, ?_⟩
      refine j_iconst (v := 2) dL_removeIf_22 (by decide) ?_
      refine j_iret dL_removeIf_23 rfl rfl ?_ (Nat.le_of_ble_eq_true rfl) (Nat.le_of_ble_eq_true rfl)
      exact ⟨_, by rw [hk], by unfold k_removeIf; rw [if_neg (by rw [hk]; decide)]; exact LT, fun z => absurd (hk.symm.trans z) (by decide)⟩
  · rintro _ w1 ⟨hk, rfl, hW1, hh1⟩
    have hk : t_removeIf C a0 a1 a2 = 0 := hk
    have LT1 : z_LX x (k_removeIf C a0 a1 a2) M n w1 := LT.cls (by unfold k_removeIf; rw [if_pos hk]; exact hW1) (okk_removeIf _ _ _ LT.1.2) hh1
    refine j_i2l dL_removeIf_9 ?_
    obtain ⟨-, -, ⟨ov12, og12⟩, -⟩ := id LT1
    refine j_put (w' := _) dL_removeIf_10 fL_13 tX9_0 og12 ⟨rfl, rfl⟩ rfl ?_
    refine j_seal (n := x) LT1.x1 ?_
    intro w2 u2
    have LT2 := LT1.out u2
    refine j_goto (tgt := 24) dL_removeIf_13 (by decide) ?_
    refine j_iconst (v := 0) dL_removeIf_24 (by decide) ?_
    refine j_iret dL_removeIf_25 rfl rfl ?_ (Nat.le_of_ble_eq_true rfl) (Nat.le_of_ble_eq_true rfl)
    exact ⟨_, by rw [hk], LT2, fun _ => rfl⟩
set_option maxRecDepth 100000 in
set_option maxHeartbeats 4000000 in
theorem lw_replaceAll (hl : l.stackTraces = false) (w : z_W) (x : Nat) (C M : sp_S) (n : Int64) (LT : z_LX x C M n w) (a0 : Int32) (a1 : Int32) (a2 : Int32) : z_Con G l mL_replaceAll 27 14 120 w [.ref 0, .int a0, .int a1, .int a2, .ref x] (fun v w9 => ∃ n9 : Int64, v = some (.int (t_replaceAll C a0 a1 a2)) ∧ z_LX x (k_replaceAll C a0 a1 a2) M n9 w9 ∧ (t_replaceAll C a0 a1 a2 = 0 → n9 = (a_replaceAll C a0 a1 a2).toInt64)) (fun _ _ => False) := by
  refine z_bodyW hl (by decide) (by decide) (Nat.le_of_ble_eq_true rfl) ?_
  show z_J G l mL_replaceAll _ 0 [(0, _), (1, _), (2, _), (3, _), (4, _)] [] _ 0 0
  refine j_aload dL_replaceAll_0 rfl rfl ?_
  refine j_aload_n dL_replaceAll_2 rfl rfl ?_
  refine j_iload_n dL_replaceAll_3 rfl ?_
  refine j_iload_n dL_replaceAll_4 rfl ?_
  refine j_iload_n dL_replaceAll_5 rfl ?_
  obtain ⟨fs13, gs13⟩ := LT.rc
  refine j_tryV (q := (RX8, TX8, 9)) dL_replaceAll_6 kX8_replaceAll lL_42 inX8_replaceAll seX8_replaceAll gs13 rfl (px_replaceAll hl w C LT.1.1 LT.1.2 a0 a1 a2) (Nat.le_of_ble_eq_true rfl) ⟨(Nat.le_of_ble_eq_true rfl), (Nat.le_of_ble_eq_true rfl)⟩ rfl (Nat.le_of_ble_eq_true rfl) rfl ?_ ?_
  · rintro E _ ⟨hE, rfl⟩
    rcases hE with hE | hE
    · obtain ⟨hE, hk⟩ := hE
      have hk : t_replaceAll C a0 a1 a2 = 1 := hk
      have hE : E = "java/lang/IndexOutOfBoundsException" := hE
      subst hE
      refine ⟨16, 18, ⟨[], (⟨0, 13, 16, 19⟩ : ExceptionTableEntry), _, "java/lang/IndexOutOfBoundsException", rfl, (fun z hz => by cases hz), by decide, by decide, (z_w 847 ((lwt_4_2 22).trans rfl) (by decide +kernel)), (z_wn 860 ((lwt_4_3 5).trans rfl) (by decide +kernel)), rfl⟩, Or.inl ⟨5, dL_replaceAll_16, by decide, rfl⟩, ?_⟩
      refine j_iconst (v := 1) dL_replaceAll_18 (by decide) ?_
      refine j_iret dL_replaceAll_19 rfl rfl ?_ (Nat.le_of_ble_eq_true rfl) (Nat.le_of_ble_eq_true rfl)
      exact ⟨_, by rw [hk], by unfold k_replaceAll; rw [if_neg (by rw [hk]; decide)]; exact LT, fun z => absurd (hk.symm.trans z) (by decide)⟩
    · obtain ⟨hE, hk⟩ := hE
      have hk : t_replaceAll C a0 a1 a2 = 2 := hk
      have hE : E = "java/lang/IllegalArgumentException" := hE
      subst hE
      refine ⟨20, 22, ⟨[(⟨0, 13, 16, 19⟩ : ExceptionTableEntry)], (⟨0, 13, 20, 21⟩ : ExceptionTableEntry), _, "java/lang/IllegalArgumentException", rfl, (fun z hz => by
          simp only [List.mem_cons, List.not_mem_nil, or_false] at hz
          rcases hz with rfl
          · exact Or.inr ⟨by decide, "java/lang/IndexOutOfBoundsException", (z_w 847 ((lwt_4_2 22).trans rfl) (by decide +kernel)), by decide⟩), by decide, by decide, (z_w 848 ((lwt_4_2 23).trans rfl) (by decide +kernel)), (z_wn 460 ((lwt_2_5 25).trans rfl) (by decide +kernel)), rfl⟩, Or.inl ⟨5, dL_replaceAll_20, by decide, rfl⟩, ?_⟩
      refine j_iconst (v := 2) dL_replaceAll_22 (by decide) ?_
      refine j_iret dL_replaceAll_23 rfl rfl ?_ (Nat.le_of_ble_eq_true rfl) (Nat.le_of_ble_eq_true rfl)
      exact ⟨_, by rw [hk], by unfold k_replaceAll; rw [if_neg (by rw [hk]; decide)]; exact LT, fun z => absurd (hk.symm.trans z) (by decide)⟩
  · rintro _ w1 ⟨hk, rfl, hW1, hh1⟩
    have hk : t_replaceAll C a0 a1 a2 = 0 := hk
    have LT1 : z_LX x (k_replaceAll C a0 a1 a2) M n w1 := LT.cls (by unfold k_replaceAll; rw [if_pos hk]; exact hW1) (okk_replaceAll _ _ _ LT.1.2) hh1
    refine j_i2l dL_replaceAll_9 ?_
    obtain ⟨-, -, ⟨ov14, og14⟩, -⟩ := id LT1
    refine j_put (w' := _) dL_replaceAll_10 fL_13 tX9_0 og14 ⟨rfl, rfl⟩ rfl ?_
    refine j_seal (n := x) LT1.x1 ?_
    intro w2 u2
    have LT2 := LT1.out u2
    refine j_goto (tgt := 24) dL_replaceAll_13 (by decide) ?_
    refine j_iconst (v := 0) dL_replaceAll_24 (by decide) ?_
    refine j_iret dL_replaceAll_25 rfl rfl ?_ (Nat.le_of_ble_eq_true rfl) (Nat.le_of_ble_eq_true rfl)
    exact ⟨_, by rw [hk], LT2, fun _ => rfl⟩
set_option maxRecDepth 100000 in
set_option maxHeartbeats 4000000 in
theorem lw_copy (hl : l.stackTraces = false) (w : z_W) (x : Nat) (C M : sp_S) (n : Int64) (LT : z_LX x C M n w) (a0 : Int32) : z_Con G l mL_copy 27 14 120 w [.ref 0, .int a0, .ref x] (fun v w9 => ∃ n9 : Int64, v = some (.int (t_copy C a0)) ∧ z_LX x (k_copy C a0) M n9 w9 ∧ (t_copy C a0 = 0 → n9 = (a_copy C a0).toInt64)) (fun _ _ => False) := by
  refine z_bodyW hl (by decide) (by decide) (Nat.le_of_ble_eq_true rfl) ?_
  show z_J G l mL_copy _ 0 [(0, _), (1, _), (2, _)] [] _ 0 0
  refine j_aload_n dL_copy_0 rfl rfl ?_
  refine j_aload_n dL_copy_1 rfl rfl ?_
  refine j_iload_n dL_copy_2 rfl ?_
  obtain ⟨fs15, gs15⟩ := LT.rc
  refine j_tryV (q := (RX8, TX8, 9)) dL_copy_3 kX8_copy lL_45 inX8_copy seX8_copy gs15 rfl (px_copy hl w C LT.1.1 LT.1.2 a0) (Nat.le_of_ble_eq_true rfl) ⟨(Nat.le_of_ble_eq_true rfl), (Nat.le_of_ble_eq_true rfl)⟩ rfl (Nat.le_of_ble_eq_true rfl) rfl ?_ ?_
  · rintro E _ ⟨hE, rfl⟩
    obtain ⟨hE, hk⟩ := hE
    have hk : t_copy C a0 = 1 := hk
    have hE : E = "java/lang/IndexOutOfBoundsException" := hE
    subst hE
    refine ⟨13, 14, ⟨[], (⟨0, 10, 13, 19⟩ : ExceptionTableEntry), _, "java/lang/IndexOutOfBoundsException", rfl, (fun z hz => by cases hz), by decide, by decide, (z_w 847 ((lwt_4_2 22).trans rfl) (by decide +kernel)), (z_wn 860 ((lwt_4_3 5).trans rfl) (by decide +kernel)), rfl⟩, Or.inr ⟨3, dL_copy_13, by decide, rfl⟩, ?_⟩
    refine j_iconst (v := 1) dL_copy_14 (by decide) ?_
    refine j_iret dL_copy_15 rfl rfl ?_ (Nat.le_of_ble_eq_true rfl) (Nat.le_of_ble_eq_true rfl)
    exact ⟨_, by rw [hk], by unfold k_copy; rw [if_neg (by rw [hk]; decide)]; exact LT, fun z => absurd (hk.symm.trans z) (by decide)⟩
  · rintro _ w1 ⟨hk, rfl, hW1, hh1⟩
    have hk : t_copy C a0 = 0 := hk
    have LT1 : z_LX x (k_copy C a0) M n w1 := LT.cls (by unfold k_copy; rw [if_pos hk]; exact hW1) (okk_copy _ LT.1.2) hh1
    refine j_i2l dL_copy_6 ?_
    obtain ⟨-, -, ⟨ov16, og16⟩, -⟩ := id LT1
    refine j_put (w' := _) dL_copy_7 fL_13 tX9_0 og16 ⟨rfl, rfl⟩ rfl ?_
    refine j_seal (n := x) LT1.x1 ?_
    intro w2 u2
    have LT2 := LT1.out u2
    refine j_goto (tgt := 16) dL_copy_10 (by decide) ?_
    refine j_iconst (v := 0) dL_copy_16 (by decide) ?_
    refine j_iret dL_copy_17 rfl rfl ?_ (Nat.le_of_ble_eq_true rfl) (Nat.le_of_ble_eq_true rfl)
    exact ⟨_, by rw [hk], LT2, fun _ => rfl⟩
set_option maxRecDepth 100000 in
set_option maxHeartbeats 4000000 in
theorem lw_put (hl : l.stackTraces = false) (w : z_W) (x : Nat) (C M : sp_S) (n : Int64) (LT : z_LX x C M n w) (a0 : Int32) (a1 : Int32) (a2 : Int32) : z_Con G l mL_put 27 14 120 w [.ref 0, .int a0, .int a1, .int a2, .ref x] (fun v w9 => ∃ n9 : Int64, v = some (.int (t_put C a0 a1 a2)) ∧ z_LX x (k_put C a0 a1 a2) M n9 w9 ∧ (t_put C a0 a1 a2 = 0 → n9 = (a_put C a0 a1 a2).toInt64)) (fun _ _ => False) := by
  refine z_bodyW hl (by decide) (by decide) (Nat.le_of_ble_eq_true rfl) ?_
  show z_J G l mL_put _ 0 [(0, _), (1, _), (2, _), (3, _), (4, _)] [] _ 0 0
  refine j_aload dL_put_0 rfl rfl ?_
  refine j_aload_n dL_put_2 rfl rfl ?_
  refine j_iload_n dL_put_3 rfl ?_
  refine j_iload_n dL_put_4 rfl ?_
  refine j_iload_n dL_put_5 rfl ?_
  obtain ⟨fs17, gs17⟩ := LT.rc
  refine j_tryV (q := (RX8, TX8, 9)) dL_put_6 kX8_put lL_49 inX8_put seX8_put gs17 rfl (px_put hl w C LT.1.1 LT.1.2 a0 a1 a2) (Nat.le_of_ble_eq_true rfl) ⟨(Nat.le_of_ble_eq_true rfl), (Nat.le_of_ble_eq_true rfl)⟩ rfl (Nat.le_of_ble_eq_true rfl) rfl ?_ ?_
  · rintro E _ ⟨hE, rfl⟩
    rcases hE with hE | hE
    · obtain ⟨hE, hk⟩ := hE
      have hk : t_put C a0 a1 a2 = 1 := hk
      have hE : E = "java/lang/IndexOutOfBoundsException" := hE
      subst hE
      refine ⟨16, 18, ⟨[], (⟨0, 13, 16, 19⟩ : ExceptionTableEntry), _, "java/lang/IndexOutOfBoundsException", rfl, (fun z hz => by cases hz), by decide, by decide, (z_w 847 ((lwt_4_2 22).trans rfl) (by decide +kernel)), (z_wn 860 ((lwt_4_3 5).trans rfl) (by decide +kernel)), rfl⟩, Or.inl ⟨5, dL_put_16, by decide, rfl⟩, ?_⟩
      refine j_iconst (v := 1) dL_put_18 (by decide) ?_
      refine j_iret dL_put_19 rfl rfl ?_ (Nat.le_of_ble_eq_true rfl) (Nat.le_of_ble_eq_true rfl)
      exact ⟨_, by rw [hk], by unfold k_put; rw [if_neg (by rw [hk]; decide)]; exact LT, fun z => absurd (hk.symm.trans z) (by decide)⟩
    · obtain ⟨hE, hk⟩ := hE
      have hk : t_put C a0 a1 a2 = 2 := hk
      have hE : E = "java/lang/IllegalArgumentException" := hE
      subst hE
      refine ⟨20, 22, ⟨[(⟨0, 13, 16, 19⟩ : ExceptionTableEntry)], (⟨0, 13, 20, 21⟩ : ExceptionTableEntry), _, "java/lang/IllegalArgumentException", rfl, (fun z hz => by
          simp only [List.mem_cons, List.not_mem_nil, or_false] at hz
          rcases hz with rfl
          · exact Or.inr ⟨by decide, "java/lang/IndexOutOfBoundsException", (z_w 847 ((lwt_4_2 22).trans rfl) (by decide +kernel)), by decide⟩), by decide, by decide, (z_w 848 ((lwt_4_2 23).trans rfl) (by decide +kernel)), (z_wn 460 ((lwt_2_5 25).trans rfl) (by decide +kernel)), rfl⟩, Or.inl ⟨5, dL_put_20, by decide, rfl⟩, ?_⟩
      refine j_iconst (v := 2) dL_put_22 (by decide) ?_
      refine j_iret dL_put_23 rfl rfl ?_ (Nat.le_of_ble_eq_true rfl) (Nat.le_of_ble_eq_true rfl)
      exact ⟨_, by rw [hk], by unfold k_put; rw [if_neg (by rw [hk]; decide)]; exact LT, fun z => absurd (hk.symm.trans z) (by decide)⟩
  · rintro _ w1 ⟨hk, rfl, hW1, hh1⟩
    have hk : t_put C a0 a1 a2 = 0 := hk
    have LT1 : z_LX x (k_put C a0 a1 a2) M n w1 := LT.cls (by unfold k_put; rw [if_pos hk]; exact hW1) (okk_put _ _ _ LT.1.2) hh1
    refine j_i2l dL_put_9 ?_
    obtain ⟨-, -, ⟨ov18, og18⟩, -⟩ := id LT1
    refine j_put (w' := _) dL_put_10 fL_13 tX9_0 og18 ⟨rfl, rfl⟩ rfl ?_
    refine j_seal (n := x) LT1.x1 ?_
    intro w2 u2
    have LT2 := LT1.out u2
    refine j_goto (tgt := 24) dL_put_13 (by decide) ?_
    refine j_iconst (v := 0) dL_put_24 (by decide) ?_
    refine j_iret dL_put_25 rfl rfl ?_ (Nat.le_of_ble_eq_true rfl) (Nat.le_of_ble_eq_true rfl)
    exact ⟨_, by rw [hk], LT2, fun _ => rfl⟩
set_option maxRecDepth 100000 in
set_option maxHeartbeats 4000000 in
theorem lw_remove (hl : l.stackTraces = false) (w : z_W) (x : Nat) (C M : sp_S) (n : Int64) (LT : z_LX x C M n w) (a0 : Int32) (a1 : Int32) : z_Con G l mL_remove 27 14 120 w [.ref 0, .int a0, .int a1, .ref x] (fun v w9 => ∃ n9 : Int64, v = some (.int (t_remove C a0 a1)) ∧ z_LX x (k_remove C a0 a1) M n9 w9 ∧ (t_remove C a0 a1 = 0 → n9 = (a_remove C a0 a1).toInt64)) (fun _ _ => False) := by
  refine z_bodyW hl (by decide) (by decide) (Nat.le_of_ble_eq_true rfl) ?_
  show z_J G l mL_remove _ 0 [(0, _), (1, _), (2, _), (3, _)] [] _ 0 0
  refine j_aload_n dL_remove_0 rfl rfl ?_
  refine j_aload_n dL_remove_1 rfl rfl ?_
  refine j_iload_n dL_remove_2 rfl ?_
  refine j_iload_n dL_remove_3 rfl ?_
  obtain ⟨fs19, gs19⟩ := LT.rc
  refine j_tryV (q := (RX8, TX8, 9)) dL_remove_4 kX8_remove lL_52 inX8_remove seX8_remove gs19 rfl (px_remove hl w C LT.1.1 LT.1.2 a0 a1) (Nat.le_of_ble_eq_true rfl) ⟨(Nat.le_of_ble_eq_true rfl), (Nat.le_of_ble_eq_true rfl)⟩ rfl (Nat.le_of_ble_eq_true rfl) rfl ?_ ?_
  · rintro E _ ⟨hE, rfl⟩
    rcases hE with hE | hE
    · obtain ⟨hE, hk⟩ := hE
      have hk : t_remove C a0 a1 = 1 := hk
      have hE : E = "java/lang/IndexOutOfBoundsException" := hE
      subst hE
      refine ⟨14, 16, ⟨[], (⟨0, 11, 14, 19⟩ : ExceptionTableEntry), _, "java/lang/IndexOutOfBoundsException", rfl, (fun z hz => by cases hz), by decide, by decide, (z_w 847 ((lwt_4_2 22).trans rfl) (by decide +kernel)), (z_wn 860 ((lwt_4_3 5).trans rfl) (by decide +kernel)), rfl⟩, Or.inl ⟨4, dL_remove_14, by decide, rfl⟩, ?_⟩
      refine j_iconst (v := 1) dL_remove_16 (by decide) ?_
      refine j_iret dL_remove_17 rfl rfl ?_ (Nat.le_of_ble_eq_true rfl) (Nat.le_of_ble_eq_true rfl)
      exact ⟨_, by rw [hk], by unfold k_remove; rw [if_neg (by rw [hk]; decide)]; exact LT, fun z => absurd (hk.symm.trans z) (by decide)⟩
    · obtain ⟨hE, hk⟩ := hE
      have hk : t_remove C a0 a1 = 2 := hk
      have hE : E = "java/lang/IllegalArgumentException" := hE
      subst hE
      refine ⟨18, 20, ⟨[(⟨0, 11, 14, 19⟩ : ExceptionTableEntry)], (⟨0, 11, 18, 21⟩ : ExceptionTableEntry), _, "java/lang/IllegalArgumentException", rfl, (fun z hz => by
          simp only [List.mem_cons, List.not_mem_nil, or_false] at hz
          rcases hz with rfl
          · exact Or.inr ⟨by decide, "java/lang/IndexOutOfBoundsException", (z_w 847 ((lwt_4_2 22).trans rfl) (by decide +kernel)), by decide⟩), by decide, by decide, (z_w 848 ((lwt_4_2 23).trans rfl) (by decide +kernel)), (z_wn 460 ((lwt_2_5 25).trans rfl) (by decide +kernel)), rfl⟩, Or.inl ⟨4, dL_remove_18, by decide, rfl⟩, ?_⟩
      refine j_iconst (v := 2) dL_remove_20 (by decide) ?_
      refine j_iret dL_remove_21 rfl rfl ?_ (Nat.le_of_ble_eq_true rfl) (Nat.le_of_ble_eq_true rfl)
      exact ⟨_, by rw [hk], by unfold k_remove; rw [if_neg (by rw [hk]; decide)]; exact LT, fun z => absurd (hk.symm.trans z) (by decide)⟩
  · rintro _ w1 ⟨hk, rfl, hW1, hh1⟩
    have hk : t_remove C a0 a1 = 0 := hk
    have LT1 : z_LX x (k_remove C a0 a1) M n w1 := LT.cls (by unfold k_remove; rw [if_pos hk]; exact hW1) (okk_remove _ _ LT.1.2) hh1
    refine j_i2l dL_remove_7 ?_
    obtain ⟨-, -, ⟨ov20, og20⟩, -⟩ := id LT1
    refine j_put (w' := _) dL_remove_8 fL_13 tX9_0 og20 ⟨rfl, rfl⟩ rfl ?_
    refine j_seal (n := x) LT1.x1 ?_
    intro w2 u2
    have LT2 := LT1.out u2
    refine j_goto (tgt := 22) dL_remove_11 (by decide) ?_
    refine j_iconst (v := 0) dL_remove_22 (by decide) ?_
    refine j_iret dL_remove_23 rfl rfl ?_ (Nat.le_of_ble_eq_true rfl) (Nat.le_of_ble_eq_true rfl)
    exact ⟨_, by rw [hk], LT2, fun _ => rfl⟩
set_option maxRecDepth 100000 in
set_option maxHeartbeats 4000000 in
theorem lw_putIfAbsent (hl : l.stackTraces = false) (w : z_W) (x : Nat) (C M : sp_S) (n : Int64) (LT : z_LX x C M n w) (a0 : Int32) (a1 : Int32) (a2 : Int32) : z_Con G l mL_putIfAbsent 27 14 120 w [.ref 0, .int a0, .int a1, .int a2, .ref x] (fun v w9 => ∃ n9 : Int64, v = some (.int (t_putIfAbsent C a0 a1 a2)) ∧ z_LX x (k_putIfAbsent C a0 a1 a2) M n9 w9 ∧ (t_putIfAbsent C a0 a1 a2 = 0 → n9 = (a_putIfAbsent C a0 a1 a2).toInt64)) (fun _ _ => False) := by
  refine z_bodyW hl (by decide) (by decide) (Nat.le_of_ble_eq_true rfl) ?_
  show z_J G l mL_putIfAbsent _ 0 [(0, _), (1, _), (2, _), (3, _), (4, _)] [] _ 0 0
  refine j_aload dL_putIfAbsent_0 rfl rfl ?_
  refine j_aload_n dL_putIfAbsent_2 rfl rfl ?_
  refine j_iload_n dL_putIfAbsent_3 rfl ?_
  refine j_iload_n dL_putIfAbsent_4 rfl ?_
  refine j_iload_n dL_putIfAbsent_5 rfl ?_
  obtain ⟨fs21, gs21⟩ := LT.rc
  refine j_tryV (q := (RX8, TX8, 9)) dL_putIfAbsent_6 kX8_putIfAbsent lL_55 inX8_putIfAbsent seX8_putIfAbsent gs21 rfl (px_putIfAbsent hl w C LT.1.1 LT.1.2 a0 a1 a2) (Nat.le_of_ble_eq_true rfl) ⟨(Nat.le_of_ble_eq_true rfl), (Nat.le_of_ble_eq_true rfl)⟩ rfl (Nat.le_of_ble_eq_true rfl) rfl ?_ ?_
  · rintro E _ ⟨hE, rfl⟩
    rcases hE with hE | hE
    · obtain ⟨hE, hk⟩ := hE
      have hk : t_putIfAbsent C a0 a1 a2 = 1 := hk
      have hE : E = "java/lang/IndexOutOfBoundsException" := hE
      subst hE
      refine ⟨16, 18, ⟨[], (⟨0, 13, 16, 19⟩ : ExceptionTableEntry), _, "java/lang/IndexOutOfBoundsException", rfl, (fun z hz => by cases hz), by decide, by decide, (z_w 847 ((lwt_4_2 22).trans rfl) (by decide +kernel)), (z_wn 860 ((lwt_4_3 5).trans rfl) (by decide +kernel)), rfl⟩, Or.inl ⟨5, dL_putIfAbsent_16, by decide, rfl⟩, ?_⟩
      refine j_iconst (v := 1) dL_putIfAbsent_18 (by decide) ?_
      refine j_iret dL_putIfAbsent_19 rfl rfl ?_ (Nat.le_of_ble_eq_true rfl) (Nat.le_of_ble_eq_true rfl)
      exact ⟨_, by rw [hk], by unfold k_putIfAbsent; rw [if_neg (by rw [hk]; decide)]; exact LT, fun z => absurd (hk.symm.trans z) (by decide)⟩
    · obtain ⟨hE, hk⟩ := hE
      have hk : t_putIfAbsent C a0 a1 a2 = 2 := hk
      have hE : E = "java/lang/IllegalArgumentException" := hE
      subst hE
      refine ⟨20, 22, ⟨[(⟨0, 13, 16, 19⟩ : ExceptionTableEntry)], (⟨0, 13, 20, 21⟩ : ExceptionTableEntry), _, "java/lang/IllegalArgumentException", rfl, (fun z hz => by
          simp only [List.mem_cons, List.not_mem_nil, or_false] at hz
          rcases hz with rfl
          · exact Or.inr ⟨by decide, "java/lang/IndexOutOfBoundsException", (z_w 847 ((lwt_4_2 22).trans rfl) (by decide +kernel)), by decide⟩), by decide, by decide, (z_w 848 ((lwt_4_2 23).trans rfl) (by decide +kernel)), (z_wn 460 ((lwt_2_5 25).trans rfl) (by decide +kernel)), rfl⟩, Or.inl ⟨5, dL_putIfAbsent_20, by decide, rfl⟩, ?_⟩
      refine j_iconst (v := 2) dL_putIfAbsent_22 (by decide) ?_
      refine j_iret dL_putIfAbsent_23 rfl rfl ?_ (Nat.le_of_ble_eq_true rfl) (Nat.le_of_ble_eq_true rfl)
      exact ⟨_, by rw [hk], by unfold k_putIfAbsent; rw [if_neg (by rw [hk]; decide)]; exact LT, fun z => absurd (hk.symm.trans z) (by decide)⟩
  · rintro _ w1 ⟨hk, rfl, hW1, hh1⟩
    have hk : t_putIfAbsent C a0 a1 a2 = 0 := hk
    have LT1 : z_LX x (k_putIfAbsent C a0 a1 a2) M n w1 := LT.cls (by unfold k_putIfAbsent; rw [if_pos hk]; exact hW1) (okk_putIfAbsent _ _ _ LT.1.2) hh1
    refine j_i2l dL_putIfAbsent_9 ?_
    obtain ⟨-, -, ⟨ov22, og22⟩, -⟩ := id LT1
    refine j_put (w' := _) dL_putIfAbsent_10 fL_13 tX9_0 og22 ⟨rfl, rfl⟩ rfl ?_
    refine j_seal (n := x) LT1.x1 ?_
    intro w2 u2
    have LT2 := LT1.out u2
    refine j_goto (tgt := 24) dL_putIfAbsent_13 (by decide) ?_
    refine j_iconst (v := 0) dL_putIfAbsent_24 (by decide) ?_
    refine j_iret dL_putIfAbsent_25 rfl rfl ?_ (Nat.le_of_ble_eq_true rfl) (Nat.le_of_ble_eq_true rfl)
    exact ⟨_, by rw [hk], LT2, fun _ => rfl⟩
set_option maxRecDepth 100000 in
set_option maxHeartbeats 4000000 in
theorem lw_replace (hl : l.stackTraces = false) (w : z_W) (x : Nat) (C M : sp_S) (n : Int64) (LT : z_LX x C M n w) (a0 : Int32) (a1 : Int32) (a2 : Int32) : z_Con G l mL_replace 27 14 120 w [.ref 0, .int a0, .int a1, .int a2, .ref x] (fun v w9 => ∃ n9 : Int64, v = some (.int (t_replace C a0 a1 a2)) ∧ z_LX x (k_replace C a0 a1 a2) M n9 w9 ∧ (t_replace C a0 a1 a2 = 0 → n9 = (a_replace C a0 a1 a2).toInt64)) (fun _ _ => False) := by
  refine z_bodyW hl (by decide) (by decide) (Nat.le_of_ble_eq_true rfl) ?_
  show z_J G l mL_replace _ 0 [(0, _), (1, _), (2, _), (3, _), (4, _)] [] _ 0 0
  refine j_aload dL_replace_0 rfl rfl ?_
  refine j_aload_n dL_replace_2 rfl rfl ?_
  refine j_iload_n dL_replace_3 rfl ?_
  refine j_iload_n dL_replace_4 rfl ?_
  refine j_iload_n dL_replace_5 rfl ?_
  obtain ⟨fs23, gs23⟩ := LT.rc
  refine j_tryV (q := (RX8, TX8, 9)) dL_replace_6 kX8_replace lL_58 inX8_replace seX8_replace gs23 rfl (px_replace hl w C LT.1.1 LT.1.2 a0 a1 a2) (Nat.le_of_ble_eq_true rfl) ⟨(Nat.le_of_ble_eq_true rfl), (Nat.le_of_ble_eq_true rfl)⟩ rfl (Nat.le_of_ble_eq_true rfl) rfl ?_ ?_
  · rintro E _ ⟨hE, rfl⟩
    rcases hE with hE | hE
    · obtain ⟨hE, hk⟩ := hE
      have hk : t_replace C a0 a1 a2 = 1 := hk
      have hE : E = "java/lang/IndexOutOfBoundsException" := hE
      subst hE
      refine ⟨16, 18, ⟨[], (⟨0, 13, 16, 19⟩ : ExceptionTableEntry), _, "java/lang/IndexOutOfBoundsException", rfl, (fun z hz => by cases hz), by decide, by decide, (z_w 847 ((lwt_4_2 22).trans rfl) (by decide +kernel)), (z_wn 860 ((lwt_4_3 5).trans rfl) (by decide +kernel)), rfl⟩, Or.inl ⟨5, dL_replace_16, by decide, rfl⟩, ?_⟩
      refine j_iconst (v := 1) dL_replace_18 (by decide) ?_
      refine j_iret dL_replace_19 rfl rfl ?_ (Nat.le_of_ble_eq_true rfl) (Nat.le_of_ble_eq_true rfl)
      exact ⟨_, by rw [hk], by unfold k_replace; rw [if_neg (by rw [hk]; decide)]; exact LT, fun z => absurd (hk.symm.trans z) (by decide)⟩
    · obtain ⟨hE, hk⟩ := hE
      have hk : t_replace C a0 a1 a2 = 2 := hk
      have hE : E = "java/lang/IllegalArgumentException" := hE
      subst hE
      refine ⟨20, 22, ⟨[(⟨0, 13, 16, 19⟩ : ExceptionTableEntry)], (⟨0, 13, 20, 21⟩ : ExceptionTableEntry), _, "java/lang/IllegalArgumentException", rfl, (fun z hz => by
          simp only [List.mem_cons, List.not_mem_nil, or_false] at hz
          rcases hz with rfl
          · exact Or.inr ⟨by decide, "java/lang/IndexOutOfBoundsException", (z_w 847 ((lwt_4_2 22).trans rfl) (by decide +kernel)), by decide⟩), by decide, by decide, (z_w 848 ((lwt_4_2 23).trans rfl) (by decide +kernel)), (z_wn 460 ((lwt_2_5 25).trans rfl) (by decide +kernel)), rfl⟩, Or.inl ⟨5, dL_replace_20, by decide, rfl⟩, ?_⟩
      refine j_iconst (v := 2) dL_replace_22 (by decide) ?_
      refine j_iret dL_replace_23 rfl rfl ?_ (Nat.le_of_ble_eq_true rfl) (Nat.le_of_ble_eq_true rfl)
      exact ⟨_, by rw [hk], by unfold k_replace; rw [if_neg (by rw [hk]; decide)]; exact LT, fun z => absurd (hk.symm.trans z) (by decide)⟩
  · rintro _ w1 ⟨hk, rfl, hW1, hh1⟩
    have hk : t_replace C a0 a1 a2 = 0 := hk
    have LT1 : z_LX x (k_replace C a0 a1 a2) M n w1 := LT.cls (by unfold k_replace; rw [if_pos hk]; exact hW1) (okk_replace _ _ _ LT.1.2) hh1
    refine j_i2l dL_replace_9 ?_
    obtain ⟨-, -, ⟨ov24, og24⟩, -⟩ := id LT1
    refine j_put (w' := _) dL_replace_10 fL_13 tX9_0 og24 ⟨rfl, rfl⟩ rfl ?_
    refine j_seal (n := x) LT1.x1 ?_
    intro w2 u2
    have LT2 := LT1.out u2
    refine j_goto (tgt := 24) dL_replace_13 (by decide) ?_
    refine j_iconst (v := 0) dL_replace_24 (by decide) ?_
    refine j_iret dL_replace_25 rfl rfl ?_ (Nat.le_of_ble_eq_true rfl) (Nat.le_of_ble_eq_true rfl)
    exact ⟨_, by rw [hk], LT2, fun _ => rfl⟩
set_option maxRecDepth 100000 in
set_option maxHeartbeats 4000000 in
theorem lw_replaceIf (hl : l.stackTraces = false) (w : z_W) (x : Nat) (C M : sp_S) (n : Int64) (LT : z_LX x C M n w) (a0 : Int32) (a1 : Int32) (a2 : Int32) (a3 : Int32) : z_Con G l mL_replaceIf 27 14 120 w [.ref 0, .int a0, .int a1, .int a2, .int a3, .ref x] (fun v w9 => ∃ n9 : Int64, v = some (.int (t_replaceIf C a0 a1 a2 a3)) ∧ z_LX x (k_replaceIf C a0 a1 a2 a3) M n9 w9 ∧ (t_replaceIf C a0 a1 a2 a3 = 0 → n9 = (a_replaceIf C a0 a1 a2 a3).toInt64)) (fun _ _ => False) := by
  refine z_bodyW hl (by decide) (by decide) (Nat.le_of_ble_eq_true rfl) ?_
  show z_J G l mL_replaceIf _ 0 [(0, _), (1, _), (2, _), (3, _), (4, _), (5, _)] [] _ 0 0
  refine j_aload dL_replaceIf_0 rfl rfl ?_
  refine j_aload_n dL_replaceIf_2 rfl rfl ?_
  refine j_iload_n dL_replaceIf_3 rfl ?_
  refine j_iload_n dL_replaceIf_4 rfl ?_
  refine j_iload_n dL_replaceIf_5 rfl ?_
  refine j_iload dL_replaceIf_6 rfl ?_
  obtain ⟨fs25, gs25⟩ := LT.rc
  refine j_tryV (q := (RX8, TX8, 9)) dL_replaceIf_8 kX8_replaceIf lL_61 inX8_replaceIf seX8_replaceIf gs25 rfl (px_replaceIf hl w C LT.1.1 LT.1.2 a0 a1 a2 a3) (Nat.le_of_ble_eq_true rfl) ⟨(Nat.le_of_ble_eq_true rfl), (Nat.le_of_ble_eq_true rfl)⟩ rfl (Nat.le_of_ble_eq_true rfl) rfl ?_ ?_
  · rintro E _ ⟨hE, rfl⟩
    rcases hE with hE | hE
    · obtain ⟨hE, hk⟩ := hE
      have hk : t_replaceIf C a0 a1 a2 a3 = 1 := hk
      have hE : E = "java/lang/IndexOutOfBoundsException" := hE
      subst hE
      refine ⟨25, 27, ⟨[], (⟨0, 22, 25, 19⟩ : ExceptionTableEntry), _, "java/lang/IndexOutOfBoundsException", rfl, (fun z hz => by cases hz), by decide, by decide, (z_w 847 ((lwt_4_2 22).trans rfl) (by decide +kernel)), (z_wn 860 ((lwt_4_3 5).trans rfl) (by decide +kernel)), rfl⟩, Or.inl ⟨6, dL_replaceIf_25, by decide, rfl⟩, ?_⟩
      refine j_iconst (v := 1) dL_replaceIf_27 (by decide) ?_
      refine j_iret dL_replaceIf_28 rfl rfl ?_ (Nat.le_of_ble_eq_true rfl) (Nat.le_of_ble_eq_true rfl)
      exact ⟨_, by rw [hk], by unfold k_replaceIf; rw [if_neg (by rw [hk]; decide)]; exact LT, fun z => absurd (hk.symm.trans z) (by decide)⟩
    · obtain ⟨hE, hk⟩ := hE
      have hk : t_replaceIf C a0 a1 a2 a3 = 2 := hk
      have hE : E = "java/lang/IllegalArgumentException" := hE
      subst hE
      refine ⟨29, 31, ⟨[(⟨0, 22, 25, 19⟩ : ExceptionTableEntry)], (⟨0, 22, 29, 21⟩ : ExceptionTableEntry), _, "java/lang/IllegalArgumentException", rfl, (fun z hz => by
          simp only [List.mem_cons, List.not_mem_nil, or_false] at hz
          rcases hz with rfl
          · exact Or.inr ⟨by decide, "java/lang/IndexOutOfBoundsException", (z_w 847 ((lwt_4_2 22).trans rfl) (by decide +kernel)), by decide⟩), by decide, by decide, (z_w 848 ((lwt_4_2 23).trans rfl) (by decide +kernel)), (z_wn 460 ((lwt_2_5 25).trans rfl) (by decide +kernel)), rfl⟩, Or.inl ⟨6, dL_replaceIf_29, by decide, rfl⟩, ?_⟩
      refine j_iconst (v := 2) dL_replaceIf_31 (by decide) ?_
      refine j_iret dL_replaceIf_32 rfl rfl ?_ (Nat.le_of_ble_eq_true rfl) (Nat.le_of_ble_eq_true rfl)
      exact ⟨_, by rw [hk], by unfold k_replaceIf; rw [if_neg (by rw [hk]; decide)]; exact LT, fun z => absurd (hk.symm.trans z) (by decide)⟩
  · rintro _ w1 ⟨hk, rfl, hW1, hh1⟩
    have hk : t_replaceIf C a0 a1 a2 a3 = 0 := hk
    have LT1 : z_LX x (k_replaceIf C a0 a1 a2 a3) M n w1 := LT.cls (by unfold k_replaceIf; rw [if_pos hk]; exact hW1) (okk_replaceIf _ _ _ _ LT.1.2) hh1
    refine j_if_eq (tgt := 18) dL_replaceIf_11 (by decide) (fun c_11_31 => ?_) (fun c_11_31 => ?_)
    · refine j_lconst (v := 0) dL_replaceIf_18 (by decide) ?_
      obtain ⟨-, -, ⟨ov26, og26⟩, -⟩ := id LT1
      refine j_put (w' := _) dL_replaceIf_19 fL_13 tX9_0 og26 ⟨rfl, rfl⟩ rfl ?_
      refine j_seal (n := x) LT1.x1 ?_
      intro w2 u2
      have LT2 := LT1.out u2
      refine j_goto (tgt := 33) dL_replaceIf_22 (by decide) ?_
      refine j_iconst (v := 0) dL_replaceIf_33 (by decide) ?_
      refine j_iret dL_replaceIf_34 rfl rfl ?_ (Nat.le_of_ble_eq_true rfl) (Nat.le_of_ble_eq_true rfl)
      first | exact ⟨_, by rw [hk], LT2, fun _ => by rw [show a_replaceIf _ a0 a1 a2 a3 = 0 from c_11_31]; rfl⟩ | exact ⟨_, by rw [hk], LT2, fun _ => by rw [show a_replaceIf _ a0 a1 a2 a3 = 1 from sp_rif01.resolve_left c_11_31]; rfl⟩
    · refine j_lconst (v := 1) dL_replaceIf_14 (by decide) ?_
      refine j_goto (tgt := 19) dL_replaceIf_15 (by decide) ?_
      obtain ⟨-, -, ⟨ov27, og27⟩, -⟩ := id LT1
      refine j_put (w' := _) dL_replaceIf_19 fL_13 tX9_0 og27 ⟨rfl, rfl⟩ rfl ?_
      refine j_seal (n := x) LT1.x1 ?_
      intro w3 u3
      have LT3 := LT1.out u3
      refine j_goto (tgt := 33) dL_replaceIf_22 (by decide) ?_
      refine j_iconst (v := 0) dL_replaceIf_33 (by decide) ?_
      refine j_iret dL_replaceIf_34 rfl rfl ?_ (Nat.le_of_ble_eq_true rfl) (Nat.le_of_ble_eq_true rfl)
      first | exact ⟨_, by rw [hk], LT3, fun _ => by rw [show a_replaceIf _ a0 a1 a2 a3 = 0 from c_11_31]; rfl⟩ | exact ⟨_, by rw [hk], LT3, fun _ => by rw [show a_replaceIf _ a0 a1 a2 a3 = 1 from sp_rif01.resolve_left c_11_31]; rfl⟩
set_option maxRecDepth 100000 in
set_option maxHeartbeats 4000000 in
theorem lw_removePair (hl : l.stackTraces = false) (w : z_W) (x : Nat) (C M : sp_S) (n : Int64) (LT : z_LX x C M n w) (a0 : Int32) (a1 : Int32) (a2 : Int32) : z_Con G l mL_removePair 27 14 120 w [.ref 0, .int a0, .int a1, .int a2, .ref x] (fun v w9 => ∃ n9 : Int64, v = some (.int (t_removePair C a0 a1 a2)) ∧ z_LX x (k_removePair C a0 a1 a2) M n9 w9 ∧ (t_removePair C a0 a1 a2 = 0 → n9 = (a_removePair C a0 a1 a2).toInt64)) (fun _ _ => False) := by
  refine z_bodyW hl (by decide) (by decide) (Nat.le_of_ble_eq_true rfl) ?_
  show z_J G l mL_removePair _ 0 [(0, _), (1, _), (2, _), (3, _), (4, _)] [] _ 0 0
  refine j_aload dL_removePair_0 rfl rfl ?_
  refine j_aload_n dL_removePair_2 rfl rfl ?_
  refine j_iload_n dL_removePair_3 rfl ?_
  refine j_iload_n dL_removePair_4 rfl ?_
  refine j_iload_n dL_removePair_5 rfl ?_
  obtain ⟨fs28, gs28⟩ := LT.rc
  refine j_tryV (q := (RX8, TX8, 9)) dL_removePair_6 kX8_removePair lL_65 inX8_removePair seX8_removePair gs28 rfl (px_removePair hl w C LT.1.1 LT.1.2 a0 a1 a2) (Nat.le_of_ble_eq_true rfl) ⟨(Nat.le_of_ble_eq_true rfl), (Nat.le_of_ble_eq_true rfl)⟩ rfl (Nat.le_of_ble_eq_true rfl) rfl ?_ ?_
  · rintro E _ ⟨hE, rfl⟩
    rcases hE with hE | hE
    · obtain ⟨hE, hk⟩ := hE
      have hk : t_removePair C a0 a1 a2 = 1 := hk
      have hE : E = "java/lang/IndexOutOfBoundsException" := hE
      subst hE
      refine ⟨23, 25, ⟨[], (⟨0, 20, 23, 19⟩ : ExceptionTableEntry), _, "java/lang/IndexOutOfBoundsException", rfl, (fun z hz => by cases hz), by decide, by decide, (z_w 847 ((lwt_4_2 22).trans rfl) (by decide +kernel)), (z_wn 860 ((lwt_4_3 5).trans rfl) (by decide +kernel)), rfl⟩, Or.inl ⟨5, dL_removePair_23, by decide, rfl⟩, ?_⟩
      refine j_iconst (v := 1) dL_removePair_25 (by decide) ?_
      refine j_iret dL_removePair_26 rfl rfl ?_ (Nat.le_of_ble_eq_true rfl) (Nat.le_of_ble_eq_true rfl)
      exact ⟨_, by rw [hk], by unfold k_removePair; rw [if_neg (by rw [hk]; decide)]; exact LT, fun z => absurd (hk.symm.trans z) (by decide)⟩
    · obtain ⟨hE, hk⟩ := hE
      have hk : t_removePair C a0 a1 a2 = 2 := hk
      have hE : E = "java/lang/IllegalArgumentException" := hE
      subst hE
      refine ⟨27, 29, ⟨[(⟨0, 20, 23, 19⟩ : ExceptionTableEntry)], (⟨0, 20, 27, 21⟩ : ExceptionTableEntry), _, "java/lang/IllegalArgumentException", rfl, (fun z hz => by
          simp only [List.mem_cons, List.not_mem_nil, or_false] at hz
          rcases hz with rfl
          · exact Or.inr ⟨by decide, "java/lang/IndexOutOfBoundsException", (z_w 847 ((lwt_4_2 22).trans rfl) (by decide +kernel)), by decide⟩), by decide, by decide, (z_w 848 ((lwt_4_2 23).trans rfl) (by decide +kernel)), (z_wn 460 ((lwt_2_5 25).trans rfl) (by decide +kernel)), rfl⟩, Or.inl ⟨5, dL_removePair_27, by decide, rfl⟩, ?_⟩
      refine j_iconst (v := 2) dL_removePair_29 (by decide) ?_
      refine j_iret dL_removePair_30 rfl rfl ?_ (Nat.le_of_ble_eq_true rfl) (Nat.le_of_ble_eq_true rfl)
      exact ⟨_, by rw [hk], by unfold k_removePair; rw [if_neg (by rw [hk]; decide)]; exact LT, fun z => absurd (hk.symm.trans z) (by decide)⟩
  · rintro _ w1 ⟨hk, rfl, hW1, hh1⟩
    have hk : t_removePair C a0 a1 a2 = 0 := hk
    have LT1 : z_LX x (k_removePair C a0 a1 a2) M n w1 := LT.cls (by unfold k_removePair; rw [if_pos hk]; exact hW1) (okk_removePair _ _ _ LT.1.2) hh1
    refine j_if_eq (tgt := 16) dL_removePair_9 (by decide) (fun c_9_30 => ?_) (fun c_9_30 => ?_)
    · refine j_lconst (v := 0) dL_removePair_16 (by decide) ?_
      obtain ⟨-, -, ⟨ov29, og29⟩, -⟩ := id LT1
      refine j_put (w' := _) dL_removePair_17 fL_13 tX9_0 og29 ⟨rfl, rfl⟩ rfl ?_
      refine j_seal (n := x) LT1.x1 ?_
      intro w2 u2
      have LT2 := LT1.out u2
      refine j_goto (tgt := 31) dL_removePair_20 (by decide) ?_
      refine j_iconst (v := 0) dL_removePair_31 (by decide) ?_
      refine j_iret dL_removePair_32 rfl rfl ?_ (Nat.le_of_ble_eq_true rfl) (Nat.le_of_ble_eq_true rfl)
      first | exact ⟨_, by rw [hk], LT2, fun _ => by rw [show a_removePair _ a0 a1 a2 = 0 from c_9_30]; rfl⟩ | exact ⟨_, by rw [hk], LT2, fun _ => by rw [show a_removePair _ a0 a1 a2 = 1 from sp_rmp01.resolve_left c_9_30]; rfl⟩
    · refine j_lconst (v := 1) dL_removePair_12 (by decide) ?_
      refine j_goto (tgt := 17) dL_removePair_13 (by decide) ?_
      obtain ⟨-, -, ⟨ov30, og30⟩, -⟩ := id LT1
      refine j_put (w' := _) dL_removePair_17 fL_13 tX9_0 og30 ⟨rfl, rfl⟩ rfl ?_
      refine j_seal (n := x) LT1.x1 ?_
      intro w3 u3
      have LT3 := LT1.out u3
      refine j_goto (tgt := 31) dL_removePair_20 (by decide) ?_
      refine j_iconst (v := 0) dL_removePair_31 (by decide) ?_
      refine j_iret dL_removePair_32 rfl rfl ?_ (Nat.le_of_ble_eq_true rfl) (Nat.le_of_ble_eq_true rfl)
      first | exact ⟨_, by rw [hk], LT3, fun _ => by rw [show a_removePair _ a0 a1 a2 = 0 from c_9_30]; rfl⟩ | exact ⟨_, by rw [hk], LT3, fun _ => by rw [show a_removePair _ a0 a1 a2 = 1 from sp_rmp01.resolve_left c_9_30]; rfl⟩
set_option maxRecDepth 100000 in
set_option maxHeartbeats 4000000 in
theorem lw_computeIfAbsent (hl : l.stackTraces = false) (w : z_W) (x : Nat) (C M : sp_S) (n : Int64) (LT : z_LX x C M n w) (a0 : Int32) (a1 : Int32) (a2 : Int32) (a3 : Int32) : z_Con G l mL_computeIfAbsent 27 14 120 w [.ref 0, .int a0, .int a1, .int a2, .int a3, .ref x] (fun v w9 => ∃ n9 : Int64, v = some (.int (t_computeIfAbsent C a0 a1 a2 a3)) ∧ z_LX x (k_computeIfAbsent C a0 a1 a2 a3) M n9 w9 ∧ (t_computeIfAbsent C a0 a1 a2 a3 = 0 → n9 = (a_computeIfAbsent C a0 a1 a2 a3).toInt64)) (fun _ _ => False) := by
  refine z_bodyW hl (by decide) (by decide) (Nat.le_of_ble_eq_true rfl) ?_
  show z_J G l mL_computeIfAbsent _ 0 [(0, _), (1, _), (2, _), (3, _), (4, _), (5, _)] [] _ 0 0
  refine j_aload dL_computeIfAbsent_0 rfl rfl ?_
  refine j_aload_n dL_computeIfAbsent_2 rfl rfl ?_
  refine j_iload_n dL_computeIfAbsent_3 rfl ?_
  refine j_iload_n dL_computeIfAbsent_4 rfl ?_
  refine j_iload_n dL_computeIfAbsent_5 rfl ?_
  refine j_iload dL_computeIfAbsent_6 rfl ?_
  obtain ⟨fs31, gs31⟩ := LT.rc
  refine j_tryV (q := (RX8, TX8, 9)) dL_computeIfAbsent_8 kX8_computeIfAbsent lL_69 inX8_computeIfAbsent seX8_computeIfAbsent gs31 rfl (px_computeIfAbsent hl w C LT.1.1 LT.1.2 a0 a1 a2 a3) (Nat.le_of_ble_eq_true rfl) ⟨(Nat.le_of_ble_eq_true rfl), (Nat.le_of_ble_eq_true rfl)⟩ rfl (Nat.le_of_ble_eq_true rfl) rfl ?_ ?_
  · rintro E _ ⟨hE, rfl⟩
    rcases hE with hE | hE
    · obtain ⟨hE, hk⟩ := hE
      have hk : t_computeIfAbsent C a0 a1 a2 a3 = 1 := hk
      have hE : E = "java/lang/IndexOutOfBoundsException" := hE
      subst hE
      refine ⟨18, 20, ⟨[], (⟨0, 15, 18, 19⟩ : ExceptionTableEntry), _, "java/lang/IndexOutOfBoundsException", rfl, (fun z hz => by cases hz), by decide, by decide, (z_w 847 ((lwt_4_2 22).trans rfl) (by decide +kernel)), (z_wn 860 ((lwt_4_3 5).trans rfl) (by decide +kernel)), rfl⟩, Or.inl ⟨6, dL_computeIfAbsent_18, by decide, rfl⟩, ?_⟩
      refine j_iconst (v := 1) dL_computeIfAbsent_20 (by decide) ?_
      refine j_iret dL_computeIfAbsent_21 rfl rfl ?_ (Nat.le_of_ble_eq_true rfl) (Nat.le_of_ble_eq_true rfl)
      exact ⟨_, by rw [hk], by unfold k_computeIfAbsent; rw [if_neg (by rw [hk]; decide)]; exact LT, fun z => absurd (hk.symm.trans z) (by decide)⟩
    · obtain ⟨hE, hk⟩ := hE
      have hk : t_computeIfAbsent C a0 a1 a2 a3 = 2 := hk
      have hE : E = "java/lang/IllegalArgumentException" := hE
      subst hE
      refine ⟨22, 24, ⟨[(⟨0, 15, 18, 19⟩ : ExceptionTableEntry)], (⟨0, 15, 22, 21⟩ : ExceptionTableEntry), _, "java/lang/IllegalArgumentException", rfl, (fun z hz => by
          simp only [List.mem_cons, List.not_mem_nil, or_false] at hz
          rcases hz with rfl
          · exact Or.inr ⟨by decide, "java/lang/IndexOutOfBoundsException", (z_w 847 ((lwt_4_2 22).trans rfl) (by decide +kernel)), by decide⟩), by decide, by decide, (z_w 848 ((lwt_4_2 23).trans rfl) (by decide +kernel)), (z_wn 460 ((lwt_2_5 25).trans rfl) (by decide +kernel)), rfl⟩, Or.inl ⟨6, dL_computeIfAbsent_22, by decide, rfl⟩, ?_⟩
      refine j_iconst (v := 2) dL_computeIfAbsent_24 (by decide) ?_
      refine j_iret dL_computeIfAbsent_25 rfl rfl ?_ (Nat.le_of_ble_eq_true rfl) (Nat.le_of_ble_eq_true rfl)
      exact ⟨_, by rw [hk], by unfold k_computeIfAbsent; rw [if_neg (by rw [hk]; decide)]; exact LT, fun z => absurd (hk.symm.trans z) (by decide)⟩
  · rintro _ w1 ⟨hk, rfl, hW1, hh1⟩
    have hk : t_computeIfAbsent C a0 a1 a2 a3 = 0 := hk
    have LT1 : z_LX x (k_computeIfAbsent C a0 a1 a2 a3) M n w1 := LT.cls (by unfold k_computeIfAbsent; rw [if_pos hk]; exact hW1) (okk_computeIfAbsent _ _ _ _ LT.1.2) hh1
    refine j_i2l dL_computeIfAbsent_11 ?_
    obtain ⟨-, -, ⟨ov32, og32⟩, -⟩ := id LT1
    refine j_put (w' := _) dL_computeIfAbsent_12 fL_13 tX9_0 og32 ⟨rfl, rfl⟩ rfl ?_
    refine j_seal (n := x) LT1.x1 ?_
    intro w2 u2
    have LT2 := LT1.out u2
    refine j_goto (tgt := 26) dL_computeIfAbsent_15 (by decide) ?_
    refine j_iconst (v := 0) dL_computeIfAbsent_26 (by decide) ?_
    refine j_iret dL_computeIfAbsent_27 rfl rfl ?_ (Nat.le_of_ble_eq_true rfl) (Nat.le_of_ble_eq_true rfl)
    exact ⟨_, by rw [hk], LT2, fun _ => rfl⟩
set_option maxRecDepth 100000 in
set_option maxHeartbeats 4000000 in
theorem lw_computeIfPresent (hl : l.stackTraces = false) (w : z_W) (x : Nat) (C M : sp_S) (n : Int64) (LT : z_LX x C M n w) (a0 : Int32) (a1 : Int32) (a2 : Int32) (a3 : Int32) : z_Con G l mL_computeIfPresent 27 14 120 w [.ref 0, .int a0, .int a1, .int a2, .int a3, .ref x] (fun v w9 => ∃ n9 : Int64, v = some (.int (t_computeIfPresent C a0 a1 a2 a3)) ∧ z_LX x (k_computeIfPresent C a0 a1 a2 a3) M n9 w9 ∧ (t_computeIfPresent C a0 a1 a2 a3 = 0 → n9 = (a_computeIfPresent C a0 a1 a2 a3).toInt64)) (fun _ _ => False) := by
  refine z_bodyW hl (by decide) (by decide) (Nat.le_of_ble_eq_true rfl) ?_
  show z_J G l mL_computeIfPresent _ 0 [(0, _), (1, _), (2, _), (3, _), (4, _), (5, _)] [] _ 0 0
  refine j_aload dL_computeIfPresent_0 rfl rfl ?_
  refine j_aload_n dL_computeIfPresent_2 rfl rfl ?_
  refine j_iload_n dL_computeIfPresent_3 rfl ?_
  refine j_iload_n dL_computeIfPresent_4 rfl ?_
  refine j_iload_n dL_computeIfPresent_5 rfl ?_
  refine j_iload dL_computeIfPresent_6 rfl ?_
  obtain ⟨fs33, gs33⟩ := LT.rc
  refine j_tryV (q := (RX8, TX8, 9)) dL_computeIfPresent_8 kX8_computeIfPresent lL_73 inX8_computeIfPresent seX8_computeIfPresent gs33 rfl (px_computeIfPresent hl w C LT.1.1 LT.1.2 a0 a1 a2 a3) (Nat.le_of_ble_eq_true rfl) ⟨(Nat.le_of_ble_eq_true rfl), (Nat.le_of_ble_eq_true rfl)⟩ rfl (Nat.le_of_ble_eq_true rfl) rfl ?_ ?_
  · rintro E _ ⟨hE, rfl⟩
    rcases hE with hE | hE
    · obtain ⟨hE, hk⟩ := hE
      have hk : t_computeIfPresent C a0 a1 a2 a3 = 1 := hk
      have hE : E = "java/lang/IndexOutOfBoundsException" := hE
      subst hE
      refine ⟨18, 20, ⟨[], (⟨0, 15, 18, 19⟩ : ExceptionTableEntry), _, "java/lang/IndexOutOfBoundsException", rfl, (fun z hz => by cases hz), by decide, by decide, (z_w 847 ((lwt_4_2 22).trans rfl) (by decide +kernel)), (z_wn 860 ((lwt_4_3 5).trans rfl) (by decide +kernel)), rfl⟩, Or.inl ⟨6, dL_computeIfPresent_18, by decide, rfl⟩, ?_⟩
      refine j_iconst (v := 1) dL_computeIfPresent_20 (by decide) ?_
      refine j_iret dL_computeIfPresent_21 rfl rfl ?_ (Nat.le_of_ble_eq_true rfl) (Nat.le_of_ble_eq_true rfl)
      exact ⟨_, by rw [hk], by unfold k_computeIfPresent; rw [if_neg (by rw [hk]; decide)]; exact LT, fun z => absurd (hk.symm.trans z) (by decide)⟩
    · obtain ⟨hE, hk⟩ := hE
      have hk : t_computeIfPresent C a0 a1 a2 a3 = 2 := hk
      have hE : E = "java/lang/IllegalArgumentException" := hE
      subst hE
      refine ⟨22, 24, ⟨[(⟨0, 15, 18, 19⟩ : ExceptionTableEntry)], (⟨0, 15, 22, 21⟩ : ExceptionTableEntry), _, "java/lang/IllegalArgumentException", rfl, (fun z hz => by
          simp only [List.mem_cons, List.not_mem_nil, or_false] at hz
          rcases hz with rfl
          · exact Or.inr ⟨by decide, "java/lang/IndexOutOfBoundsException", (z_w 847 ((lwt_4_2 22).trans rfl) (by decide +kernel)), by decide⟩), by decide, by decide, (z_w 848 ((lwt_4_2 23).trans rfl) (by decide +kernel)), (z_wn 460 ((lwt_2_5 25).trans rfl) (by decide +kernel)), rfl⟩, Or.inl ⟨6, dL_computeIfPresent_22, by decide, rfl⟩, ?_⟩
      refine j_iconst (v := 2) dL_computeIfPresent_24 (by decide) ?_
      refine j_iret dL_computeIfPresent_25 rfl rfl ?_ (Nat.le_of_ble_eq_true rfl) (Nat.le_of_ble_eq_true rfl)
      exact ⟨_, by rw [hk], by unfold k_computeIfPresent; rw [if_neg (by rw [hk]; decide)]; exact LT, fun z => absurd (hk.symm.trans z) (by decide)⟩
  · rintro _ w1 ⟨hk, rfl, hW1, hh1⟩
    have hk : t_computeIfPresent C a0 a1 a2 a3 = 0 := hk
    have LT1 : z_LX x (k_computeIfPresent C a0 a1 a2 a3) M n w1 := LT.cls (by unfold k_computeIfPresent; rw [if_pos hk]; exact hW1) (okk_computeIfPresent _ _ _ _ LT.1.2) hh1
    refine j_i2l dL_computeIfPresent_11 ?_
    obtain ⟨-, -, ⟨ov34, og34⟩, -⟩ := id LT1
    refine j_put (w' := _) dL_computeIfPresent_12 fL_13 tX9_0 og34 ⟨rfl, rfl⟩ rfl ?_
    refine j_seal (n := x) LT1.x1 ?_
    intro w2 u2
    have LT2 := LT1.out u2
    refine j_goto (tgt := 26) dL_computeIfPresent_15 (by decide) ?_
    refine j_iconst (v := 0) dL_computeIfPresent_26 (by decide) ?_
    refine j_iret dL_computeIfPresent_27 rfl rfl ?_ (Nat.le_of_ble_eq_true rfl) (Nat.le_of_ble_eq_true rfl)
    exact ⟨_, by rw [hk], LT2, fun _ => rfl⟩
set_option maxRecDepth 100000 in
set_option maxHeartbeats 4000000 in
theorem lw_compute (hl : l.stackTraces = false) (w : z_W) (x : Nat) (C M : sp_S) (n : Int64) (LT : z_LX x C M n w) (a0 : Int32) (a1 : Int32) (a2 : Int32) (a3 : Int32) : z_Con G l mL_compute 27 14 120 w [.ref 0, .int a0, .int a1, .int a2, .int a3, .ref x] (fun v w9 => ∃ n9 : Int64, v = some (.int (t_compute C a0 a1 a2 a3)) ∧ z_LX x (k_compute C a0 a1 a2 a3) M n9 w9 ∧ (t_compute C a0 a1 a2 a3 = 0 → n9 = (a_compute C a0 a1 a2 a3).toInt64)) (fun _ _ => False) := by
  refine z_bodyW hl (by decide) (by decide) (Nat.le_of_ble_eq_true rfl) ?_
  show z_J G l mL_compute _ 0 [(0, _), (1, _), (2, _), (3, _), (4, _), (5, _)] [] _ 0 0
  refine j_aload dL_compute_0 rfl rfl ?_
  refine j_aload_n dL_compute_2 rfl rfl ?_
  refine j_iload_n dL_compute_3 rfl ?_
  refine j_iload_n dL_compute_4 rfl ?_
  refine j_iload_n dL_compute_5 rfl ?_
  refine j_iload dL_compute_6 rfl ?_
  obtain ⟨fs35, gs35⟩ := LT.rc
  refine j_tryV (q := (RX8, TX8, 9)) dL_compute_8 kX8_compute lL_76 inX8_compute seX8_compute gs35 rfl (px_compute hl w C LT.1.1 LT.1.2 a0 a1 a2 a3) (Nat.le_of_ble_eq_true rfl) ⟨(Nat.le_of_ble_eq_true rfl), (Nat.le_of_ble_eq_true rfl)⟩ rfl (Nat.le_of_ble_eq_true rfl) rfl ?_ ?_
  · rintro E _ ⟨hE, rfl⟩
    rcases hE with hE | hE
    · obtain ⟨hE, hk⟩ := hE
      have hk : t_compute C a0 a1 a2 a3 = 1 := hk
      have hE : E = "java/lang/IndexOutOfBoundsException" := hE
      subst hE
      refine ⟨18, 20, ⟨[], (⟨0, 15, 18, 19⟩ : ExceptionTableEntry), _, "java/lang/IndexOutOfBoundsException", rfl, (fun z hz => by cases hz), by decide, by decide, (z_w 847 ((lwt_4_2 22).trans rfl) (by decide +kernel)), (z_wn 860 ((lwt_4_3 5).trans rfl) (by decide +kernel)), rfl⟩, Or.inl ⟨6, dL_compute_18, by decide, rfl⟩, ?_⟩
      refine j_iconst (v := 1) dL_compute_20 (by decide) ?_
      refine j_iret dL_compute_21 rfl rfl ?_ (Nat.le_of_ble_eq_true rfl) (Nat.le_of_ble_eq_true rfl)
      exact ⟨_, by rw [hk], by unfold k_compute; rw [if_neg (by rw [hk]; decide)]; exact LT, fun z => absurd (hk.symm.trans z) (by decide)⟩
    · obtain ⟨hE, hk⟩ := hE
      have hk : t_compute C a0 a1 a2 a3 = 2 := hk
      have hE : E = "java/lang/IllegalArgumentException" := hE
      subst hE
      refine ⟨22, 24, ⟨[(⟨0, 15, 18, 19⟩ : ExceptionTableEntry)], (⟨0, 15, 22, 21⟩ : ExceptionTableEntry), _, "java/lang/IllegalArgumentException", rfl, (fun z hz => by
          simp only [List.mem_cons, List.not_mem_nil, or_false] at hz
          rcases hz with rfl
          · exact Or.inr ⟨by decide, "java/lang/IndexOutOfBoundsException", (z_w 847 ((lwt_4_2 22).trans rfl) (by decide +kernel)), by decide⟩), by decide, by decide, (z_w 848 ((lwt_4_2 23).trans rfl) (by decide +kernel)), (z_wn 460 ((lwt_2_5 25).trans rfl) (by decide +kernel)), rfl⟩, Or.inl ⟨6, dL_compute_22, by decide, rfl⟩, ?_⟩
      refine j_iconst (v := 2) dL_compute_24 (by decide) ?_
      refine j_iret dL_compute_25 rfl rfl ?_ (Nat.le_of_ble_eq_true rfl) (Nat.le_of_ble_eq_true rfl)
      exact ⟨_, by rw [hk], by unfold k_compute; rw [if_neg (by rw [hk]; decide)]; exact LT, fun z => absurd (hk.symm.trans z) (by decide)⟩
  · rintro _ w1 ⟨hk, rfl, hW1, hh1⟩
    have hk : t_compute C a0 a1 a2 a3 = 0 := hk
    have LT1 : z_LX x (k_compute C a0 a1 a2 a3) M n w1 := LT.cls (by unfold k_compute; rw [if_pos hk]; exact hW1) (okk_compute _ _ _ _ LT.1.2) hh1
    refine j_i2l dL_compute_11 ?_
    obtain ⟨-, -, ⟨ov36, og36⟩, -⟩ := id LT1
    refine j_put (w' := _) dL_compute_12 fL_13 tX9_0 og36 ⟨rfl, rfl⟩ rfl ?_
    refine j_seal (n := x) LT1.x1 ?_
    intro w2 u2
    have LT2 := LT1.out u2
    refine j_goto (tgt := 26) dL_compute_15 (by decide) ?_
    refine j_iconst (v := 0) dL_compute_26 (by decide) ?_
    refine j_iret dL_compute_27 rfl rfl ?_ (Nat.le_of_ble_eq_true rfl) (Nat.le_of_ble_eq_true rfl)
    exact ⟨_, by rw [hk], LT2, fun _ => rfl⟩
set_option maxRecDepth 100000 in
set_option maxHeartbeats 4000000 in
theorem lw_merge (hl : l.stackTraces = false) (w : z_W) (x : Nat) (C M : sp_S) (n : Int64) (LT : z_LX x C M n w) (a0 : Int32) (a1 : Int32) (a2 : Int32) (a3 : Int32) : z_Con G l mL_merge 27 14 120 w [.ref 0, .int a0, .int a1, .int a2, .int a3, .ref x] (fun v w9 => ∃ n9 : Int64, v = some (.int (t_merge C a0 a1 a2 a3)) ∧ z_LX x (k_merge C a0 a1 a2 a3) M n9 w9 ∧ (t_merge C a0 a1 a2 a3 = 0 → n9 = (a_merge C a0 a1 a2 a3).toInt64)) (fun _ _ => False) := by
  refine z_bodyW hl (by decide) (by decide) (Nat.le_of_ble_eq_true rfl) ?_
  show z_J G l mL_merge _ 0 [(0, _), (1, _), (2, _), (3, _), (4, _), (5, _)] [] _ 0 0
  refine j_aload dL_merge_0 rfl rfl ?_
  refine j_aload_n dL_merge_2 rfl rfl ?_
  refine j_iload_n dL_merge_3 rfl ?_
  refine j_iload_n dL_merge_4 rfl ?_
  refine j_iload_n dL_merge_5 rfl ?_
  refine j_iload dL_merge_6 rfl ?_
  obtain ⟨fs37, gs37⟩ := LT.rc
  refine j_tryV (q := (RX8, TX8, 9)) dL_merge_8 kX8_merge lL_79 inX8_merge seX8_merge gs37 rfl (px_merge hl w C LT.1.1 LT.1.2 a0 a1 a2 a3) (Nat.le_of_ble_eq_true rfl) ⟨(Nat.le_of_ble_eq_true rfl), (Nat.le_of_ble_eq_true rfl)⟩ rfl (Nat.le_of_ble_eq_true rfl) rfl ?_ ?_
  · rintro E _ ⟨hE, rfl⟩
    rcases hE with hE | hE
    · obtain ⟨hE, hk⟩ := hE
      have hk : t_merge C a0 a1 a2 a3 = 1 := hk
      have hE : E = "java/lang/IndexOutOfBoundsException" := hE
      subst hE
      refine ⟨18, 20, ⟨[], (⟨0, 15, 18, 19⟩ : ExceptionTableEntry), _, "java/lang/IndexOutOfBoundsException", rfl, (fun z hz => by cases hz), by decide, by decide, (z_w 847 ((lwt_4_2 22).trans rfl) (by decide +kernel)), (z_wn 860 ((lwt_4_3 5).trans rfl) (by decide +kernel)), rfl⟩, Or.inl ⟨6, dL_merge_18, by decide, rfl⟩, ?_⟩
      refine j_iconst (v := 1) dL_merge_20 (by decide) ?_
      refine j_iret dL_merge_21 rfl rfl ?_ (Nat.le_of_ble_eq_true rfl) (Nat.le_of_ble_eq_true rfl)
      exact ⟨_, by rw [hk], by unfold k_merge; rw [if_neg (by rw [hk]; decide)]; exact LT, fun z => absurd (hk.symm.trans z) (by decide)⟩
    · obtain ⟨hE, hk⟩ := hE
      have hk : t_merge C a0 a1 a2 a3 = 2 := hk
      have hE : E = "java/lang/IllegalArgumentException" := hE
      subst hE
      refine ⟨22, 24, ⟨[(⟨0, 15, 18, 19⟩ : ExceptionTableEntry)], (⟨0, 15, 22, 21⟩ : ExceptionTableEntry), _, "java/lang/IllegalArgumentException", rfl, (fun z hz => by
          simp only [List.mem_cons, List.not_mem_nil, or_false] at hz
          rcases hz with rfl
          · exact Or.inr ⟨by decide, "java/lang/IndexOutOfBoundsException", (z_w 847 ((lwt_4_2 22).trans rfl) (by decide +kernel)), by decide⟩), by decide, by decide, (z_w 848 ((lwt_4_2 23).trans rfl) (by decide +kernel)), (z_wn 460 ((lwt_2_5 25).trans rfl) (by decide +kernel)), rfl⟩, Or.inl ⟨6, dL_merge_22, by decide, rfl⟩, ?_⟩
      refine j_iconst (v := 2) dL_merge_24 (by decide) ?_
      refine j_iret dL_merge_25 rfl rfl ?_ (Nat.le_of_ble_eq_true rfl) (Nat.le_of_ble_eq_true rfl)
      exact ⟨_, by rw [hk], by unfold k_merge; rw [if_neg (by rw [hk]; decide)]; exact LT, fun z => absurd (hk.symm.trans z) (by decide)⟩
  · rintro _ w1 ⟨hk, rfl, hW1, hh1⟩
    have hk : t_merge C a0 a1 a2 a3 = 0 := hk
    have LT1 : z_LX x (k_merge C a0 a1 a2 a3) M n w1 := LT.cls (by unfold k_merge; rw [if_pos hk]; exact hW1) (okk_merge _ _ _ _ LT.1.2) hh1
    refine j_i2l dL_merge_11 ?_
    obtain ⟨-, -, ⟨ov38, og38⟩, -⟩ := id LT1
    refine j_put (w' := _) dL_merge_12 fL_13 tX9_0 og38 ⟨rfl, rfl⟩ rfl ?_
    refine j_seal (n := x) LT1.x1 ?_
    intro w2 u2
    have LT2 := LT1.out u2
    refine j_goto (tgt := 26) dL_merge_15 (by decide) ?_
    refine j_iconst (v := 0) dL_merge_26 (by decide) ?_
    refine j_iret dL_merge_27 rfl rfl ?_ (Nat.le_of_ble_eq_true rfl) (Nat.le_of_ble_eq_true rfl)
    exact ⟨_, by rw [hk], LT2, fun _ => rfl⟩
set_option maxRecDepth 100000 in
set_option maxHeartbeats 4000000 in
theorem lw_hearTable (hl : l.stackTraces = false) (w : z_W) (x : Nat) (C M : sp_S) (n : Int64) (LT : z_LX x C M n w) (a0 : Int32) (a1 : Int32) : z_Con G l mL_hearTable 27 14 120 w [.ref 0, .int a0, .int a1, .ref x] (fun v w9 => ∃ n9 : Int64, v = some (.int (t_hearTable C a0 a1)) ∧ z_LX x (k_hearTable C a0 a1) M n9 w9 ∧ (t_hearTable C a0 a1 = 0 → n9 = (a_hearTable C a0 a1).toInt64)) (fun _ _ => False) := by
  refine z_bodyW hl (by decide) (by decide) (Nat.le_of_ble_eq_true rfl) ?_
  show z_J G l mL_hearTable _ 0 [(0, _), (1, _), (2, _), (3, _)] [] _ 0 0
  refine j_aload_n dL_hearTable_0 rfl rfl ?_
  refine j_aload_n dL_hearTable_1 rfl rfl ?_
  refine j_iload_n dL_hearTable_2 rfl ?_
  refine j_iload_n dL_hearTable_3 rfl ?_
  obtain ⟨fs39, gs39⟩ := LT.rc
  refine j_tryV (q := (RX8, TX8, 9)) dL_hearTable_4 kX8_hearTable lL_82 inX8_hearTable seX8_hearTable gs39 rfl (px_hearTable hl w C LT.1.1 LT.1.2 a0 a1) (Nat.le_of_ble_eq_true rfl) ⟨(Nat.le_of_ble_eq_true rfl), (Nat.le_of_ble_eq_true rfl)⟩ rfl (Nat.le_of_ble_eq_true rfl) rfl ?_ ?_
  · rintro E _ ⟨hE, rfl⟩
    obtain ⟨hE, hk⟩ := hE
    have hk : t_hearTable C a0 a1 = 1 := hk
    have hE : E = "java/lang/IndexOutOfBoundsException" := hE
    subst hE
    refine ⟨14, 16, ⟨[], (⟨0, 11, 14, 19⟩ : ExceptionTableEntry), _, "java/lang/IndexOutOfBoundsException", rfl, (fun z hz => by cases hz), by decide, by decide, (z_w 847 ((lwt_4_2 22).trans rfl) (by decide +kernel)), (z_wn 860 ((lwt_4_3 5).trans rfl) (by decide +kernel)), rfl⟩, Or.inl ⟨4, dL_hearTable_14, by decide, rfl⟩, ?_⟩
    refine j_iconst (v := 1) dL_hearTable_16 (by decide) ?_
    refine j_iret dL_hearTable_17 rfl rfl ?_ (Nat.le_of_ble_eq_true rfl) (Nat.le_of_ble_eq_true rfl)
    exact ⟨_, by rw [hk], by unfold k_hearTable; rw [if_neg (by rw [hk]; decide)]; exact LT, fun z => absurd (hk.symm.trans z) (by decide)⟩
  · rintro _ w1 ⟨hk, rfl, hW1, hh1⟩
    have hk : t_hearTable C a0 a1 = 0 := hk
    have LT1 : z_LX x (k_hearTable C a0 a1) M n w1 := LT.cls (by unfold k_hearTable; rw [if_pos hk]; exact hW1) (okk_hearTable _ _ LT.1.2) hh1
    refine j_i2l dL_hearTable_7 ?_
    obtain ⟨-, -, ⟨ov40, og40⟩, -⟩ := id LT1
    refine j_put (w' := _) dL_hearTable_8 fL_13 tX9_0 og40 ⟨rfl, rfl⟩ rfl ?_
    refine j_seal (n := x) LT1.x1 ?_
    intro w2 u2
    have LT2 := LT1.out u2
    refine j_goto (tgt := 18) dL_hearTable_11 (by decide) ?_
    refine j_iconst (v := 0) dL_hearTable_18 (by decide) ?_
    refine j_iret dL_hearTable_19 rfl rfl ?_ (Nat.le_of_ble_eq_true rfl) (Nat.le_of_ble_eq_true rfl)
    exact ⟨_, by rw [hk], LT2, fun _ => rfl⟩
set_option maxRecDepth 100000 in
set_option maxHeartbeats 4000000 in
theorem lw_replaceTable (hl : l.stackTraces = false) (w : z_W) (x : Nat) (C M : sp_S) (n : Int64) (LT : z_LX x C M n w) (a0 : Int32) (a1 : Int32) (a2 : Int32) : z_Con G l mL_replaceTable 27 14 120 w [.ref 0, .int a0, .int a1, .int a2, .ref x] (fun v w9 => ∃ n9 : Int64, v = some (.int (t_replaceTable C a0 a1 a2)) ∧ z_LX x (k_replaceTable C a0 a1 a2) M n9 w9 ∧ (t_replaceTable C a0 a1 a2 = 0 → n9 = (a_replaceTable C a0 a1 a2).toInt64)) (fun _ _ => False) := by
  refine z_bodyW hl (by decide) (by decide) (Nat.le_of_ble_eq_true rfl) ?_
  show z_J G l mL_replaceTable _ 0 [(0, _), (1, _), (2, _), (3, _), (4, _)] [] _ 0 0
  refine j_aload dL_replaceTable_0 rfl rfl ?_
  refine j_aload_n dL_replaceTable_2 rfl rfl ?_
  refine j_iload_n dL_replaceTable_3 rfl ?_
  refine j_iload_n dL_replaceTable_4 rfl ?_
  refine j_iload_n dL_replaceTable_5 rfl ?_
  obtain ⟨fs41, gs41⟩ := LT.rc
  refine j_tryV (q := (RX8, TX8, 9)) dL_replaceTable_6 kX8_replaceTable lL_85 inX8_replaceTable seX8_replaceTable gs41 rfl (px_replaceTable hl w C LT.1.1 LT.1.2 a0 a1 a2) (Nat.le_of_ble_eq_true rfl) ⟨(Nat.le_of_ble_eq_true rfl), (Nat.le_of_ble_eq_true rfl)⟩ rfl (Nat.le_of_ble_eq_true rfl) rfl ?_ ?_
  · rintro E _ ⟨hE, rfl⟩
    rcases hE with hE | hE
    · obtain ⟨hE, hk⟩ := hE
      have hk : t_replaceTable C a0 a1 a2 = 1 := hk
      have hE : E = "java/lang/IndexOutOfBoundsException" := hE
      subst hE
      refine ⟨16, 18, ⟨[], (⟨0, 13, 16, 19⟩ : ExceptionTableEntry), _, "java/lang/IndexOutOfBoundsException", rfl, (fun z hz => by cases hz), by decide, by decide, (z_w 847 ((lwt_4_2 22).trans rfl) (by decide +kernel)), (z_wn 860 ((lwt_4_3 5).trans rfl) (by decide +kernel)), rfl⟩, Or.inl ⟨5, dL_replaceTable_16, by decide, rfl⟩, ?_⟩
      refine j_iconst (v := 1) dL_replaceTable_18 (by decide) ?_
      refine j_iret dL_replaceTable_19 rfl rfl ?_ (Nat.le_of_ble_eq_true rfl) (Nat.le_of_ble_eq_true rfl)
      exact ⟨_, by rw [hk], by unfold k_replaceTable; rw [if_neg (by rw [hk]; decide)]; exact LT, fun z => absurd (hk.symm.trans z) (by decide)⟩
    · obtain ⟨hE, hk⟩ := hE
      have hk : t_replaceTable C a0 a1 a2 = 2 := hk
      have hE : E = "java/lang/IllegalArgumentException" := hE
      subst hE
      refine ⟨20, 22, ⟨[(⟨0, 13, 16, 19⟩ : ExceptionTableEntry)], (⟨0, 13, 20, 21⟩ : ExceptionTableEntry), _, "java/lang/IllegalArgumentException", rfl, (fun z hz => by
          simp only [List.mem_cons, List.not_mem_nil, or_false] at hz
          rcases hz with rfl
          · exact Or.inr ⟨by decide, "java/lang/IndexOutOfBoundsException", (z_w 847 ((lwt_4_2 22).trans rfl) (by decide +kernel)), by decide⟩), by decide, by decide, (z_w 848 ((lwt_4_2 23).trans rfl) (by decide +kernel)), (z_wn 460 ((lwt_2_5 25).trans rfl) (by decide +kernel)), rfl⟩, Or.inl ⟨5, dL_replaceTable_20, by decide, rfl⟩, ?_⟩
      refine j_iconst (v := 2) dL_replaceTable_22 (by decide) ?_
      refine j_iret dL_replaceTable_23 rfl rfl ?_ (Nat.le_of_ble_eq_true rfl) (Nat.le_of_ble_eq_true rfl)
      exact ⟨_, by rw [hk], by unfold k_replaceTable; rw [if_neg (by rw [hk]; decide)]; exact LT, fun z => absurd (hk.symm.trans z) (by decide)⟩
  · rintro _ w1 ⟨hk, rfl, hW1, hh1⟩
    have hk : t_replaceTable C a0 a1 a2 = 0 := hk
    have LT1 : z_LX x (k_replaceTable C a0 a1 a2) M n w1 := LT.cls (by unfold k_replaceTable; rw [if_pos hk]; exact hW1) (okk_replaceTable _ _ _ LT.1.2) hh1
    refine j_i2l dL_replaceTable_9 ?_
    obtain ⟨-, -, ⟨ov42, og42⟩, -⟩ := id LT1
    refine j_put (w' := _) dL_replaceTable_10 fL_13 tX9_0 og42 ⟨rfl, rfl⟩ rfl ?_
    refine j_seal (n := x) LT1.x1 ?_
    intro w2 u2
    have LT2 := LT1.out u2
    refine j_goto (tgt := 24) dL_replaceTable_13 (by decide) ?_
    refine j_iconst (v := 0) dL_replaceTable_24 (by decide) ?_
    refine j_iret dL_replaceTable_25 rfl rfl ?_ (Nat.le_of_ble_eq_true rfl) (Nat.le_of_ble_eq_true rfl)
    exact ⟨_, by rw [hk], LT2, fun _ => rfl⟩
set_option maxRecDepth 100000 in
set_option maxHeartbeats 4000000 in
theorem lw_clear (hl : l.stackTraces = false) (w : z_W) (x : Nat) (C M : sp_S) (n : Int64) (LT : z_LX x C M n w) (a0 : Int32) : z_Con G l mL_clear 27 14 120 w [.ref 0, .int a0, .ref x] (fun v w9 => ∃ n9 : Int64, v = some (.int (t_clear C a0)) ∧ z_LX x (k_clear C a0) M n9 w9 ∧ (t_clear C a0 = 0 → n9 = (a_clear C a0).toInt64)) (fun _ _ => False) := by
  refine z_bodyW hl (by decide) (by decide) (Nat.le_of_ble_eq_true rfl) ?_
  show z_J G l mL_clear _ 0 [(0, _), (1, _), (2, _)] [] _ 0 0
  refine j_aload_n dL_clear_0 rfl rfl ?_
  refine j_aload_n dL_clear_1 rfl rfl ?_
  refine j_iload_n dL_clear_2 rfl ?_
  obtain ⟨fs43, gs43⟩ := LT.rc
  refine j_tryV (q := (RX8, TX8, 9)) dL_clear_3 kX8_clear lL_88 inX8_clear seX8_clear gs43 rfl (px_clear hl w C LT.1.1 LT.1.2 a0) (Nat.le_of_ble_eq_true rfl) ⟨(Nat.le_of_ble_eq_true rfl), (Nat.le_of_ble_eq_true rfl)⟩ rfl (Nat.le_of_ble_eq_true rfl) rfl ?_ ?_
  · rintro E _ ⟨hE, rfl⟩
    obtain ⟨hE, hk⟩ := hE
    have hk : t_clear C a0 = 1 := hk
    have hE : E = "java/lang/IndexOutOfBoundsException" := hE
    subst hE
    refine ⟨13, 14, ⟨[], (⟨0, 10, 13, 19⟩ : ExceptionTableEntry), _, "java/lang/IndexOutOfBoundsException", rfl, (fun z hz => by cases hz), by decide, by decide, (z_w 847 ((lwt_4_2 22).trans rfl) (by decide +kernel)), (z_wn 860 ((lwt_4_3 5).trans rfl) (by decide +kernel)), rfl⟩, Or.inr ⟨3, dL_clear_13, by decide, rfl⟩, ?_⟩
    refine j_iconst (v := 1) dL_clear_14 (by decide) ?_
    refine j_iret dL_clear_15 rfl rfl ?_ (Nat.le_of_ble_eq_true rfl) (Nat.le_of_ble_eq_true rfl)
    exact ⟨_, by rw [hk], by unfold k_clear; rw [if_neg (by rw [hk]; decide)]; exact LT, fun z => absurd (hk.symm.trans z) (by decide)⟩
  · rintro _ w1 ⟨hk, rfl, hW1, hh1⟩
    have hk : t_clear C a0 = 0 := hk
    have LT1 : z_LX x (k_clear C a0) M n w1 := LT.cls (by unfold k_clear; rw [if_pos hk]; exact hW1) (okk_clear _ LT.1.2) hh1
    refine j_i2l dL_clear_6 ?_
    obtain ⟨-, -, ⟨ov44, og44⟩, -⟩ := id LT1
    refine j_put (w' := _) dL_clear_7 fL_13 tX9_0 og44 ⟨rfl, rfl⟩ rfl ?_
    refine j_seal (n := x) LT1.x1 ?_
    intro w2 u2
    have LT2 := LT1.out u2
    refine j_goto (tgt := 16) dL_clear_10 (by decide) ?_
    refine j_iconst (v := 0) dL_clear_16 (by decide) ?_
    refine j_iret dL_clear_17 rfl rfl ?_ (Nat.le_of_ble_eq_true rfl) (Nat.le_of_ble_eq_true rfl)
    exact ⟨_, by rw [hk], LT2, fun _ => rfl⟩
set_option maxRecDepth 100000 in
set_option maxHeartbeats 4000000 in
theorem lw_hearSpan (hl : l.stackTraces = false) (w : z_W) (x : Nat) (C M : sp_S) (n : Int64) (LT : z_LX x C M n w) (a0 : Int32) (a1 : Int32) (a2 : Int32) (a3 : Int32) : z_Con G l mL_hearSpan 27 14 120 w [.ref 0, .int a0, .int a1, .int a2, .int a3, .ref x] (fun v w9 => ∃ n9 : Int64, v = some (.int (t_hearSpan C a0 a1 a2 a3)) ∧ z_LX x (k_hearSpan C a0 a1 a2 a3) M n9 w9 ∧ (t_hearSpan C a0 a1 a2 a3 = 0 → n9 = (a_hearSpan C a0 a1 a2 a3).toInt64)) (fun _ _ => False) := by
  refine z_bodyW hl (by decide) (by decide) (Nat.le_of_ble_eq_true rfl) ?_
  show z_J G l mL_hearSpan _ 0 [(0, _), (1, _), (2, _), (3, _), (4, _), (5, _)] [] _ 0 0
  refine j_aload dL_hearSpan_0 rfl rfl ?_
  refine j_aload_n dL_hearSpan_2 rfl rfl ?_
  refine j_iload_n dL_hearSpan_3 rfl ?_
  refine j_iload_n dL_hearSpan_4 rfl ?_
  refine j_iload_n dL_hearSpan_5 rfl ?_
  refine j_iload dL_hearSpan_6 rfl ?_
  obtain ⟨fs45, gs45⟩ := LT.rc
  refine j_tryV (q := (RX8, TX8, 9)) dL_hearSpan_8 kX8_hearSpan lL_91 inX8_hearSpan seX8_hearSpan gs45 rfl (px_hearSpan hl w C LT.1.1 LT.1.2 a0 a1 a2 a3) (Nat.le_of_ble_eq_true rfl) ⟨(Nat.le_of_ble_eq_true rfl), (Nat.le_of_ble_eq_true rfl)⟩ rfl (Nat.le_of_ble_eq_true rfl) rfl ?_ ?_
  · rintro E _ ⟨hE, rfl⟩
    rcases hE with hE | hE
    · obtain ⟨hE, hk⟩ := hE
      have hk : t_hearSpan C a0 a1 a2 a3 = 1 := hk
      have hE : E = "java/lang/IndexOutOfBoundsException" := hE
      subst hE
      refine ⟨18, 20, ⟨[], (⟨0, 15, 18, 19⟩ : ExceptionTableEntry), _, "java/lang/IndexOutOfBoundsException", rfl, (fun z hz => by cases hz), by decide, by decide, (z_w 847 ((lwt_4_2 22).trans rfl) (by decide +kernel)), (z_wn 860 ((lwt_4_3 5).trans rfl) (by decide +kernel)), rfl⟩, Or.inl ⟨6, dL_hearSpan_18, by decide, rfl⟩, ?_⟩
      refine j_iconst (v := 1) dL_hearSpan_20 (by decide) ?_
      refine j_iret dL_hearSpan_21 rfl rfl ?_ (Nat.le_of_ble_eq_true rfl) (Nat.le_of_ble_eq_true rfl)
      exact ⟨_, by rw [hk], by unfold k_hearSpan; rw [if_neg (by rw [hk]; decide)]; exact LT, fun z => absurd (hk.symm.trans z) (by decide)⟩
    · obtain ⟨hE, hk⟩ := hE
      have hk : t_hearSpan C a0 a1 a2 a3 = 2 := hk
      have hE : E = "java/lang/IllegalArgumentException" := hE
      subst hE
      refine ⟨22, 24, ⟨[(⟨0, 15, 18, 19⟩ : ExceptionTableEntry)], (⟨0, 15, 22, 21⟩ : ExceptionTableEntry), _, "java/lang/IllegalArgumentException", rfl, (fun z hz => by
          simp only [List.mem_cons, List.not_mem_nil, or_false] at hz
          rcases hz with rfl
          · exact Or.inr ⟨by decide, "java/lang/IndexOutOfBoundsException", (z_w 847 ((lwt_4_2 22).trans rfl) (by decide +kernel)), by decide⟩), by decide, by decide, (z_w 848 ((lwt_4_2 23).trans rfl) (by decide +kernel)), (z_wn 460 ((lwt_2_5 25).trans rfl) (by decide +kernel)), rfl⟩, Or.inl ⟨6, dL_hearSpan_22, by decide, rfl⟩, ?_⟩
      refine j_iconst (v := 2) dL_hearSpan_24 (by decide) ?_
      refine j_iret dL_hearSpan_25 rfl rfl ?_ (Nat.le_of_ble_eq_true rfl) (Nat.le_of_ble_eq_true rfl)
      exact ⟨_, by rw [hk], by unfold k_hearSpan; rw [if_neg (by rw [hk]; decide)]; exact LT, fun z => absurd (hk.symm.trans z) (by decide)⟩
  · rintro _ w1 ⟨hk, rfl, hW1, hh1⟩
    have hk : t_hearSpan C a0 a1 a2 a3 = 0 := hk
    have LT1 : z_LX x (k_hearSpan C a0 a1 a2 a3) M n w1 := LT.cls (by unfold k_hearSpan; rw [if_pos hk]; exact hW1) (okk_hearSpan _ _ _ _ LT.1.2) hh1
    refine j_i2l dL_hearSpan_11 ?_
    obtain ⟨-, -, ⟨ov46, og46⟩, -⟩ := id LT1
    refine j_put (w' := _) dL_hearSpan_12 fL_13 tX9_0 og46 ⟨rfl, rfl⟩ rfl ?_
    refine j_seal (n := x) LT1.x1 ?_
    intro w2 u2
    have LT2 := LT1.out u2
    refine j_goto (tgt := 26) dL_hearSpan_15 (by decide) ?_
    refine j_iconst (v := 0) dL_hearSpan_26 (by decide) ?_
    refine j_iret dL_hearSpan_27 rfl rfl ?_ (Nat.le_of_ble_eq_true rfl) (Nat.le_of_ble_eq_true rfl)
    exact ⟨_, by rw [hk], LT2, fun _ => rfl⟩
set_option maxRecDepth 100000 in
set_option maxHeartbeats 4000000 in
theorem lw_hearSteps (hl : l.stackTraces = false) (w : z_W) (x : Nat) (C M : sp_S) (n : Int64) (LT : z_LX x C M n w) (a0 : Int32) (a1 : Int32) (a2 : Int32) (a3 : Int32) (a4 : Int32) : z_Con G l mL_hearSteps 27 14 120 w [.ref 0, .int a0, .int a1, .int a2, .int a3, .int a4, .ref x] (fun v w9 => ∃ n9 : Int64, v = some (.int (t_hearSteps C a0 a1 a2 a3 a4)) ∧ z_LX x (k_hearSteps C a0 a1 a2 a3 a4) M n9 w9 ∧ (t_hearSteps C a0 a1 a2 a3 a4 = 0 → n9 = (a_hearSteps C a0 a1 a2 a3 a4).toInt64)) (fun _ _ => False) := by
  refine z_bodyW hl (by decide) (by decide) (Nat.le_of_ble_eq_true rfl) ?_
  show z_J G l mL_hearSteps _ 0 [(0, _), (1, _), (2, _), (3, _), (4, _), (5, _), (6, _)] [] _ 0 0
  refine j_aload dL_hearSteps_0 rfl rfl ?_
  refine j_aload_n dL_hearSteps_2 rfl rfl ?_
  refine j_iload_n dL_hearSteps_3 rfl ?_
  refine j_iload_n dL_hearSteps_4 rfl ?_
  refine j_iload_n dL_hearSteps_5 rfl ?_
  refine j_iload dL_hearSteps_6 rfl ?_
  refine j_iload dL_hearSteps_8 rfl ?_
  obtain ⟨fs47, gs47⟩ := LT.rc
  refine j_tryV (q := (RX8, TX8, 9)) dL_hearSteps_10 kX8_hearSteps lL_94 inX8_hearSteps seX8_hearSteps gs47 rfl (px_hearSteps hl w C LT.1.1 LT.1.2 a0 a1 a2 a3 a4) (Nat.le_of_ble_eq_true rfl) ⟨(Nat.le_of_ble_eq_true rfl), (Nat.le_of_ble_eq_true rfl)⟩ rfl (Nat.le_of_ble_eq_true rfl) rfl ?_ ?_
  · rintro E _ ⟨hE, rfl⟩
    rcases hE with hE | hE
    · obtain ⟨hE, hk⟩ := hE
      have hk : t_hearSteps C a0 a1 a2 a3 a4 = 1 := hk
      have hE : E = "java/lang/IndexOutOfBoundsException" := hE
      subst hE
      refine ⟨20, 22, ⟨[], (⟨0, 17, 20, 19⟩ : ExceptionTableEntry), _, "java/lang/IndexOutOfBoundsException", rfl, (fun z hz => by cases hz), by decide, by decide, (z_w 847 ((lwt_4_2 22).trans rfl) (by decide +kernel)), (z_wn 860 ((lwt_4_3 5).trans rfl) (by decide +kernel)), rfl⟩, Or.inl ⟨7, dL_hearSteps_20, by decide, rfl⟩, ?_⟩
      refine j_iconst (v := 1) dL_hearSteps_22 (by decide) ?_
      refine j_iret dL_hearSteps_23 rfl rfl ?_ (Nat.le_of_ble_eq_true rfl) (Nat.le_of_ble_eq_true rfl)
      exact ⟨_, by rw [hk], by unfold k_hearSteps; rw [if_neg (by rw [hk]; decide)]; exact LT, fun z => absurd (hk.symm.trans z) (by decide)⟩
    · obtain ⟨hE, hk⟩ := hE
      have hk : t_hearSteps C a0 a1 a2 a3 a4 = 2 := hk
      have hE : E = "java/lang/IllegalArgumentException" := hE
      subst hE
      refine ⟨24, 26, ⟨[(⟨0, 17, 20, 19⟩ : ExceptionTableEntry)], (⟨0, 17, 24, 21⟩ : ExceptionTableEntry), _, "java/lang/IllegalArgumentException", rfl, (fun z hz => by
          simp only [List.mem_cons, List.not_mem_nil, or_false] at hz
          rcases hz with rfl
          · exact Or.inr ⟨by decide, "java/lang/IndexOutOfBoundsException", (z_w 847 ((lwt_4_2 22).trans rfl) (by decide +kernel)), by decide⟩), by decide, by decide, (z_w 848 ((lwt_4_2 23).trans rfl) (by decide +kernel)), (z_wn 460 ((lwt_2_5 25).trans rfl) (by decide +kernel)), rfl⟩, Or.inl ⟨7, dL_hearSteps_24, by decide, rfl⟩, ?_⟩
      refine j_iconst (v := 2) dL_hearSteps_26 (by decide) ?_
      refine j_iret dL_hearSteps_27 rfl rfl ?_ (Nat.le_of_ble_eq_true rfl) (Nat.le_of_ble_eq_true rfl)
      exact ⟨_, by rw [hk], by unfold k_hearSteps; rw [if_neg (by rw [hk]; decide)]; exact LT, fun z => absurd (hk.symm.trans z) (by decide)⟩
  · rintro _ w1 ⟨hk, rfl, hW1, hh1⟩
    have hk : t_hearSteps C a0 a1 a2 a3 a4 = 0 := hk
    have LT1 : z_LX x (k_hearSteps C a0 a1 a2 a3 a4) M n w1 := LT.cls (by unfold k_hearSteps; rw [if_pos hk]; exact hW1) (okk_hearSteps _ _ _ _ _ LT.1.2) hh1
    refine j_i2l dL_hearSteps_13 ?_
    obtain ⟨-, -, ⟨ov48, og48⟩, -⟩ := id LT1
    refine j_put (w' := _) dL_hearSteps_14 fL_13 tX9_0 og48 ⟨rfl, rfl⟩ rfl ?_
    refine j_seal (n := x) LT1.x1 ?_
    intro w2 u2
    have LT2 := LT1.out u2
    refine j_goto (tgt := 28) dL_hearSteps_17 (by decide) ?_
    refine j_iconst (v := 0) dL_hearSteps_28 (by decide) ?_
    refine j_iret dL_hearSteps_29 rfl rfl ?_ (Nat.le_of_ble_eq_true rfl) (Nat.le_of_ble_eq_true rfl)
    exact ⟨_, by rw [hk], LT2, fun _ => rfl⟩
set_option maxRecDepth 100000 in
set_option maxHeartbeats 4000000 in
theorem lw_takeStep (hl : l.stackTraces = false) (w : z_W) (x : Nat) (C M : sp_S) (n : Int64) (LT : z_LX x C M n w) (a0 : Int32) (a1 : Int32) : z_Con G l mL_takeStep 27 14 120 w [.ref 0, .int a0, .int a1, .ref x] (fun v w9 => ∃ n9 : Int64, v = some (.int (t_takeStep C a0 a1)) ∧ z_LX x (k_takeStep C a0 a1) M n9 w9 ∧ (t_takeStep C a0 a1 = 0 → n9 = (a_takeStep C a0 a1).toInt64)) (fun _ _ => False) := by
  refine z_bodyW hl (by decide) (by decide) (Nat.le_of_ble_eq_true rfl) ?_
  show z_J G l mL_takeStep _ 0 [(0, _), (1, _), (2, _), (3, _)] [] _ 0 0
  refine j_aload_n dL_takeStep_0 rfl rfl ?_
  refine j_aload_n dL_takeStep_1 rfl rfl ?_
  refine j_iload_n dL_takeStep_2 rfl ?_
  refine j_iload_n dL_takeStep_3 rfl ?_
  obtain ⟨fs49, gs49⟩ := LT.rc
  refine j_tryV (q := (RX8, TX8, 9)) dL_takeStep_4 kX8_takeStep lL_98 inX8_takeStep seX8_takeStep gs49 rfl (px_takeStep hl w C LT.1.1 LT.1.2 a0 a1) (Nat.le_of_ble_eq_true rfl) ⟨(Nat.le_of_ble_eq_true rfl), (Nat.le_of_ble_eq_true rfl)⟩ rfl (Nat.le_of_ble_eq_true rfl) rfl ?_ ?_
  · rintro E _ ⟨hE, rfl⟩
    obtain ⟨hE, hk⟩ := hE
    have hk : t_takeStep C a0 a1 = 1 := hk
    have hE : E = "java/lang/IllegalArgumentException" := hE
    subst hE
    refine ⟨14, 16, ⟨[], (⟨0, 11, 14, 21⟩ : ExceptionTableEntry), _, "java/lang/IllegalArgumentException", rfl, (fun z hz => by cases hz), by decide, by decide, (z_w 848 ((lwt_4_2 23).trans rfl) (by decide +kernel)), (z_wn 460 ((lwt_2_5 25).trans rfl) (by decide +kernel)), rfl⟩, Or.inl ⟨4, dL_takeStep_14, by decide, rfl⟩, ?_⟩
    refine j_iconst (v := 1) dL_takeStep_16 (by decide) ?_
    refine j_iret dL_takeStep_17 rfl rfl ?_ (Nat.le_of_ble_eq_true rfl) (Nat.le_of_ble_eq_true rfl)
    exact ⟨_, by rw [hk], by unfold k_takeStep; rw [if_neg (by rw [hk]; decide)]; exact LT, fun z => absurd (hk.symm.trans z) (by decide)⟩
  · rintro _ w1 ⟨hk, rfl, hW1, hh1⟩
    have hk : t_takeStep C a0 a1 = 0 := hk
    have LT1 : z_LX x (k_takeStep C a0 a1) M n w1 := LT.cls (by unfold k_takeStep; rw [if_pos hk]; exact hW1) (okk_takeStep _ _ LT.1.2) hh1
    refine j_i2l dL_takeStep_7 ?_
    obtain ⟨-, -, ⟨ov50, og50⟩, -⟩ := id LT1
    refine j_put (w' := _) dL_takeStep_8 fL_13 tX9_0 og50 ⟨rfl, rfl⟩ rfl ?_
    refine j_seal (n := x) LT1.x1 ?_
    intro w2 u2
    have LT2 := LT1.out u2
    refine j_goto (tgt := 18) dL_takeStep_11 (by decide) ?_
    refine j_iconst (v := 0) dL_takeStep_18 (by decide) ?_
    refine j_iret dL_takeStep_19 rfl rfl ?_ (Nat.le_of_ble_eq_true rfl) (Nat.le_of_ble_eq_true rfl)
    exact ⟨_, by rw [hk], LT2, fun _ => rfl⟩
set_option maxRecDepth 100000 in
set_option maxHeartbeats 4000000 in
theorem lw_stop (hl : l.stackTraces = false) (w : z_W) (x : Nat) (C M : sp_S) (n : Int64) (LT : z_LX x C M n w) (a0 : Int32) (a1 : Int32) : z_Con G l mL_stop 27 14 120 w [.ref 0, .int a0, .int a1, .ref x] (fun v w9 => ∃ n9 : Int64, v = some (.int (t_stop C a0 a1)) ∧ z_LX x (k_stop C a0 a1) M n9 w9 ∧ (t_stop C a0 a1 = 0 → n9 = (a_stop C a0 a1).toInt64)) (fun _ _ => False) := by
  refine z_bodyW hl (by decide) (by decide) (Nat.le_of_ble_eq_true rfl) ?_
  show z_J G l mL_stop _ 0 [(0, _), (1, _), (2, _), (3, _)] [] _ 0 0
  refine j_aload_n dL_stop_0 rfl rfl ?_
  refine j_aload_n dL_stop_1 rfl rfl ?_
  refine j_iload_n dL_stop_2 rfl ?_
  refine j_iload_n dL_stop_3 rfl ?_
  obtain ⟨fs51, gs51⟩ := LT.rc
  refine j_tryV (q := (RX8, TX8, 9)) dL_stop_4 kX8_stop lL_101 inX8_stop seX8_stop gs51 rfl (px_stop hl w C LT.1.1 LT.1.2 a0 a1) (Nat.le_of_ble_eq_true rfl) ⟨(Nat.le_of_ble_eq_true rfl), (Nat.le_of_ble_eq_true rfl)⟩ rfl (Nat.le_of_ble_eq_true rfl) rfl ?_ ?_
  · rintro E _ ⟨hE, rfl⟩
    rcases hE with hE | hE
    · obtain ⟨hE, hk⟩ := hE
      have hk : t_stop C a0 a1 = 1 := hk
      have hE : E = "java/lang/IndexOutOfBoundsException" := hE
      subst hE
      refine ⟨14, 16, ⟨[], (⟨0, 11, 14, 19⟩ : ExceptionTableEntry), _, "java/lang/IndexOutOfBoundsException", rfl, (fun z hz => by cases hz), by decide, by decide, (z_w 847 ((lwt_4_2 22).trans rfl) (by decide +kernel)), (z_wn 860 ((lwt_4_3 5).trans rfl) (by decide +kernel)), rfl⟩, Or.inl ⟨4, dL_stop_14, by decide, rfl⟩, ?_⟩
      refine j_iconst (v := 1) dL_stop_16 (by decide) ?_
      refine j_iret dL_stop_17 rfl rfl ?_ (Nat.le_of_ble_eq_true rfl) (Nat.le_of_ble_eq_true rfl)
      exact ⟨_, by rw [hk], by unfold k_stop; rw [if_neg (by rw [hk]; decide)]; exact LT, fun z => absurd (hk.symm.trans z) (by decide)⟩
    · obtain ⟨hE, hk⟩ := hE
      have hk : t_stop C a0 a1 = 2 := hk
      have hE : E = "java/lang/IllegalArgumentException" := hE
      subst hE
      refine ⟨18, 20, ⟨[(⟨0, 11, 14, 19⟩ : ExceptionTableEntry)], (⟨0, 11, 18, 21⟩ : ExceptionTableEntry), _, "java/lang/IllegalArgumentException", rfl, (fun z hz => by
          simp only [List.mem_cons, List.not_mem_nil, or_false] at hz
          rcases hz with rfl
          · exact Or.inr ⟨by decide, "java/lang/IndexOutOfBoundsException", (z_w 847 ((lwt_4_2 22).trans rfl) (by decide +kernel)), by decide⟩), by decide, by decide, (z_w 848 ((lwt_4_2 23).trans rfl) (by decide +kernel)), (z_wn 460 ((lwt_2_5 25).trans rfl) (by decide +kernel)), rfl⟩, Or.inl ⟨4, dL_stop_18, by decide, rfl⟩, ?_⟩
      refine j_iconst (v := 2) dL_stop_20 (by decide) ?_
      refine j_iret dL_stop_21 rfl rfl ?_ (Nat.le_of_ble_eq_true rfl) (Nat.le_of_ble_eq_true rfl)
      exact ⟨_, by rw [hk], by unfold k_stop; rw [if_neg (by rw [hk]; decide)]; exact LT, fun z => absurd (hk.symm.trans z) (by decide)⟩
  · rintro _ w1 ⟨hk, rfl, hW1, hh1⟩
    have hk : t_stop C a0 a1 = 0 := hk
    have LT1 : z_LX x (k_stop C a0 a1) M n w1 := LT.cls (by unfold k_stop; rw [if_pos hk]; exact hW1) (okk_stop _ _ LT.1.2) hh1
    refine j_i2l dL_stop_7 ?_
    obtain ⟨-, -, ⟨ov52, og52⟩, -⟩ := id LT1
    refine j_put (w' := _) dL_stop_8 fL_13 tX9_0 og52 ⟨rfl, rfl⟩ rfl ?_
    refine j_seal (n := x) LT1.x1 ?_
    intro w2 u2
    have LT2 := LT1.out u2
    refine j_goto (tgt := 22) dL_stop_11 (by decide) ?_
    refine j_iconst (v := 0) dL_stop_22 (by decide) ?_
    refine j_iret dL_stop_23 rfl rfl ?_ (Nat.le_of_ble_eq_true rfl) (Nat.le_of_ble_eq_true rfl)
    exact ⟨_, by rw [hk], LT2, fun _ => rfl⟩
set_option maxRecDepth 100000 in
set_option maxHeartbeats 4000000 in
theorem lw_forget (hl : l.stackTraces = false) (w : z_W) (x : Nat) (C M : sp_S) (n : Int64) (LT : z_LX x C M n w) (a0 : Int32) : z_Con G l mL_forget 27 14 120 w [.ref 0, .int a0, .ref x] (fun v w9 => ∃ n9 : Int64, v = some (.int (t_forget C a0)) ∧ z_LX x (k_forget C a0) M n9 w9 ∧ (t_forget C a0 = 0 → n9 = (a_forget C a0).toInt64)) (fun _ _ => False) := by
  refine z_bodyW hl (by decide) (by decide) (Nat.le_of_ble_eq_true rfl) ?_
  show z_J G l mL_forget _ 0 [(0, _), (1, _), (2, _)] [] _ 0 0
  refine j_aload_n dL_forget_0 rfl rfl ?_
  refine j_aload_n dL_forget_1 rfl rfl ?_
  refine j_iload_n dL_forget_2 rfl ?_
  obtain ⟨fs53, gs53⟩ := LT.rc
  refine j_tryV (q := (RX8, TX8, 9)) dL_forget_3 kX8_forget lL_104 inX8_forget seX8_forget gs53 rfl (px_forget hl w C LT.1.1 LT.1.2 a0) (Nat.le_of_ble_eq_true rfl) ⟨(Nat.le_of_ble_eq_true rfl), (Nat.le_of_ble_eq_true rfl)⟩ rfl (Nat.le_of_ble_eq_true rfl) rfl ?_ ?_
  · rintro E _ ⟨hE, rfl⟩
    obtain ⟨hE, hk⟩ := hE
    have hk : t_forget C a0 = 1 := hk
    have hE : E = "java/lang/IndexOutOfBoundsException" := hE
    subst hE
    refine ⟨13, 14, ⟨[], (⟨0, 10, 13, 19⟩ : ExceptionTableEntry), _, "java/lang/IndexOutOfBoundsException", rfl, (fun z hz => by cases hz), by decide, by decide, (z_w 847 ((lwt_4_2 22).trans rfl) (by decide +kernel)), (z_wn 860 ((lwt_4_3 5).trans rfl) (by decide +kernel)), rfl⟩, Or.inr ⟨3, dL_forget_13, by decide, rfl⟩, ?_⟩
    refine j_iconst (v := 1) dL_forget_14 (by decide) ?_
    refine j_iret dL_forget_15 rfl rfl ?_ (Nat.le_of_ble_eq_true rfl) (Nat.le_of_ble_eq_true rfl)
    exact ⟨_, by rw [hk], by unfold k_forget; rw [if_neg (by rw [hk]; decide)]; exact LT, fun z => absurd (hk.symm.trans z) (by decide)⟩
  · rintro _ w1 ⟨hk, rfl, hW1, hh1⟩
    have hk : t_forget C a0 = 0 := hk
    have LT1 : z_LX x (k_forget C a0) M n w1 := LT.cls (by unfold k_forget; rw [if_pos hk]; exact hW1) (okk_forget _ LT.1.2) hh1
    refine j_i2l dL_forget_6 ?_
    obtain ⟨-, -, ⟨ov54, og54⟩, -⟩ := id LT1
    refine j_put (w' := _) dL_forget_7 fL_13 tX9_0 og54 ⟨rfl, rfl⟩ rfl ?_
    refine j_seal (n := x) LT1.x1 ?_
    intro w2 u2
    have LT2 := LT1.out u2
    refine j_goto (tgt := 16) dL_forget_10 (by decide) ?_
    refine j_iconst (v := 0) dL_forget_16 (by decide) ?_
    refine j_iret dL_forget_17 rfl rfl ?_ (Nat.le_of_ble_eq_true rfl) (Nat.le_of_ble_eq_true rfl)
    exact ⟨_, by rw [hk], LT2, fun _ => rfl⟩
set_option maxRecDepth 100000 in
set_option maxHeartbeats 4000000 in
theorem lw_heard (hl : l.stackTraces = false) (w : z_W) (x : Nat) (C M : sp_S) (n : Int64) (LT : z_LX x C M n w) (a0 : Int32) (a1 : Int32) : z_Con G l mL_heard 27 14 120 w [.ref 0, .int a0, .int a1, .ref x] (fun v w9 => ∃ n9 : Int64, v = some (.int (t_heard C a0 a1)) ∧ z_LX x (k_heard C a0 a1) M n9 w9 ∧ (t_heard C a0 a1 = 0 → n9 = (a_heard C a0 a1).toInt64)) (fun _ _ => False) := by
  refine z_bodyW hl (by decide) (by decide) (Nat.le_of_ble_eq_true rfl) ?_
  show z_J G l mL_heard _ 0 [(0, _), (1, _), (2, _), (3, _)] [] _ 0 0
  refine j_aload_n dL_heard_0 rfl rfl ?_
  refine j_aload_n dL_heard_1 rfl rfl ?_
  refine j_iload_n dL_heard_2 rfl ?_
  refine j_iload_n dL_heard_3 rfl ?_
  obtain ⟨fs55, gs55⟩ := LT.rc
  refine j_tryV (q := (RX8, TX8, 9)) dL_heard_4 kX8_heard lL_107 inX8_heard seX8_heard gs55 rfl (px_heard hl w C LT.1.1 LT.1.2 a0 a1) (Nat.le_of_ble_eq_true rfl) ⟨(Nat.le_of_ble_eq_true rfl), (Nat.le_of_ble_eq_true rfl)⟩ rfl (Nat.le_of_ble_eq_true rfl) rfl ?_ ?_
  · rintro E _ ⟨hE, rfl⟩
    rcases hE with hE | hE
    · obtain ⟨hE, hk⟩ := hE
      have hk : t_heard C a0 a1 = 1 := hk
      have hE : E = "java/lang/IndexOutOfBoundsException" := hE
      subst hE
      refine ⟨14, 16, ⟨[], (⟨0, 11, 14, 19⟩ : ExceptionTableEntry), _, "java/lang/IndexOutOfBoundsException", rfl, (fun z hz => by cases hz), by decide, by decide, (z_w 847 ((lwt_4_2 22).trans rfl) (by decide +kernel)), (z_wn 860 ((lwt_4_3 5).trans rfl) (by decide +kernel)), rfl⟩, Or.inl ⟨4, dL_heard_14, by decide, rfl⟩, ?_⟩
      refine j_iconst (v := 1) dL_heard_16 (by decide) ?_
      refine j_iret dL_heard_17 rfl rfl ?_ (Nat.le_of_ble_eq_true rfl) (Nat.le_of_ble_eq_true rfl)
      exact ⟨_, by rw [hk], by unfold k_heard; rw [if_neg (by rw [hk]; decide)]; exact LT, fun z => absurd (hk.symm.trans z) (by decide)⟩
    · obtain ⟨hE, hk⟩ := hE
      have hk : t_heard C a0 a1 = 2 := hk
      have hE : E = "java/lang/IllegalArgumentException" := hE
      subst hE
      refine ⟨18, 20, ⟨[(⟨0, 11, 14, 19⟩ : ExceptionTableEntry)], (⟨0, 11, 18, 21⟩ : ExceptionTableEntry), _, "java/lang/IllegalArgumentException", rfl, (fun z hz => by
          simp only [List.mem_cons, List.not_mem_nil, or_false] at hz
          rcases hz with rfl
          · exact Or.inr ⟨by decide, "java/lang/IndexOutOfBoundsException", (z_w 847 ((lwt_4_2 22).trans rfl) (by decide +kernel)), by decide⟩), by decide, by decide, (z_w 848 ((lwt_4_2 23).trans rfl) (by decide +kernel)), (z_wn 460 ((lwt_2_5 25).trans rfl) (by decide +kernel)), rfl⟩, Or.inl ⟨4, dL_heard_18, by decide, rfl⟩, ?_⟩
      refine j_iconst (v := 2) dL_heard_20 (by decide) ?_
      refine j_iret dL_heard_21 rfl rfl ?_ (Nat.le_of_ble_eq_true rfl) (Nat.le_of_ble_eq_true rfl)
      exact ⟨_, by rw [hk], by unfold k_heard; rw [if_neg (by rw [hk]; decide)]; exact LT, fun z => absurd (hk.symm.trans z) (by decide)⟩
  · rintro _ w1 ⟨hk, rfl, hW1, hh1⟩
    have hk : t_heard C a0 a1 = 0 := hk
    have LT1 : z_LX x (k_heard C a0 a1) M n w1 := LT.cls (by unfold k_heard; rw [if_pos hk]; exact hW1) (okk_heard _ _ LT.1.2) hh1
    refine j_i2l dL_heard_7 ?_
    obtain ⟨-, -, ⟨ov56, og56⟩, -⟩ := id LT1
    refine j_put (w' := _) dL_heard_8 fL_13 tX9_0 og56 ⟨rfl, rfl⟩ rfl ?_
    refine j_seal (n := x) LT1.x1 ?_
    intro w2 u2
    have LT2 := LT1.out u2
    refine j_goto (tgt := 22) dL_heard_11 (by decide) ?_
    refine j_iconst (v := 0) dL_heard_22 (by decide) ?_
    refine j_iret dL_heard_23 rfl rfl ?_ (Nat.le_of_ble_eq_true rfl) (Nat.le_of_ble_eq_true rfl)
    exact ⟨_, by rw [hk], LT2, fun _ => rfl⟩
set_option maxRecDepth 100000 in
set_option maxHeartbeats 4000000 in
theorem lw_heardText (hl : l.stackTraces = false) (w : z_W) (x : Nat) (C M : sp_S) (n : Int64) (LT : z_LX x C M n w) (a0 : Int32) : z_Con G l mL_heardText 27 26 810 w [.ref 0, .int a0, .ref x] (fun v w9 => ∃ n9 : Int64, v = some (.int (q_k2 a0)) ∧ z_LX x C M n9 w9 ∧ (q_k2 a0 = 0 → z_LT x w9 (tx_jt (sp_E C (sp_i a0)).2))) (fun _ _ => False) := by
  refine z_bodyW hl (by decide) (by decide) (Nat.le_of_ble_eq_true rfl) ?_
  show z_J G l mL_heardText _ 0 [(0, _), (1, _), (2, _)] [] _ 0 0
  refine j_aload_n dL_heardText_0 rfl rfl ?_
  refine j_aload_n dL_heardText_1 rfl rfl ?_
  refine j_iload_n dL_heardText_2 rfl ?_
  obtain ⟨fs57, gs57⟩ := LT.rc
  refine j_tryV (q := (RX8, TX8, 9)) dL_heardText_3 kX8_heardText lL_110 inX8_heardText seX8_heardText gs57 rfl (pu_heardText hl w C a0 LT.1.1 LT.fn) (Nat.le_of_ble_eq_true rfl) ⟨(Nat.le_of_ble_eq_true rfl), (Nat.le_of_ble_eq_true rfl)⟩ rfl (Nat.le_of_ble_eq_true rfl) rfl ?_ ?_
  · rintro E _ ⟨⟨hE, hk⟩, rfl⟩
    have hE : E = "java/lang/IndexOutOfBoundsException" := hE
    subst hE
    refine ⟨12, 13, ⟨[], (⟨0, 9, 12, 19⟩ : ExceptionTableEntry), _, "java/lang/IndexOutOfBoundsException", rfl, (fun z hz => by cases hz), by decide, by decide, (z_w 847 ((lwt_4_2 22).trans rfl) (by decide +kernel)), (z_wn 860 ((lwt_4_3 5).trans rfl) (by decide +kernel)), rfl⟩, Or.inr ⟨3, dL_heardText_12, by decide, rfl⟩, ?_⟩
    refine j_iconst (v := 1) dL_heardText_13 (by decide) ?_
    refine j_iret dL_heardText_14 rfl rfl ?_ (Nat.le_of_ble_eq_true rfl) (Nat.le_of_ble_eq_true rfl)
    exact ⟨_, by rw [hk], LT, fun z => absurd (hk.symm.trans z) (by decide)⟩
  · rintro _ w1 ⟨hk, x1, rfl, lf1, ht1⟩
    have LT1 := LT.cl2 lf1
    obtain ⟨-, -, ⟨ov58, og58⟩, -⟩ := id LT1
    refine j_put (w' := _) dL_heardText_6 fL_114 tX9_1 og58 (Or.inl ⟨_, rfl⟩) rfl ?_
    refine j_seal (n := x) LT1.x1 ?_
    intro w2 u2
    have LT2 := LT1.out u2
    refine j_goto (tgt := 15) dL_heardText_9 (by decide) ?_
    refine j_iconst (v := 0) dL_heardText_15 (by decide) ?_
    refine j_iret dL_heardText_16 rfl rfl ?_ (Nat.le_of_ble_eq_true rfl) (Nat.le_of_ble_eq_true rfl)
    exact ⟨_, by rw [hk], LT2, fun _ => z_LT.of LT.x2 u2 ht1⟩
set_option maxRecDepth 100000 in
set_option maxHeartbeats 4000000 in
theorem lw_length (hl : l.stackTraces = false) (w : z_W) (x : Nat) (C M : sp_S) (n : Int64) (LT : z_LX x C M n w) (a0 : Int32) : z_Con G l mL_length 27 14 120 w [.ref 0, .int a0, .ref x] (fun v w9 => ∃ n9 : Int64, v = some (.int (t_length C a0)) ∧ z_LX x (k_length C a0) M n9 w9 ∧ (t_length C a0 = 0 → n9 = (a_length C a0).toInt64)) (fun _ _ => False) := by
  refine z_bodyW hl (by decide) (by decide) (Nat.le_of_ble_eq_true rfl) ?_
  show z_J G l mL_length _ 0 [(0, _), (1, _), (2, _)] [] _ 0 0
  refine j_aload_n dL_length_0 rfl rfl ?_
  refine j_aload_n dL_length_1 rfl rfl ?_
  refine j_iload_n dL_length_2 rfl ?_
  obtain ⟨fs59, gs59⟩ := LT.rc
  refine j_tryV (q := (RX8, TX8, 9)) dL_length_3 kX8_length lL_118 inX8_length seX8_length gs59 rfl (px_length hl w C LT.1.1 LT.1.2 a0) (Nat.le_of_ble_eq_true rfl) ⟨(Nat.le_of_ble_eq_true rfl), (Nat.le_of_ble_eq_true rfl)⟩ rfl (Nat.le_of_ble_eq_true rfl) rfl ?_ ?_
  · rintro E _ ⟨hE, rfl⟩
    obtain ⟨hE, hk⟩ := hE
    have hk : t_length C a0 = 1 := hk
    have hE : E = "java/lang/IndexOutOfBoundsException" := hE
    subst hE
    refine ⟨13, 14, ⟨[], (⟨0, 10, 13, 19⟩ : ExceptionTableEntry), _, "java/lang/IndexOutOfBoundsException", rfl, (fun z hz => by cases hz), by decide, by decide, (z_w 847 ((lwt_4_2 22).trans rfl) (by decide +kernel)), (z_wn 860 ((lwt_4_3 5).trans rfl) (by decide +kernel)), rfl⟩, Or.inr ⟨3, dL_length_13, by decide, rfl⟩, ?_⟩
    refine j_iconst (v := 1) dL_length_14 (by decide) ?_
    refine j_iret dL_length_15 rfl rfl ?_ (Nat.le_of_ble_eq_true rfl) (Nat.le_of_ble_eq_true rfl)
    exact ⟨_, by rw [hk], by unfold k_length; rw [if_neg (by rw [hk]; decide)]; exact LT, fun z => absurd (hk.symm.trans z) (by decide)⟩
  · rintro _ w1 ⟨hk, rfl, hW1, hh1⟩
    have hk : t_length C a0 = 0 := hk
    have LT1 : z_LX x (k_length C a0) M n w1 := LT.cls (by unfold k_length; rw [if_pos hk]; exact hW1) (okk_length _ LT.1.2) hh1
    refine j_i2l dL_length_6 ?_
    obtain ⟨-, -, ⟨ov60, og60⟩, -⟩ := id LT1
    refine j_put (w' := _) dL_length_7 fL_13 tX9_0 og60 ⟨rfl, rfl⟩ rfl ?_
    refine j_seal (n := x) LT1.x1 ?_
    intro w2 u2
    have LT2 := LT1.out u2
    refine j_goto (tgt := 16) dL_length_10 (by decide) ?_
    refine j_iconst (v := 0) dL_length_16 (by decide) ?_
    refine j_iret dL_length_17 rfl rfl ?_ (Nat.le_of_ble_eq_true rfl) (Nat.le_of_ble_eq_true rfl)
    exact ⟨_, by rw [hk], LT2, fun _ => rfl⟩
set_option maxRecDepth 100000 in
set_option maxHeartbeats 4000000 in
theorem lw_at (hl : l.stackTraces = false) (w : z_W) (x : Nat) (C M : sp_S) (n : Int64) (LT : z_LX x C M n w) (a0 : Int32) (a1 : Int32) : z_Con G l mL_at 27 14 120 w [.ref 0, .int a0, .int a1, .ref x] (fun v w9 => ∃ n9 : Int64, v = some (.int (t_at C a0 a1)) ∧ z_LX x (k_at C a0 a1) M n9 w9 ∧ (t_at C a0 a1 = 0 → n9 = (a_at C a0 a1).toInt64)) (fun _ _ => False) := by
  refine z_bodyW hl (by decide) (by decide) (Nat.le_of_ble_eq_true rfl) ?_
  show z_J G l mL_at _ 0 [(0, _), (1, _), (2, _), (3, _)] [] _ 0 0
  refine j_aload_n dL_at_0 rfl rfl ?_
  refine j_aload_n dL_at_1 rfl rfl ?_
  refine j_iload_n dL_at_2 rfl ?_
  refine j_iload_n dL_at_3 rfl ?_
  obtain ⟨fs61, gs61⟩ := LT.rc
  refine j_tryV (q := (RX8, TX8, 9)) dL_at_4 kX8_at lL_121 inX8_at seX8_at gs61 rfl (px_at hl w C LT.1.1 LT.1.2 a0 a1) (Nat.le_of_ble_eq_true rfl) ⟨(Nat.le_of_ble_eq_true rfl), (Nat.le_of_ble_eq_true rfl)⟩ rfl (Nat.le_of_ble_eq_true rfl) rfl ?_ ?_
  · rintro E _ ⟨hE, rfl⟩
    obtain ⟨hE, hk⟩ := hE
    have hk : t_at C a0 a1 = 1 := hk
    have hE : E = "java/lang/IndexOutOfBoundsException" := hE
    subst hE
    refine ⟨14, 16, ⟨[], (⟨0, 11, 14, 19⟩ : ExceptionTableEntry), _, "java/lang/IndexOutOfBoundsException", rfl, (fun z hz => by cases hz), by decide, by decide, (z_w 847 ((lwt_4_2 22).trans rfl) (by decide +kernel)), (z_wn 860 ((lwt_4_3 5).trans rfl) (by decide +kernel)), rfl⟩, Or.inl ⟨4, dL_at_14, by decide, rfl⟩, ?_⟩
    refine j_iconst (v := 1) dL_at_16 (by decide) ?_
    refine j_iret dL_at_17 rfl rfl ?_ (Nat.le_of_ble_eq_true rfl) (Nat.le_of_ble_eq_true rfl)
    exact ⟨_, by rw [hk], by unfold k_at; rw [if_neg (by rw [hk]; decide)]; exact LT, fun z => absurd (hk.symm.trans z) (by decide)⟩
  · rintro _ w1 ⟨hk, rfl, hW1, hh1⟩
    have hk : t_at C a0 a1 = 0 := hk
    have LT1 : z_LX x (k_at C a0 a1) M n w1 := LT.cls (by unfold k_at; rw [if_pos hk]; exact hW1) (okk_at _ _ LT.1.2) hh1
    refine j_i2l dL_at_7 ?_
    obtain ⟨-, -, ⟨ov62, og62⟩, -⟩ := id LT1
    refine j_put (w' := _) dL_at_8 fL_13 tX9_0 og62 ⟨rfl, rfl⟩ rfl ?_
    refine j_seal (n := x) LT1.x1 ?_
    intro w2 u2
    have LT2 := LT1.out u2
    refine j_goto (tgt := 18) dL_at_11 (by decide) ?_
    refine j_iconst (v := 0) dL_at_18 (by decide) ?_
    refine j_iret dL_at_19 rfl rfl ?_ (Nat.le_of_ble_eq_true rfl) (Nat.le_of_ble_eq_true rfl)
    exact ⟨_, by rw [hk], LT2, fun _ => rfl⟩
set_option maxRecDepth 100000 in
set_option maxHeartbeats 4000000 in
theorem lw_rowText (hl : l.stackTraces = false) (w : z_W) (x : Nat) (C M : sp_S) (n : Int64) (LT : z_LX x C M n w) (a0 : Int32) : z_Con G l mL_rowText 27 26 810 w [.ref 0, .int a0, .ref x] (fun v w9 => ∃ n9 : Int64, v = some (.int (q_k2 a0)) ∧ z_LX x C M n9 w9 ∧ (q_k2 a0 = 0 → z_LT x w9 (tx_jt (sp_R C (sp_i a0))))) (fun _ _ => False) := by
  refine z_bodyW hl (by decide) (by decide) (Nat.le_of_ble_eq_true rfl) ?_
  show z_J G l mL_rowText _ 0 [(0, _), (1, _), (2, _)] [] _ 0 0
  refine j_aload_n dL_rowText_0 rfl rfl ?_
  refine j_aload_n dL_rowText_1 rfl rfl ?_
  refine j_iload_n dL_rowText_2 rfl ?_
  obtain ⟨fs63, gs63⟩ := LT.rc
  refine j_tryV (q := (RX8, TX8, 9)) dL_rowText_3 kX8_rowText lL_124 inX8_rowText seX8_rowText gs63 rfl (pu_rowText hl w C a0 LT.1.1 LT.fn) (Nat.le_of_ble_eq_true rfl) ⟨(Nat.le_of_ble_eq_true rfl), (Nat.le_of_ble_eq_true rfl)⟩ rfl (Nat.le_of_ble_eq_true rfl) rfl ?_ ?_
  · rintro E _ ⟨⟨hE, hk⟩, rfl⟩
    have hE : E = "java/lang/IndexOutOfBoundsException" := hE
    subst hE
    refine ⟨12, 13, ⟨[], (⟨0, 9, 12, 19⟩ : ExceptionTableEntry), _, "java/lang/IndexOutOfBoundsException", rfl, (fun z hz => by cases hz), by decide, by decide, (z_w 847 ((lwt_4_2 22).trans rfl) (by decide +kernel)), (z_wn 860 ((lwt_4_3 5).trans rfl) (by decide +kernel)), rfl⟩, Or.inr ⟨3, dL_rowText_12, by decide, rfl⟩, ?_⟩
    refine j_iconst (v := 1) dL_rowText_13 (by decide) ?_
    refine j_iret dL_rowText_14 rfl rfl ?_ (Nat.le_of_ble_eq_true rfl) (Nat.le_of_ble_eq_true rfl)
    exact ⟨_, by rw [hk], LT, fun z => absurd (hk.symm.trans z) (by decide)⟩
  · rintro _ w1 ⟨hk, x1, rfl, lf1, ht1⟩
    have LT1 := LT.cl2 lf1
    obtain ⟨-, -, ⟨ov64, og64⟩, -⟩ := id LT1
    refine j_put (w' := _) dL_rowText_6 fL_114 tX9_1 og64 (Or.inl ⟨_, rfl⟩) rfl ?_
    refine j_seal (n := x) LT1.x1 ?_
    intro w2 u2
    have LT2 := LT1.out u2
    refine j_goto (tgt := 15) dL_rowText_9 (by decide) ?_
    refine j_iconst (v := 0) dL_rowText_15 (by decide) ?_
    refine j_iret dL_rowText_16 rfl rfl ?_ (Nat.le_of_ble_eq_true rfl) (Nat.le_of_ble_eq_true rfl)
    exact ⟨_, by rw [hk], LT2, fun _ => z_LT.of LT.x2 u2 ht1⟩
set_option maxRecDepth 100000 in
set_option maxHeartbeats 4000000 in
theorem lw_isFixed (hl : l.stackTraces = false) (w : z_W) (x : Nat) (C M : sp_S) (n : Int64) (LT : z_LX x C M n w) (a0 : Int32) : z_Con G l mL_isFixed 27 14 120 w [.ref 0, .int a0, .ref x] (fun v w9 => ∃ n9 : Int64, v = some (.int (t_isFixed C a0)) ∧ z_LX x (k_isFixed C a0) M n9 w9 ∧ (t_isFixed C a0 = 0 → n9 = (a_isFixed C a0).toInt64)) (fun _ _ => False) := by
  refine z_bodyW hl (by decide) (by decide) (Nat.le_of_ble_eq_true rfl) ?_
  show z_J G l mL_isFixed _ 0 [(0, _), (1, _), (2, _)] [] _ 0 0
  refine j_aload_n dL_isFixed_0 rfl rfl ?_
  refine j_aload_n dL_isFixed_1 rfl rfl ?_
  refine j_iload_n dL_isFixed_2 rfl ?_
  obtain ⟨fs65, gs65⟩ := LT.rc
  refine j_tryV (q := (RX8, TX8, 9)) dL_isFixed_3 kX8_isFixed lL_127 inX8_isFixed seX8_isFixed gs65 rfl (px_isFixed hl w C LT.1.1 LT.1.2 a0) (Nat.le_of_ble_eq_true rfl) ⟨(Nat.le_of_ble_eq_true rfl), (Nat.le_of_ble_eq_true rfl)⟩ rfl (Nat.le_of_ble_eq_true rfl) rfl ?_ ?_
  · rintro E _ ⟨hE, rfl⟩
    obtain ⟨hE, hk⟩ := hE
    have hk : t_isFixed C a0 = 1 := hk
    have hE : E = "java/lang/IndexOutOfBoundsException" := hE
    subst hE
    refine ⟨20, 21, ⟨[], (⟨0, 17, 20, 19⟩ : ExceptionTableEntry), _, "java/lang/IndexOutOfBoundsException", rfl, (fun z hz => by cases hz), by decide, by decide, (z_w 847 ((lwt_4_2 22).trans rfl) (by decide +kernel)), (z_wn 860 ((lwt_4_3 5).trans rfl) (by decide +kernel)), rfl⟩, Or.inr ⟨3, dL_isFixed_20, by decide, rfl⟩, ?_⟩
    refine j_iconst (v := 1) dL_isFixed_21 (by decide) ?_
    refine j_iret dL_isFixed_22 rfl rfl ?_ (Nat.le_of_ble_eq_true rfl) (Nat.le_of_ble_eq_true rfl)
    exact ⟨_, by rw [hk], by unfold k_isFixed; rw [if_neg (by rw [hk]; decide)]; exact LT, fun z => absurd (hk.symm.trans z) (by decide)⟩
  · rintro _ w1 ⟨hk, rfl, hW1, hh1⟩
    have hk : t_isFixed C a0 = 0 := hk
    have LT1 : z_LX x (k_isFixed C a0) M n w1 := LT.cls (by unfold k_isFixed; rw [if_pos hk]; exact hW1) (okk_isFixed _ LT.1.2) hh1
    refine j_if_eq (tgt := 13) dL_isFixed_6 (by decide) (fun c_6_19 => ?_) (fun c_6_19 => ?_)
    · refine j_lconst (v := 0) dL_isFixed_13 (by decide) ?_
      obtain ⟨-, -, ⟨ov66, og66⟩, -⟩ := id LT1
      refine j_put (w' := _) dL_isFixed_14 fL_13 tX9_0 og66 ⟨rfl, rfl⟩ rfl ?_
      refine j_seal (n := x) LT1.x1 ?_
      intro w2 u2
      have LT2 := LT1.out u2
      refine j_goto (tgt := 23) dL_isFixed_17 (by decide) ?_
      refine j_iconst (v := 0) dL_isFixed_23 (by decide) ?_
      refine j_iret dL_isFixed_24 rfl rfl ?_ (Nat.le_of_ble_eq_true rfl) (Nat.le_of_ble_eq_true rfl)
      first | exact ⟨_, by rw [hk], LT2, fun _ => by show _ = (z_bi _).toInt64; rw [z_bF c_6_19]; rfl⟩ | exact ⟨_, by rw [hk], LT2, fun _ => by show _ = (z_bi _).toInt64; rw [z_bt c_6_19]; rfl⟩
    · refine j_lconst (v := 1) dL_isFixed_9 (by decide) ?_
      refine j_goto (tgt := 14) dL_isFixed_10 (by decide) ?_
      obtain ⟨-, -, ⟨ov67, og67⟩, -⟩ := id LT1
      refine j_put (w' := _) dL_isFixed_14 fL_13 tX9_0 og67 ⟨rfl, rfl⟩ rfl ?_
      refine j_seal (n := x) LT1.x1 ?_
      intro w3 u3
      have LT3 := LT1.out u3
      refine j_goto (tgt := 23) dL_isFixed_17 (by decide) ?_
      refine j_iconst (v := 0) dL_isFixed_23 (by decide) ?_
      refine j_iret dL_isFixed_24 rfl rfl ?_ (Nat.le_of_ble_eq_true rfl) (Nat.le_of_ble_eq_true rfl)
      first | exact ⟨_, by rw [hk], LT3, fun _ => by show _ = (z_bi _).toInt64; rw [z_bF c_6_19]; rfl⟩ | exact ⟨_, by rw [hk], LT3, fun _ => by show _ = (z_bi _).toInt64; rw [z_bt c_6_19]; rfl⟩
set_option maxRecDepth 100000 in
set_option maxHeartbeats 4000000 in
theorem lw_counts (hl : l.stackTraces = false) (w : z_W) (x : Nat) (C M : sp_S) (n : Int64) (LT : z_LX x C M n w) (a0 : Int32) (a1 : Int32) : z_Con G l mL_counts 27 14 120 w [.ref 0, .int a0, .int a1, .ref x] (fun v w9 => ∃ n9 : Int64, v = some (.int (t_counts C a0 a1)) ∧ z_LX x (k_counts C a0 a1) M n9 w9 ∧ (t_counts C a0 a1 = 0 → n9 = (a_counts C a0 a1).toInt64)) (fun _ _ => False) := by
  refine z_bodyW hl (by decide) (by decide) (Nat.le_of_ble_eq_true rfl) ?_
  show z_J G l mL_counts _ 0 [(0, _), (1, _), (2, _), (3, _)] [] _ 0 0
  refine j_aload_n dL_counts_0 rfl rfl ?_
  refine j_aload_n dL_counts_1 rfl rfl ?_
  refine j_iload_n dL_counts_2 rfl ?_
  refine j_iload_n dL_counts_3 rfl ?_
  obtain ⟨fs68, gs68⟩ := LT.rc
  refine j_tryV (q := (RX8, TX8, 9)) dL_counts_4 kX8_counts lL_131 inX8_counts seX8_counts gs68 rfl (px_counts hl w C LT.1.1 LT.1.2 a0 a1) (Nat.le_of_ble_eq_true rfl) ⟨(Nat.le_of_ble_eq_true rfl), (Nat.le_of_ble_eq_true rfl)⟩ rfl (Nat.le_of_ble_eq_true rfl) rfl ?_ ?_
  · rintro E _ ⟨hE, rfl⟩
    rcases hE with hE | hE
    · obtain ⟨hE, hk⟩ := hE
      have hk : t_counts C a0 a1 = 1 := hk
      have hE : E = "java/lang/IndexOutOfBoundsException" := hE
      subst hE
      refine ⟨14, 16, ⟨[], (⟨0, 11, 14, 19⟩ : ExceptionTableEntry), _, "java/lang/IndexOutOfBoundsException", rfl, (fun z hz => by cases hz), by decide, by decide, (z_w 847 ((lwt_4_2 22).trans rfl) (by decide +kernel)), (z_wn 860 ((lwt_4_3 5).trans rfl) (by decide +kernel)), rfl⟩, Or.inl ⟨4, dL_counts_14, by decide, rfl⟩, ?_⟩
      refine j_iconst (v := 1) dL_counts_16 (by decide) ?_
      refine j_iret dL_counts_17 rfl rfl ?_ (Nat.le_of_ble_eq_true rfl) (Nat.le_of_ble_eq_true rfl)
      exact ⟨_, by rw [hk], by unfold k_counts; rw [if_neg (by rw [hk]; decide)]; exact LT, fun z => absurd (hk.symm.trans z) (by decide)⟩
    · obtain ⟨hE, hk⟩ := hE
      have hk : t_counts C a0 a1 = 2 := hk
      have hE : E = "java/lang/IllegalArgumentException" := hE
      subst hE
      refine ⟨18, 20, ⟨[(⟨0, 11, 14, 19⟩ : ExceptionTableEntry)], (⟨0, 11, 18, 21⟩ : ExceptionTableEntry), _, "java/lang/IllegalArgumentException", rfl, (fun z hz => by
          simp only [List.mem_cons, List.not_mem_nil, or_false] at hz
          rcases hz with rfl
          · exact Or.inr ⟨by decide, "java/lang/IndexOutOfBoundsException", (z_w 847 ((lwt_4_2 22).trans rfl) (by decide +kernel)), by decide⟩), by decide, by decide, (z_w 848 ((lwt_4_2 23).trans rfl) (by decide +kernel)), (z_wn 460 ((lwt_2_5 25).trans rfl) (by decide +kernel)), rfl⟩, Or.inl ⟨4, dL_counts_18, by decide, rfl⟩, ?_⟩
      refine j_iconst (v := 2) dL_counts_20 (by decide) ?_
      refine j_iret dL_counts_21 rfl rfl ?_ (Nat.le_of_ble_eq_true rfl) (Nat.le_of_ble_eq_true rfl)
      exact ⟨_, by rw [hk], by unfold k_counts; rw [if_neg (by rw [hk]; decide)]; exact LT, fun z => absurd (hk.symm.trans z) (by decide)⟩
  · rintro _ w1 ⟨hk, rfl, hW1, hh1⟩
    have hk : t_counts C a0 a1 = 0 := hk
    have LT1 : z_LX x (k_counts C a0 a1) M n w1 := LT.cls (by unfold k_counts; rw [if_pos hk]; exact hW1) (okk_counts _ _ LT.1.2) hh1
    refine j_i2l dL_counts_7 ?_
    obtain ⟨-, -, ⟨ov69, og69⟩, -⟩ := id LT1
    refine j_put (w' := _) dL_counts_8 fL_13 tX9_0 og69 ⟨rfl, rfl⟩ rfl ?_
    refine j_seal (n := x) LT1.x1 ?_
    intro w2 u2
    have LT2 := LT1.out u2
    refine j_goto (tgt := 22) dL_counts_11 (by decide) ?_
    refine j_iconst (v := 0) dL_counts_22 (by decide) ?_
    refine j_iret dL_counts_23 rfl rfl ?_ (Nat.le_of_ble_eq_true rfl) (Nat.le_of_ble_eq_true rfl)
    exact ⟨_, by rw [hk], LT2, fun _ => rfl⟩
set_option maxRecDepth 100000 in
set_option maxHeartbeats 4000000 in
theorem lw_shelfCounts (hl : l.stackTraces = false) (w : z_W) (x : Nat) (C M : sp_S) (n : Int64) (LT : z_LX x C M n w) (a0 : Int32) : z_Con G l mL_shelfCounts 27 14 120 w [.ref 0, .int a0, .ref x] (fun v w9 => ∃ n9 : Int64, v = some (.int (t_shelfCounts C a0)) ∧ z_LX x (k_shelfCounts C a0) M n9 w9 ∧ (t_shelfCounts C a0 = 0 → n9 = (a_shelfCounts C a0).toInt64)) (fun _ _ => False) := by
  refine z_bodyW hl (by decide) (by decide) (Nat.le_of_ble_eq_true rfl) ?_
  show z_J G l mL_shelfCounts _ 0 [(0, _), (1, _), (2, _)] [] _ 0 0
  refine j_aload_n dL_shelfCounts_0 rfl rfl ?_
  refine j_aload_n dL_shelfCounts_1 rfl rfl ?_
  refine j_iload_n dL_shelfCounts_2 rfl ?_
  obtain ⟨fs70, gs70⟩ := LT.rc
  refine j_tryV (q := (RX8, TX8, 9)) dL_shelfCounts_3 kX8_shelfCounts lL_134 inX8_shelfCounts seX8_shelfCounts gs70 rfl (px_shelfCounts hl w C LT.1.1 LT.1.2 a0) (Nat.le_of_ble_eq_true rfl) ⟨(Nat.le_of_ble_eq_true rfl), (Nat.le_of_ble_eq_true rfl)⟩ rfl (Nat.le_of_ble_eq_true rfl) rfl ?_ ?_
  · rintro E _ ⟨hE, rfl⟩
    obtain ⟨hE, hk⟩ := hE
    have hk : t_shelfCounts C a0 = 1 := hk
    have hE : E = "java/lang/IllegalArgumentException" := hE
    subst hE
    refine ⟨13, 14, ⟨[], (⟨0, 10, 13, 21⟩ : ExceptionTableEntry), _, "java/lang/IllegalArgumentException", rfl, (fun z hz => by cases hz), by decide, by decide, (z_w 848 ((lwt_4_2 23).trans rfl) (by decide +kernel)), (z_wn 460 ((lwt_2_5 25).trans rfl) (by decide +kernel)), rfl⟩, Or.inr ⟨3, dL_shelfCounts_13, by decide, rfl⟩, ?_⟩
    refine j_iconst (v := 1) dL_shelfCounts_14 (by decide) ?_
    refine j_iret dL_shelfCounts_15 rfl rfl ?_ (Nat.le_of_ble_eq_true rfl) (Nat.le_of_ble_eq_true rfl)
    exact ⟨_, by rw [hk], by unfold k_shelfCounts; rw [if_neg (by rw [hk]; decide)]; exact LT, fun z => absurd (hk.symm.trans z) (by decide)⟩
  · rintro _ w1 ⟨hk, rfl, hW1, hh1⟩
    have hk : t_shelfCounts C a0 = 0 := hk
    have LT1 : z_LX x (k_shelfCounts C a0) M n w1 := LT.cls (by unfold k_shelfCounts; rw [if_pos hk]; exact hW1) (okk_shelfCounts _ LT.1.2) hh1
    refine j_i2l dL_shelfCounts_6 ?_
    obtain ⟨-, -, ⟨ov71, og71⟩, -⟩ := id LT1
    refine j_put (w' := _) dL_shelfCounts_7 fL_13 tX9_0 og71 ⟨rfl, rfl⟩ rfl ?_
    refine j_seal (n := x) LT1.x1 ?_
    intro w2 u2
    have LT2 := LT1.out u2
    refine j_goto (tgt := 16) dL_shelfCounts_10 (by decide) ?_
    refine j_iconst (v := 0) dL_shelfCounts_16 (by decide) ?_
    refine j_iret dL_shelfCounts_17 rfl rfl ?_ (Nat.le_of_ble_eq_true rfl) (Nat.le_of_ble_eq_true rfl)
    exact ⟨_, by rw [hk], LT2, fun _ => rfl⟩
set_option maxRecDepth 100000 in
set_option maxHeartbeats 4000000 in
theorem lw_get (hl : l.stackTraces = false) (w : z_W) (x : Nat) (C M : sp_S) (n : Int64) (LT : z_LX x C M n w) (a0 : Int32) (a1 : Int32) : z_Con G l mL_get 27 14 120 w [.ref 0, .int a0, .int a1, .ref x] (fun v w9 => ∃ n9 : Int64, v = some (.int (t_get C a0 a1)) ∧ z_LX x (k_get C a0 a1) M n9 w9 ∧ (t_get C a0 a1 = 0 → n9 = (a_get C a0 a1).toInt64)) (fun _ _ => False) := by
  refine z_bodyW hl (by decide) (by decide) (Nat.le_of_ble_eq_true rfl) ?_
  show z_J G l mL_get _ 0 [(0, _), (1, _), (2, _), (3, _)] [] _ 0 0
  refine j_aload_n dL_get_0 rfl rfl ?_
  refine j_aload_n dL_get_1 rfl rfl ?_
  refine j_iload_n dL_get_2 rfl ?_
  refine j_iload_n dL_get_3 rfl ?_
  obtain ⟨fs72, gs72⟩ := LT.rc
  refine j_tryV (q := (RX8, TX8, 9)) dL_get_4 kX8_get lL_137 inX8_get seX8_get gs72 rfl (px_get hl w C LT.1.1 LT.1.2 a0 a1) (Nat.le_of_ble_eq_true rfl) ⟨(Nat.le_of_ble_eq_true rfl), (Nat.le_of_ble_eq_true rfl)⟩ rfl (Nat.le_of_ble_eq_true rfl) rfl ?_ ?_
  · rintro E _ ⟨hE, rfl⟩
    rcases hE with hE | hE
    · obtain ⟨hE, hk⟩ := hE
      have hk : t_get C a0 a1 = 1 := hk
      have hE : E = "java/lang/IndexOutOfBoundsException" := hE
      subst hE
      refine ⟨14, 16, ⟨[], (⟨0, 11, 14, 19⟩ : ExceptionTableEntry), _, "java/lang/IndexOutOfBoundsException", rfl, (fun z hz => by cases hz), by decide, by decide, (z_w 847 ((lwt_4_2 22).trans rfl) (by decide +kernel)), (z_wn 860 ((lwt_4_3 5).trans rfl) (by decide +kernel)), rfl⟩, Or.inl ⟨4, dL_get_14, by decide, rfl⟩, ?_⟩
      refine j_iconst (v := 1) dL_get_16 (by decide) ?_
      refine j_iret dL_get_17 rfl rfl ?_ (Nat.le_of_ble_eq_true rfl) (Nat.le_of_ble_eq_true rfl)
      exact ⟨_, by rw [hk], by unfold k_get; rw [if_neg (by rw [hk]; decide)]; exact LT, fun z => absurd (hk.symm.trans z) (by decide)⟩
    · obtain ⟨hE, hk⟩ := hE
      have hk : t_get C a0 a1 = 2 := hk
      have hE : E = "java/lang/IllegalArgumentException" := hE
      subst hE
      refine ⟨18, 20, ⟨[(⟨0, 11, 14, 19⟩ : ExceptionTableEntry)], (⟨0, 11, 18, 21⟩ : ExceptionTableEntry), _, "java/lang/IllegalArgumentException", rfl, (fun z hz => by
          simp only [List.mem_cons, List.not_mem_nil, or_false] at hz
          rcases hz with rfl
          · exact Or.inr ⟨by decide, "java/lang/IndexOutOfBoundsException", (z_w 847 ((lwt_4_2 22).trans rfl) (by decide +kernel)), by decide⟩), by decide, by decide, (z_w 848 ((lwt_4_2 23).trans rfl) (by decide +kernel)), (z_wn 460 ((lwt_2_5 25).trans rfl) (by decide +kernel)), rfl⟩, Or.inl ⟨4, dL_get_18, by decide, rfl⟩, ?_⟩
      refine j_iconst (v := 2) dL_get_20 (by decide) ?_
      refine j_iret dL_get_21 rfl rfl ?_ (Nat.le_of_ble_eq_true rfl) (Nat.le_of_ble_eq_true rfl)
      exact ⟨_, by rw [hk], by unfold k_get; rw [if_neg (by rw [hk]; decide)]; exact LT, fun z => absurd (hk.symm.trans z) (by decide)⟩
  · rintro _ w1 ⟨hk, rfl, hW1, hh1⟩
    have hk : t_get C a0 a1 = 0 := hk
    have LT1 : z_LX x (k_get C a0 a1) M n w1 := LT.cls (by unfold k_get; rw [if_pos hk]; exact hW1) (okk_get _ _ LT.1.2) hh1
    refine j_i2l dL_get_7 ?_
    obtain ⟨-, -, ⟨ov73, og73⟩, -⟩ := id LT1
    refine j_put (w' := _) dL_get_8 fL_13 tX9_0 og73 ⟨rfl, rfl⟩ rfl ?_
    refine j_seal (n := x) LT1.x1 ?_
    intro w2 u2
    have LT2 := LT1.out u2
    refine j_goto (tgt := 22) dL_get_11 (by decide) ?_
    refine j_iconst (v := 0) dL_get_22 (by decide) ?_
    refine j_iret dL_get_23 rfl rfl ?_ (Nat.le_of_ble_eq_true rfl) (Nat.le_of_ble_eq_true rfl)
    exact ⟨_, by rw [hk], LT2, fun _ => rfl⟩
set_option maxRecDepth 100000 in
set_option maxHeartbeats 4000000 in
theorem lw_getOr (hl : l.stackTraces = false) (w : z_W) (x : Nat) (C M : sp_S) (n : Int64) (LT : z_LX x C M n w) (a0 : Int32) (a1 : Int32) (a2 : Int32) : z_Con G l mL_getOr 27 14 120 w [.ref 0, .int a0, .int a1, .int a2, .ref x] (fun v w9 => ∃ n9 : Int64, v = some (.int (t_getOr C a0 a1 a2)) ∧ z_LX x (k_getOr C a0 a1 a2) M n9 w9 ∧ (t_getOr C a0 a1 a2 = 0 → n9 = (a_getOr C a0 a1 a2).toInt64)) (fun _ _ => False) := by
  refine z_bodyW hl (by decide) (by decide) (Nat.le_of_ble_eq_true rfl) ?_
  show z_J G l mL_getOr _ 0 [(0, _), (1, _), (2, _), (3, _), (4, _)] [] _ 0 0
  refine j_aload dL_getOr_0 rfl rfl ?_
  refine j_aload_n dL_getOr_2 rfl rfl ?_
  refine j_iload_n dL_getOr_3 rfl ?_
  refine j_iload_n dL_getOr_4 rfl ?_
  refine j_iload_n dL_getOr_5 rfl ?_
  obtain ⟨fs74, gs74⟩ := LT.rc
  refine j_tryV (q := (RX8, TX8, 9)) dL_getOr_6 kX8_getOr lL_140 inX8_getOr seX8_getOr gs74 rfl (px_getOr hl w C LT.1.1 LT.1.2 a0 a1 a2) (Nat.le_of_ble_eq_true rfl) ⟨(Nat.le_of_ble_eq_true rfl), (Nat.le_of_ble_eq_true rfl)⟩ rfl (Nat.le_of_ble_eq_true rfl) rfl ?_ ?_
  · rintro E _ ⟨hE, rfl⟩
    rcases hE with hE | hE
    · obtain ⟨hE, hk⟩ := hE
      have hk : t_getOr C a0 a1 a2 = 1 := hk
      have hE : E = "java/lang/IndexOutOfBoundsException" := hE
      subst hE
      refine ⟨16, 18, ⟨[], (⟨0, 13, 16, 19⟩ : ExceptionTableEntry), _, "java/lang/IndexOutOfBoundsException", rfl, (fun z hz => by cases hz), by decide, by decide, (z_w 847 ((lwt_4_2 22).trans rfl) (by decide +kernel)), (z_wn 860 ((lwt_4_3 5).trans rfl) (by decide +kernel)), rfl⟩, Or.inl ⟨5, dL_getOr_16, by decide, rfl⟩, ?_⟩
      refine j_iconst (v := 1) dL_getOr_18 (by decide) ?_
      refine j_iret dL_getOr_19 rfl rfl ?_ (Nat.le_of_ble_eq_true rfl) (Nat.le_of_ble_eq_true rfl)
      exact ⟨_, by rw [hk], by unfold k_getOr; rw [if_neg (by rw [hk]; decide)]; exact LT, fun z => absurd (hk.symm.trans z) (by decide)⟩
    · obtain ⟨hE, hk⟩ := hE
      have hk : t_getOr C a0 a1 a2 = 2 := hk
      have hE : E = "java/lang/IllegalArgumentException" := hE
      subst hE
      refine ⟨20, 22, ⟨[(⟨0, 13, 16, 19⟩ : ExceptionTableEntry)], (⟨0, 13, 20, 21⟩ : ExceptionTableEntry), _, "java/lang/IllegalArgumentException", rfl, (fun z hz => by
          simp only [List.mem_cons, List.not_mem_nil, or_false] at hz
          rcases hz with rfl
          · exact Or.inr ⟨by decide, "java/lang/IndexOutOfBoundsException", (z_w 847 ((lwt_4_2 22).trans rfl) (by decide +kernel)), by decide⟩), by decide, by decide, (z_w 848 ((lwt_4_2 23).trans rfl) (by decide +kernel)), (z_wn 460 ((lwt_2_5 25).trans rfl) (by decide +kernel)), rfl⟩, Or.inl ⟨5, dL_getOr_20, by decide, rfl⟩, ?_⟩
      refine j_iconst (v := 2) dL_getOr_22 (by decide) ?_
      refine j_iret dL_getOr_23 rfl rfl ?_ (Nat.le_of_ble_eq_true rfl) (Nat.le_of_ble_eq_true rfl)
      exact ⟨_, by rw [hk], by unfold k_getOr; rw [if_neg (by rw [hk]; decide)]; exact LT, fun z => absurd (hk.symm.trans z) (by decide)⟩
  · rintro _ w1 ⟨hk, rfl, hW1, hh1⟩
    have hk : t_getOr C a0 a1 a2 = 0 := hk
    have LT1 : z_LX x (k_getOr C a0 a1 a2) M n w1 := LT.cls (by unfold k_getOr; rw [if_pos hk]; exact hW1) (okk_getOr _ _ _ LT.1.2) hh1
    refine j_i2l dL_getOr_9 ?_
    obtain ⟨-, -, ⟨ov75, og75⟩, -⟩ := id LT1
    refine j_put (w' := _) dL_getOr_10 fL_13 tX9_0 og75 ⟨rfl, rfl⟩ rfl ?_
    refine j_seal (n := x) LT1.x1 ?_
    intro w2 u2
    have LT2 := LT1.out u2
    refine j_goto (tgt := 24) dL_getOr_13 (by decide) ?_
    refine j_iconst (v := 0) dL_getOr_24 (by decide) ?_
    refine j_iret dL_getOr_25 rfl rfl ?_ (Nat.le_of_ble_eq_true rfl) (Nat.le_of_ble_eq_true rfl)
    exact ⟨_, by rw [hk], LT2, fun _ => rfl⟩
set_option maxRecDepth 100000 in
set_option maxHeartbeats 4000000 in
theorem lw_has (hl : l.stackTraces = false) (w : z_W) (x : Nat) (C M : sp_S) (n : Int64) (LT : z_LX x C M n w) (a0 : Int32) (a1 : Int32) : z_Con G l mL_has 27 14 120 w [.ref 0, .int a0, .int a1, .ref x] (fun v w9 => ∃ n9 : Int64, v = some (.int (t_has C a0 a1)) ∧ z_LX x (k_has C a0 a1) M n9 w9 ∧ (t_has C a0 a1 = 0 → n9 = (a_has C a0 a1).toInt64)) (fun _ _ => False) := by
  refine z_bodyW hl (by decide) (by decide) (Nat.le_of_ble_eq_true rfl) ?_
  show z_J G l mL_has _ 0 [(0, _), (1, _), (2, _), (3, _)] [] _ 0 0
  refine j_aload_n dL_has_0 rfl rfl ?_
  refine j_aload_n dL_has_1 rfl rfl ?_
  refine j_iload_n dL_has_2 rfl ?_
  refine j_iload_n dL_has_3 rfl ?_
  obtain ⟨fs76, gs76⟩ := LT.rc
  refine j_tryV (q := (RX8, TX8, 9)) dL_has_4 kX8_has lL_143 inX8_has seX8_has gs76 rfl (px_has hl w C LT.1.1 LT.1.2 a0 a1) (Nat.le_of_ble_eq_true rfl) ⟨(Nat.le_of_ble_eq_true rfl), (Nat.le_of_ble_eq_true rfl)⟩ rfl (Nat.le_of_ble_eq_true rfl) rfl ?_ ?_
  · rintro E _ ⟨hE, rfl⟩
    rcases hE with hE | hE
    · obtain ⟨hE, hk⟩ := hE
      have hk : t_has C a0 a1 = 1 := hk
      have hE : E = "java/lang/IndexOutOfBoundsException" := hE
      subst hE
      refine ⟨21, 23, ⟨[], (⟨0, 18, 21, 19⟩ : ExceptionTableEntry), _, "java/lang/IndexOutOfBoundsException", rfl, (fun z hz => by cases hz), by decide, by decide, (z_w 847 ((lwt_4_2 22).trans rfl) (by decide +kernel)), (z_wn 860 ((lwt_4_3 5).trans rfl) (by decide +kernel)), rfl⟩, Or.inl ⟨4, dL_has_21, by decide, rfl⟩, ?_⟩
      refine j_iconst (v := 1) dL_has_23 (by decide) ?_
      refine j_iret dL_has_24 rfl rfl ?_ (Nat.le_of_ble_eq_true rfl) (Nat.le_of_ble_eq_true rfl)
      exact ⟨_, by rw [hk], by unfold k_has; rw [if_neg (by rw [hk]; decide)]; exact LT, fun z => absurd (hk.symm.trans z) (by decide)⟩
    · obtain ⟨hE, hk⟩ := hE
      have hk : t_has C a0 a1 = 2 := hk
      have hE : E = "java/lang/IllegalArgumentException" := hE
      subst hE
      refine ⟨25, 27, ⟨[(⟨0, 18, 21, 19⟩ : ExceptionTableEntry)], (⟨0, 18, 25, 21⟩ : ExceptionTableEntry), _, "java/lang/IllegalArgumentException", rfl, (fun z hz => by
          simp only [List.mem_cons, List.not_mem_nil, or_false] at hz
          rcases hz with rfl
          · exact Or.inr ⟨by decide, "java/lang/IndexOutOfBoundsException", (z_w 847 ((lwt_4_2 22).trans rfl) (by decide +kernel)), by decide⟩), by decide, by decide, (z_w 848 ((lwt_4_2 23).trans rfl) (by decide +kernel)), (z_wn 460 ((lwt_2_5 25).trans rfl) (by decide +kernel)), rfl⟩, Or.inl ⟨4, dL_has_25, by decide, rfl⟩, ?_⟩
      refine j_iconst (v := 2) dL_has_27 (by decide) ?_
      refine j_iret dL_has_28 rfl rfl ?_ (Nat.le_of_ble_eq_true rfl) (Nat.le_of_ble_eq_true rfl)
      exact ⟨_, by rw [hk], by unfold k_has; rw [if_neg (by rw [hk]; decide)]; exact LT, fun z => absurd (hk.symm.trans z) (by decide)⟩
  · rintro _ w1 ⟨hk, rfl, hW1, hh1⟩
    have hk : t_has C a0 a1 = 0 := hk
    have LT1 : z_LX x (k_has C a0 a1) M n w1 := LT.cls (by unfold k_has; rw [if_pos hk]; exact hW1) (okk_has _ _ LT.1.2) hh1
    refine j_if_eq (tgt := 14) dL_has_7 (by decide) (fun c_7_29 => ?_) (fun c_7_29 => ?_)
    · refine j_lconst (v := 0) dL_has_14 (by decide) ?_
      obtain ⟨-, -, ⟨ov77, og77⟩, -⟩ := id LT1
      refine j_put (w' := _) dL_has_15 fL_13 tX9_0 og77 ⟨rfl, rfl⟩ rfl ?_
      refine j_seal (n := x) LT1.x1 ?_
      intro w2 u2
      have LT2 := LT1.out u2
      refine j_goto (tgt := 29) dL_has_18 (by decide) ?_
      refine j_iconst (v := 0) dL_has_29 (by decide) ?_
      refine j_iret dL_has_30 rfl rfl ?_ (Nat.le_of_ble_eq_true rfl) (Nat.le_of_ble_eq_true rfl)
      first | exact ⟨_, by rw [hk], LT2, fun _ => by show _ = (z_bi _).toInt64; rw [z_bF c_7_29]; rfl⟩ | exact ⟨_, by rw [hk], LT2, fun _ => by show _ = (z_bi _).toInt64; rw [z_bt c_7_29]; rfl⟩
    · refine j_lconst (v := 1) dL_has_10 (by decide) ?_
      refine j_goto (tgt := 15) dL_has_11 (by decide) ?_
      obtain ⟨-, -, ⟨ov78, og78⟩, -⟩ := id LT1
      refine j_put (w' := _) dL_has_15 fL_13 tX9_0 og78 ⟨rfl, rfl⟩ rfl ?_
      refine j_seal (n := x) LT1.x1 ?_
      intro w3 u3
      have LT3 := LT1.out u3
      refine j_goto (tgt := 29) dL_has_18 (by decide) ?_
      refine j_iconst (v := 0) dL_has_29 (by decide) ?_
      refine j_iret dL_has_30 rfl rfl ?_ (Nat.le_of_ble_eq_true rfl) (Nat.le_of_ble_eq_true rfl)
      first | exact ⟨_, by rw [hk], LT3, fun _ => by show _ = (z_bi _).toInt64; rw [z_bF c_7_29]; rfl⟩ | exact ⟨_, by rw [hk], LT3, fun _ => by show _ = (z_bi _).toInt64; rw [z_bt c_7_29]; rfl⟩
set_option maxRecDepth 100000 in
set_option maxHeartbeats 4000000 in
theorem lw_size (hl : l.stackTraces = false) (w : z_W) (x : Nat) (C M : sp_S) (n : Int64) (LT : z_LX x C M n w) (a0 : Int32) : z_Con G l mL_size 27 14 120 w [.ref 0, .int a0, .ref x] (fun v w9 => ∃ n9 : Int64, v = some (.int (t_size C a0)) ∧ z_LX x (k_size C a0) M n9 w9 ∧ (t_size C a0 = 0 → n9 = (a_size C a0).toInt64)) (fun _ _ => False) := by
  refine z_bodyW hl (by decide) (by decide) (Nat.le_of_ble_eq_true rfl) ?_
  show z_J G l mL_size _ 0 [(0, _), (1, _), (2, _)] [] _ 0 0
  refine j_aload_n dL_size_0 rfl rfl ?_
  refine j_aload_n dL_size_1 rfl rfl ?_
  refine j_iload_n dL_size_2 rfl ?_
  obtain ⟨fs79, gs79⟩ := LT.rc
  refine j_tryV (q := (RX8, TX8, 9)) dL_size_3 kX8_size lL_147 inX8_size seX8_size gs79 rfl (px_size hl w C LT.1.1 LT.1.2 a0) (Nat.le_of_ble_eq_true rfl) ⟨(Nat.le_of_ble_eq_true rfl), (Nat.le_of_ble_eq_true rfl)⟩ rfl (Nat.le_of_ble_eq_true rfl) rfl ?_ ?_
  · rintro E _ ⟨hE, rfl⟩
    obtain ⟨hE, hk⟩ := hE
    have hk : t_size C a0 = 1 := hk
    have hE : E = "java/lang/IndexOutOfBoundsException" := hE
    subst hE
    refine ⟨13, 14, ⟨[], (⟨0, 10, 13, 19⟩ : ExceptionTableEntry), _, "java/lang/IndexOutOfBoundsException", rfl, (fun z hz => by cases hz), by decide, by decide, (z_w 847 ((lwt_4_2 22).trans rfl) (by decide +kernel)), (z_wn 860 ((lwt_4_3 5).trans rfl) (by decide +kernel)), rfl⟩, Or.inr ⟨3, dL_size_13, by decide, rfl⟩, ?_⟩
    refine j_iconst (v := 1) dL_size_14 (by decide) ?_
    refine j_iret dL_size_15 rfl rfl ?_ (Nat.le_of_ble_eq_true rfl) (Nat.le_of_ble_eq_true rfl)
    exact ⟨_, by rw [hk], by unfold k_size; rw [if_neg (by rw [hk]; decide)]; exact LT, fun z => absurd (hk.symm.trans z) (by decide)⟩
  · rintro _ w1 ⟨hk, rfl, hW1, hh1⟩
    have hk : t_size C a0 = 0 := hk
    have LT1 : z_LX x (k_size C a0) M n w1 := LT.cls (by unfold k_size; rw [if_pos hk]; exact hW1) (okk_size _ LT.1.2) hh1
    refine j_i2l dL_size_6 ?_
    obtain ⟨-, -, ⟨ov80, og80⟩, -⟩ := id LT1
    refine j_put (w' := _) dL_size_7 fL_13 tX9_0 og80 ⟨rfl, rfl⟩ rfl ?_
    refine j_seal (n := x) LT1.x1 ?_
    intro w2 u2
    have LT2 := LT1.out u2
    refine j_goto (tgt := 16) dL_size_10 (by decide) ?_
    refine j_iconst (v := 0) dL_size_16 (by decide) ?_
    refine j_iret dL_size_17 rfl rfl ?_ (Nat.le_of_ble_eq_true rfl) (Nat.le_of_ble_eq_true rfl)
    exact ⟨_, by rw [hk], LT2, fun _ => rfl⟩
set_option maxRecDepth 100000 in
set_option maxHeartbeats 4000000 in
theorem lw_text (hl : l.stackTraces = false) (w : z_W) (x : Nat) (C M : sp_S) (n : Int64) (LT : z_LX x C M n w) (a0 : Int32) : z_Con G l mL_text 27 68 2460 w [.ref 0, .int a0, .ref x] (fun v w9 => ∃ n9 : Int64, v = some (.int (sp_k3 a0)) ∧ z_LX x C M n9 w9 ∧ (sp_k3 a0 = 0 → z_LT x w9 (tx_pt (sp_T C (sp_i a0))))) (fun _ _ => False) := by
  refine z_bodyW hl (by decide) (by decide) (Nat.le_of_ble_eq_true rfl) ?_
  show z_J G l mL_text _ 0 [(0, _), (1, _), (2, _)] [] _ 0 0
  refine j_aload_n dL_text_0 rfl rfl ?_
  refine j_aload_n dL_text_1 rfl rfl ?_
  refine j_iload_n dL_text_2 rfl ?_
  obtain ⟨fs81, gs81⟩ := LT.rc
  refine j_tryV (q := (RX8, TX8, 9)) dL_text_3 kX8_text lL_150 inX8_text seX8_text gs81 rfl (pu_text hl w C a0 LT.1.1 LT.fn) (Nat.le_of_ble_eq_true rfl) ⟨(Nat.le_of_ble_eq_true rfl), (Nat.le_of_ble_eq_true rfl)⟩ rfl (Nat.le_of_ble_eq_true rfl) rfl ?_ ?_
  · rintro E _ ⟨⟨hE, hk⟩, rfl⟩
    have hE : E = "java/lang/IndexOutOfBoundsException" := hE
    subst hE
    refine ⟨12, 13, ⟨[], (⟨0, 9, 12, 19⟩ : ExceptionTableEntry), _, "java/lang/IndexOutOfBoundsException", rfl, (fun z hz => by cases hz), by decide, by decide, (z_w 847 ((lwt_4_2 22).trans rfl) (by decide +kernel)), (z_wn 860 ((lwt_4_3 5).trans rfl) (by decide +kernel)), rfl⟩, Or.inr ⟨3, dL_text_12, by decide, rfl⟩, ?_⟩
    refine j_iconst (v := 1) dL_text_13 (by decide) ?_
    refine j_iret dL_text_14 rfl rfl ?_ (Nat.le_of_ble_eq_true rfl) (Nat.le_of_ble_eq_true rfl)
    exact ⟨_, by rw [hk], LT, fun z => absurd (hk.symm.trans z) (by decide)⟩
  · rintro _ w1 ⟨hk, x1, rfl, lf1, ht1⟩
    have LT1 := LT.cl2 lf1
    obtain ⟨-, -, ⟨ov82, og82⟩, -⟩ := id LT1
    refine j_put (w' := _) dL_text_6 fL_114 tX9_1 og82 (Or.inl ⟨_, rfl⟩) rfl ?_
    refine j_seal (n := x) LT1.x1 ?_
    intro w2 u2
    have LT2 := LT1.out u2
    refine j_goto (tgt := 15) dL_text_9 (by decide) ?_
    refine j_iconst (v := 0) dL_text_15 (by decide) ?_
    refine j_iret dL_text_16 rfl rfl ?_ (Nat.le_of_ble_eq_true rfl) (Nat.le_of_ble_eq_true rfl)
    exact ⟨_, by rw [hk], LT2, fun _ => z_LT.of LT.x2 u2 ht1⟩
set_option maxRecDepth 100000 in
set_option maxHeartbeats 4000000 in
theorem lw_areLike (hl : l.stackTraces = false) (w : z_W) (x : Nat) (C M : sp_S) (n : Int64) (LT : z_LX x C M n w) (a0 : Int32) (a1 : Int32) : z_Con G l mL_areLike 27 14 120 w [.ref 0, .int a0, .int a1, .ref x] (fun v w9 => ∃ n9 : Int64, v = some (.int (t_areLike C a0 a1)) ∧ z_LX x (k_areLike C a0 a1) M n9 w9 ∧ (t_areLike C a0 a1 = 0 → n9 = (a_areLike C a0 a1).toInt64)) (fun _ _ => False) := by
  refine z_bodyW hl (by decide) (by decide) (Nat.le_of_ble_eq_true rfl) ?_
  show z_J G l mL_areLike _ 0 [(0, _), (1, _), (2, _), (3, _)] [] _ 0 0
  refine j_aload_n dL_areLike_0 rfl rfl ?_
  refine j_aload_n dL_areLike_1 rfl rfl ?_
  refine j_iload_n dL_areLike_2 rfl ?_
  refine j_iload_n dL_areLike_3 rfl ?_
  obtain ⟨fs83, gs83⟩ := LT.rc
  refine j_tryV (q := (RX8, TX8, 9)) dL_areLike_4 kX8_areLike lL_153 inX8_areLike seX8_areLike gs83 rfl (px_areLike hl w C LT.1.1 LT.1.2 a0 a1) (Nat.le_of_ble_eq_true rfl) ⟨(Nat.le_of_ble_eq_true rfl), (Nat.le_of_ble_eq_true rfl)⟩ rfl (Nat.le_of_ble_eq_true rfl) rfl ?_ ?_
  · rintro E _ ⟨hE, rfl⟩
    obtain ⟨hE, hk⟩ := hE
    have hk : t_areLike C a0 a1 = 1 := hk
    have hE : E = "java/lang/IndexOutOfBoundsException" := hE
    subst hE
    refine ⟨21, 23, ⟨[], (⟨0, 18, 21, 19⟩ : ExceptionTableEntry), _, "java/lang/IndexOutOfBoundsException", rfl, (fun z hz => by cases hz), by decide, by decide, (z_w 847 ((lwt_4_2 22).trans rfl) (by decide +kernel)), (z_wn 860 ((lwt_4_3 5).trans rfl) (by decide +kernel)), rfl⟩, Or.inl ⟨4, dL_areLike_21, by decide, rfl⟩, ?_⟩
    refine j_iconst (v := 1) dL_areLike_23 (by decide) ?_
    refine j_iret dL_areLike_24 rfl rfl ?_ (Nat.le_of_ble_eq_true rfl) (Nat.le_of_ble_eq_true rfl)
    exact ⟨_, by rw [hk], by unfold k_areLike; rw [if_neg (by rw [hk]; decide)]; exact LT, fun z => absurd (hk.symm.trans z) (by decide)⟩
  · rintro _ w1 ⟨hk, rfl, hW1, hh1⟩
    have hk : t_areLike C a0 a1 = 0 := hk
    have LT1 : z_LX x (k_areLike C a0 a1) M n w1 := LT.cls (by unfold k_areLike; rw [if_pos hk]; exact hW1) (okk_areLike _ _ LT.1.2) hh1
    refine j_if_eq (tgt := 14) dL_areLike_7 (by decide) (fun c_7_20 => ?_) (fun c_7_20 => ?_)
    · refine j_lconst (v := 0) dL_areLike_14 (by decide) ?_
      obtain ⟨-, -, ⟨ov84, og84⟩, -⟩ := id LT1
      refine j_put (w' := _) dL_areLike_15 fL_13 tX9_0 og84 ⟨rfl, rfl⟩ rfl ?_
      refine j_seal (n := x) LT1.x1 ?_
      intro w2 u2
      have LT2 := LT1.out u2
      refine j_goto (tgt := 25) dL_areLike_18 (by decide) ?_
      refine j_iconst (v := 0) dL_areLike_25 (by decide) ?_
      refine j_iret dL_areLike_26 rfl rfl ?_ (Nat.le_of_ble_eq_true rfl) (Nat.le_of_ble_eq_true rfl)
      first | exact ⟨_, by rw [hk], LT2, fun _ => by show _ = (z_bi _).toInt64; rw [z_bF c_7_20]; rfl⟩ | exact ⟨_, by rw [hk], LT2, fun _ => by show _ = (z_bi _).toInt64; rw [z_bt c_7_20]; rfl⟩
    · refine j_lconst (v := 1) dL_areLike_10 (by decide) ?_
      refine j_goto (tgt := 15) dL_areLike_11 (by decide) ?_
      obtain ⟨-, -, ⟨ov85, og85⟩, -⟩ := id LT1
      refine j_put (w' := _) dL_areLike_15 fL_13 tX9_0 og85 ⟨rfl, rfl⟩ rfl ?_
      refine j_seal (n := x) LT1.x1 ?_
      intro w3 u3
      have LT3 := LT1.out u3
      refine j_goto (tgt := 25) dL_areLike_18 (by decide) ?_
      refine j_iconst (v := 0) dL_areLike_25 (by decide) ?_
      refine j_iret dL_areLike_26 rfl rfl ?_ (Nat.le_of_ble_eq_true rfl) (Nat.le_of_ble_eq_true rfl)
      first | exact ⟨_, by rw [hk], LT3, fun _ => by show _ = (z_bi _).toInt64; rw [z_bF c_7_20]; rfl⟩ | exact ⟨_, by rw [hk], LT3, fun _ => by show _ = (z_bi _).toInt64; rw [z_bt c_7_20]; rfl⟩
set_option maxRecDepth 100000 in
set_option maxHeartbeats 4000000 in
theorem lw_given (hl : l.stackTraces = false) (w : z_W) (x : Nat) (C M : sp_S) (n : Int64) (LT : z_LX x C M n w) (a0 : Int32) (a1 : Int32) (a2 : Int32) (a3 : Int32) : z_Con G l mL_given 27 14 120 w [.ref 0, .int a0, .int a1, .int a2, .int a3, .ref x] (fun v w9 => ∃ n9 : Int64, v = some (.int (t_given C a0 a1 a2 a3)) ∧ z_LX x (k_given C a0 a1 a2 a3) M n9 w9 ∧ (t_given C a0 a1 a2 a3 = 0 → n9 = (a_given C a0 a1 a2 a3).toInt64)) (fun _ _ => False) := by
  refine z_bodyW hl (by decide) (by decide) (Nat.le_of_ble_eq_true rfl) ?_
  show z_J G l mL_given _ 0 [(0, _), (1, _), (2, _), (3, _), (4, _), (5, _)] [] _ 0 0
  refine j_aload dL_given_0 rfl rfl ?_
  refine j_aload_n dL_given_2 rfl rfl ?_
  refine j_iload_n dL_given_3 rfl ?_
  refine j_iload_n dL_given_4 rfl ?_
  refine j_iload_n dL_given_5 rfl ?_
  refine j_iload dL_given_6 rfl ?_
  obtain ⟨fs86, gs86⟩ := LT.rc
  refine j_tryV (q := (RX8, TX8, 9)) dL_given_8 kX8_given lL_156 inX8_given seX8_given gs86 rfl (px_given hl w C LT.1.1 LT.1.2 a0 a1 a2 a3) (Nat.le_of_ble_eq_true rfl) ⟨(Nat.le_of_ble_eq_true rfl), (Nat.le_of_ble_eq_true rfl)⟩ rfl (Nat.le_of_ble_eq_true rfl) rfl ?_ ?_
  · rintro E _ ⟨hE, rfl⟩
    obtain ⟨hE, hk⟩ := hE
    have hk : t_given C a0 a1 a2 a3 = 1 := hk
    have hE : E = "java/lang/IllegalArgumentException" := hE
    subst hE
    refine ⟨18, 20, ⟨[], (⟨0, 15, 18, 21⟩ : ExceptionTableEntry), _, "java/lang/IllegalArgumentException", rfl, (fun z hz => by cases hz), by decide, by decide, (z_w 848 ((lwt_4_2 23).trans rfl) (by decide +kernel)), (z_wn 460 ((lwt_2_5 25).trans rfl) (by decide +kernel)), rfl⟩, Or.inl ⟨6, dL_given_18, by decide, rfl⟩, ?_⟩
    refine j_iconst (v := 1) dL_given_20 (by decide) ?_
    refine j_iret dL_given_21 rfl rfl ?_ (Nat.le_of_ble_eq_true rfl) (Nat.le_of_ble_eq_true rfl)
    exact ⟨_, by rw [hk], by unfold k_given; rw [if_neg (by rw [hk]; decide)]; exact LT, fun z => absurd (hk.symm.trans z) (by decide)⟩
  · rintro _ w1 ⟨hk, rfl, hW1, hh1⟩
    have hk : t_given C a0 a1 a2 a3 = 0 := hk
    have LT1 : z_LX x (k_given C a0 a1 a2 a3) M n w1 := LT.cls (by unfold k_given; rw [if_pos hk]; exact hW1) (okk_given _ _ _ _ LT.1.2) hh1
    refine j_i2l dL_given_11 ?_
    obtain ⟨-, -, ⟨ov87, og87⟩, -⟩ := id LT1
    refine j_put (w' := _) dL_given_12 fL_13 tX9_0 og87 ⟨rfl, rfl⟩ rfl ?_
    refine j_seal (n := x) LT1.x1 ?_
    intro w2 u2
    have LT2 := LT1.out u2
    refine j_goto (tgt := 22) dL_given_15 (by decide) ?_
    refine j_iconst (v := 0) dL_given_22 (by decide) ?_
    refine j_iret dL_given_23 rfl rfl ?_ (Nat.le_of_ble_eq_true rfl) (Nat.le_of_ble_eq_true rfl)
    exact ⟨_, by rw [hk], LT2, fun _ => rfl⟩
set_option maxRecDepth 100000 in
set_option maxHeartbeats 4000000 in
theorem lw_tested (hl : l.stackTraces = false) (w : z_W) (x : Nat) (C M : sp_S) (n : Int64) (LT : z_LX x C M n w) (a0 : Int32) (a1 : Int32) (a2 : Int32) : z_Con G l mL_tested 27 14 120 w [.ref 0, .int a0, .int a1, .int a2, .ref x] (fun v w9 => ∃ n9 : Int64, v = some (.int (t_tested C a0 a1 a2)) ∧ z_LX x (k_tested C a0 a1 a2) M n9 w9 ∧ (t_tested C a0 a1 a2 = 0 → n9 = (a_tested C a0 a1 a2).toInt64)) (fun _ _ => False) := by
  refine z_bodyW hl (by decide) (by decide) (Nat.le_of_ble_eq_true rfl) ?_
  show z_J G l mL_tested _ 0 [(0, _), (1, _), (2, _), (3, _), (4, _)] [] _ 0 0
  refine j_aload dL_tested_0 rfl rfl ?_
  refine j_aload_n dL_tested_2 rfl rfl ?_
  refine j_iload_n dL_tested_3 rfl ?_
  refine j_iload_n dL_tested_4 rfl ?_
  refine j_iload_n dL_tested_5 rfl ?_
  obtain ⟨fs88, gs88⟩ := LT.rc
  refine j_tryV (q := (RX8, TX8, 9)) dL_tested_6 kX8_tested lL_159 inX8_tested seX8_tested gs88 rfl (px_tested hl w C LT.1.1 LT.1.2 a0 a1 a2) (Nat.le_of_ble_eq_true rfl) ⟨(Nat.le_of_ble_eq_true rfl), (Nat.le_of_ble_eq_true rfl)⟩ rfl (Nat.le_of_ble_eq_true rfl) rfl ?_ ?_
  · rintro E _ ⟨hE, rfl⟩
    obtain ⟨hE, hk⟩ := hE
    have hk : t_tested C a0 a1 a2 = 1 := hk
    have hE : E = "java/lang/IllegalArgumentException" := hE
    subst hE
    refine ⟨16, 18, ⟨[], (⟨0, 13, 16, 21⟩ : ExceptionTableEntry), _, "java/lang/IllegalArgumentException", rfl, (fun z hz => by cases hz), by decide, by decide, (z_w 848 ((lwt_4_2 23).trans rfl) (by decide +kernel)), (z_wn 460 ((lwt_2_5 25).trans rfl) (by decide +kernel)), rfl⟩, Or.inl ⟨5, dL_tested_16, by decide, rfl⟩, ?_⟩
    refine j_iconst (v := 1) dL_tested_18 (by decide) ?_
    refine j_iret dL_tested_19 rfl rfl ?_ (Nat.le_of_ble_eq_true rfl) (Nat.le_of_ble_eq_true rfl)
    exact ⟨_, by rw [hk], by unfold k_tested; rw [if_neg (by rw [hk]; decide)]; exact LT, fun z => absurd (hk.symm.trans z) (by decide)⟩
  · rintro _ w1 ⟨hk, rfl, hW1, hh1⟩
    have hk : t_tested C a0 a1 a2 = 0 := hk
    have LT1 : z_LX x (k_tested C a0 a1 a2) M n w1 := LT.cls (by unfold k_tested; rw [if_pos hk]; exact hW1) (okk_tested _ _ _ LT.1.2) hh1
    refine j_i2l dL_tested_9 ?_
    obtain ⟨-, -, ⟨ov89, og89⟩, -⟩ := id LT1
    refine j_put (w' := _) dL_tested_10 fL_13 tX9_0 og89 ⟨rfl, rfl⟩ rfl ?_
    refine j_seal (n := x) LT1.x1 ?_
    intro w2 u2
    have LT2 := LT1.out u2
    refine j_goto (tgt := 20) dL_tested_13 (by decide) ?_
    refine j_iconst (v := 0) dL_tested_20 (by decide) ?_
    refine j_iret dL_tested_21 rfl rfl ?_ (Nat.le_of_ble_eq_true rfl) (Nat.le_of_ble_eq_true rfl)
    exact ⟨_, by rw [hk], LT2, fun _ => rfl⟩
set_option maxRecDepth 100000 in
set_option maxHeartbeats 4000000 in
theorem lw_house (hl : l.stackTraces = false) (w : z_W) (x : Nat) (C M : sp_S) (n : Int64) (LT : z_LX x C M n w) (a0 : Int32) : z_Con G l mL_house 27 14 120 w [.ref 0, .int a0, .ref x] (fun v w9 => ∃ n9 : Int64, v = some (.int (t_house C a0)) ∧ z_LX x (k_house C a0) M n9 w9 ∧ (t_house C a0 = 0 → n9 = (a_house C a0).toInt64)) (fun _ _ => False) := by
  refine z_bodyW hl (by decide) (by decide) (Nat.le_of_ble_eq_true rfl) ?_
  show z_J G l mL_house _ 0 [(0, _), (1, _), (2, _)] [] _ 0 0
  refine j_aload_n dL_house_0 rfl rfl ?_
  refine j_aload_n dL_house_1 rfl rfl ?_
  refine j_iload_n dL_house_2 rfl ?_
  obtain ⟨fs90, gs90⟩ := LT.rc
  refine j_tryV (q := (RX8, TX8, 9)) dL_house_3 kX8_house lL_162 inX8_house seX8_house gs90 rfl (px_house hl w C LT.1.1 LT.1.2 a0) (Nat.le_of_ble_eq_true rfl) ⟨(Nat.le_of_ble_eq_true rfl), (Nat.le_of_ble_eq_true rfl)⟩ rfl (Nat.le_of_ble_eq_true rfl) rfl ?_ ?_
  · rintro E _ ⟨hE, rfl⟩
    obtain ⟨hE, hk⟩ := hE
    have hk : t_house C a0 = 1 := hk
    have hE : E = "java/lang/IllegalArgumentException" := hE
    subst hE
    refine ⟨13, 14, ⟨[], (⟨0, 10, 13, 21⟩ : ExceptionTableEntry), _, "java/lang/IllegalArgumentException", rfl, (fun z hz => by cases hz), by decide, by decide, (z_w 848 ((lwt_4_2 23).trans rfl) (by decide +kernel)), (z_wn 460 ((lwt_2_5 25).trans rfl) (by decide +kernel)), rfl⟩, Or.inr ⟨3, dL_house_13, by decide, rfl⟩, ?_⟩
    refine j_iconst (v := 1) dL_house_14 (by decide) ?_
    refine j_iret dL_house_15 rfl rfl ?_ (Nat.le_of_ble_eq_true rfl) (Nat.le_of_ble_eq_true rfl)
    exact ⟨_, by rw [hk], by unfold k_house; rw [if_neg (by rw [hk]; decide)]; exact LT, fun z => absurd (hk.symm.trans z) (by decide)⟩
  · rintro _ w1 ⟨hk, rfl, hW1, hh1⟩
    have hk : t_house C a0 = 0 := hk
    have LT1 : z_LX x (k_house C a0) M n w1 := LT.cls (by unfold k_house; rw [if_pos hk]; exact hW1) (okk_house _ LT.1.2) hh1
    refine j_i2l dL_house_6 ?_
    obtain ⟨-, -, ⟨ov91, og91⟩, -⟩ := id LT1
    refine j_put (w' := _) dL_house_7 fL_13 tX9_0 og91 ⟨rfl, rfl⟩ rfl ?_
    refine j_seal (n := x) LT1.x1 ?_
    intro w2 u2
    have LT2 := LT1.out u2
    refine j_goto (tgt := 16) dL_house_10 (by decide) ?_
    refine j_iconst (v := 0) dL_house_16 (by decide) ?_
    refine j_iret dL_house_17 rfl rfl ?_ (Nat.le_of_ble_eq_true rfl) (Nat.le_of_ble_eq_true rfl)
    exact ⟨_, by rw [hk], LT2, fun _ => rfl⟩
end ZLw
end ZM0
section ZM1
section ZLaw
variable {G : z_G} {l : Launch}
abbrev mL_law : z_M := (yL_law, cL_law, 7, some .boolean, [])
abbrev z_SL : z_S := (2048, 665722, 7105070, ([], z_no), (fun v _ => v = some (.int 1)), fun _ _ => False)
abbrev z_lol (x i : Nat) : List (Nat × Value) := [(0, .retAddr 8), (1, .ref 0), (2, .ref 1000), (3, .ref x), (4, .int (nI i))]
set_option maxRecDepth 100000 in
set_option maxHeartbeats 4000000 in
theorem lc_0 (hl : l.stackTraces = false) {w : z_W} {x i kc ks : Nat} {S : sp_S} {n : Int64} (LT : z_LX x S S n w) (hi6 : i + 6 ≤ z_sn G) (hsn : z_sn G ≤ 3072) (hkc : kc + 200 ≤ 665722) (hks : ks + 6000 ≤ 7105070) (KK : ∀ (S9 : sp_S) (n9 : Int64) (w9 : z_W), z_LX x S9 S9 n9 w9 → z_J G l mL_law z_SL 3514 (z_lol x i) [] w9 (kc + 200) (ks + 6000)) : z_J G l mL_law z_SL 248 (z_lol x i) [] w kc ks := by
  show z_J G l mL_law _ 248 [(0, _), (1, _), (2, _), (3, _), (4, _)] [] _ _ _
  refine j_aload_n dL_law_248 rfl rfl ?_
  refine j_aload_n dL_law_249 rfl rfl ?_
  refine j_iload dL_law_250 rfl ?_
  refine j_iconst (v := 1) dL_law_252 (by decide) ?_
  refine j_iadd dL_law_253 ?_
  refine j_top (congrArg Value.int (show nI i + (1 : Int32) = nI (i + 1) from nI_add i 1)) ?_
  refine j_sld dL_law_254 (by omega) (by omega) ?_
  refine j_aload_n dL_law_255 rfl rfl ?_
  refine j_iload dL_law_256 rfl ?_
  refine j_iconst (v := 2) dL_law_258 (by decide) ?_
  refine j_iadd dL_law_259 ?_
  refine j_top (congrArg Value.int (show nI i + (2 : Int32) = nI (i + 2) from nI_add i 2)) ?_
  refine j_sld dL_law_260 (by omega) (by omega) ?_
  refine j_aload_n dL_law_261 rfl rfl ?_
  refine j_callSW dL_law_262 kL_type lL_170 stL_type (lw_type hl w _ _ _ _ LT (z_sc G (i + 1)) (z_sc G (i + 2))) (Nat.le_of_ble_eq_true rfl) ⟨(by show _ ≤ 665722; omega), (by show _ ≤ 7105070; omega)⟩ rfl (Nat.le_of_ble_eq_true rfl) rfl rfl (fun _ _ h => h.elim) ?_
  rintro _ w1 ⟨n1, rfl, LT1, hn1⟩
  refine j_istore (lo' := [(5, _), (0, _), (1, _), (2, _), (3, _), (4, _)]) dL_law_265 (by decide) rfl ?_
  refine j_aload_n dL_law_267 rfl rfl ?_
  refine j_aload_n dL_law_268 rfl rfl ?_
  refine j_iload dL_law_269 rfl ?_
  refine j_iconst (v := 1) dL_law_271 (by decide) ?_
  refine j_iadd dL_law_272 ?_
  refine j_top (congrArg Value.int (show nI i + (1 : Int32) = nI (i + 1) from nI_add i 1)) ?_
  refine j_sld dL_law_273 (by omega) (by omega) ?_
  refine j_aload_n dL_law_274 rfl rfl ?_
  refine j_iload dL_law_275 rfl ?_
  refine j_iconst (v := 2) dL_law_277 (by decide) ?_
  refine j_iadd dL_law_278 ?_
  refine j_top (congrArg Value.int (show nI i + (2 : Int32) = nI (i + 2) from nI_add i 2)) ?_
  refine j_sld dL_law_279 (by omega) (by omega) ?_
  obtain ⟨-, ⟨s1, hs1, -⟩, -⟩ := id LT1
  refine j_callV (q := (RX11, TX11, 8)) dL_law_280 kX11_type lL_175 inX11_type seX11_type hs1.m rfl (kx_type hl w1 LT1 (z_sc G (i + 1)) (z_sc G (i + 2))) (Nat.le_of_ble_eq_true rfl) ⟨(by show _ ≤ 665722; omega), (by show _ ≤ 7105070; omega)⟩ rfl (Nat.le_of_ble_eq_true rfl) rfl rfl (fun _ _ h => h.elim) ?_
  rintro _ w2 ⟨r2, rfl, LT2, th2, hr2⟩
  refine j_istore (lo' := [(6, _), (5, _), (0, _), (1, _), (2, _), (3, _), (4, _)]) dL_law_283 (by decide) rfl ?_
  refine j_aload_n dL_law_285 rfl rfl ?_
  obtain ⟨st2, hst2, ht2⟩ := th2
  refine j_callV (q := (RX11, TX11, 8)) dL_law_286 kX11_thrown lL_176 inX11_thrown seX11_thrown hst2.m rfl (cm_thrown hl w2 _ hst2) (Nat.le_of_ble_eq_true rfl) ⟨(by show _ ≤ 665722; omega), (by show _ ≤ 7105070; omega)⟩ rfl (Nat.le_of_ble_eq_true rfl) rfl rfl (fun _ _ h => h.elim) ?_
  rintro _ _ ⟨rfl, hw2⟩
  refine j_w w2 hw2 ?_
  refine j_iload dL_law_289 rfl ?_
  refine j_icmp_eq (tgt := 296) dL_law_291 (by decide) (fun c_291_41 => ?_) (fun c_291_41 => ?_)
  · refine j_iload dL_law_296 rfl ?_
    refine j_if_ne (tgt := 314) dL_law_298 (by decide) (fun c_298_43 => ?_) (fun c_298_43 => ?_)
    · refine j_goto (tgt := 3514) dL_law_314 (by decide) ?_
      refine j_widen (kc' := kc + 200) (ks' := ks + 6000) (by omega) (by omega) ?_
      exact j_lo2 (KK _ _ _ LT2) (z_q1 rfl (z_q1 rfl (z_q1 rfl (z_q1 rfl (z_q1 rfl z_q0)))))
    · refine j_aload_n dL_law_301 rfl rfl ?_
      obtain ⟨-, -, ⟨ov3, og3⟩, -⟩ := id LT2
      refine j_getf dL_law_302 fL_13 og3 rfl ?_
      refine j_iload dL_law_305 rfl ?_
      refine j_i2l dL_law_307 ?_
      refine j_lcmp dL_law_308 ?_
      refine j_if_eq (tgt := 314) dL_law_309 (by decide) (fun c_309_53 => ?_) (fun c_309_53 => ?_)
      · refine j_goto (tgt := 3514) dL_law_314 (by decide) ?_
        refine j_widen (kc' := kc + 200) (ks' := ks + 6000) (by omega) (by omega) ?_
        exact j_lo2 (KK _ _ _ LT2) (z_q1 rfl (z_q1 rfl (z_q1 rfl (z_q1 rfl (z_q1 rfl z_q0)))))
      · exact absurd (q_cmp (by rw [hn1 c_298_43, hr2 c_298_43])) c_309_53
  · exact absurd ht2 c_291_41
set_option maxRecDepth 100000 in
set_option maxHeartbeats 4000000 in
theorem lc_1 (hl : l.stackTraces = false) {w : z_W} {x i kc ks : Nat} {S : sp_S} {n : Int64} (LT : z_LX x S S n w) (hi6 : i + 6 ≤ z_sn G) (hsn : z_sn G ≤ 3072) (hkc : kc + 200 ≤ 665722) (hks : ks + 6000 ≤ 7105070) (KK : ∀ (S9 : sp_S) (n9 : Int64) (w9 : z_W), z_LX x S9 S9 n9 w9 → z_J G l mL_law z_SL 3514 (z_lol x i) [] w9 (kc + 200) (ks + 6000)) : z_J G l mL_law z_SL 317 (z_lol x i) [] w kc ks := by
  show z_J G l mL_law _ 317 [(0, _), (1, _), (2, _), (3, _), (4, _)] [] _ _ _
  refine j_aload_n dL_law_317 rfl rfl ?_
  refine j_aload_n dL_law_318 rfl rfl ?_
  refine j_iload dL_law_319 rfl ?_
  refine j_iconst (v := 1) dL_law_321 (by decide) ?_
  refine j_iadd dL_law_322 ?_
  refine j_top (congrArg Value.int (show nI i + (1 : Int32) = nI (i + 1) from nI_add i 1)) ?_
  refine j_sld dL_law_323 (by omega) (by omega) ?_
  refine j_aload_n dL_law_324 rfl rfl ?_
  refine j_iload dL_law_325 rfl ?_
  refine j_iconst (v := 2) dL_law_327 (by decide) ?_
  refine j_iadd dL_law_328 ?_
  refine j_top (congrArg Value.int (show nI i + (2 : Int32) = nI (i + 2) from nI_add i 2)) ?_
  refine j_sld dL_law_329 (by omega) (by omega) ?_
  refine j_aload_n dL_law_330 rfl rfl ?_
  refine j_callSW dL_law_331 kL_drop lL_180 stL_drop (lw_drop hl w _ _ _ _ LT (z_sc G (i + 1)) (z_sc G (i + 2))) (Nat.le_of_ble_eq_true rfl) ⟨(by show _ ≤ 665722; omega), (by show _ ≤ 7105070; omega)⟩ rfl (Nat.le_of_ble_eq_true rfl) rfl rfl (fun _ _ h => h.elim) ?_
  rintro _ w1 ⟨n1, rfl, LT1, hn1⟩
  refine j_istore (lo' := [(5, _), (0, _), (1, _), (2, _), (3, _), (4, _)]) dL_law_334 (by decide) rfl ?_
  refine j_aload_n dL_law_336 rfl rfl ?_
  refine j_aload_n dL_law_337 rfl rfl ?_
  refine j_iload dL_law_338 rfl ?_
  refine j_iconst (v := 1) dL_law_340 (by decide) ?_
  refine j_iadd dL_law_341 ?_
  refine j_top (congrArg Value.int (show nI i + (1 : Int32) = nI (i + 1) from nI_add i 1)) ?_
  refine j_sld dL_law_342 (by omega) (by omega) ?_
  refine j_aload_n dL_law_343 rfl rfl ?_
  refine j_iload dL_law_344 rfl ?_
  refine j_iconst (v := 2) dL_law_346 (by decide) ?_
  refine j_iadd dL_law_347 ?_
  refine j_top (congrArg Value.int (show nI i + (2 : Int32) = nI (i + 2) from nI_add i 2)) ?_
  refine j_sld dL_law_348 (by omega) (by omega) ?_
  obtain ⟨-, ⟨s4, hs4, -⟩, -⟩ := id LT1
  refine j_callV (q := (RX11, TX11, 8)) dL_law_349 kX11_drop lL_182 inX11_drop seX11_drop hs4.m rfl (kx_drop hl w1 LT1 (z_sc G (i + 1)) (z_sc G (i + 2))) (Nat.le_of_ble_eq_true rfl) ⟨(by show _ ≤ 665722; omega), (by show _ ≤ 7105070; omega)⟩ rfl (Nat.le_of_ble_eq_true rfl) rfl rfl (fun _ _ h => h.elim) ?_
  rintro _ w2 ⟨r2, rfl, LT2, th2, hr2⟩
  refine j_istore (lo' := [(6, _), (5, _), (0, _), (1, _), (2, _), (3, _), (4, _)]) dL_law_352 (by decide) rfl ?_
  refine j_aload_n dL_law_354 rfl rfl ?_
  obtain ⟨st5, hst5, ht5⟩ := th2
  refine j_callV (q := (RX11, TX11, 8)) dL_law_355 kX11_thrown lL_176 inX11_thrown seX11_thrown hst5.m rfl (cm_thrown hl w2 _ hst5) (Nat.le_of_ble_eq_true rfl) ⟨(by show _ ≤ 665722; omega), (by show _ ≤ 7105070; omega)⟩ rfl (Nat.le_of_ble_eq_true rfl) rfl rfl (fun _ _ h => h.elim) ?_
  rintro _ _ ⟨rfl, hw5⟩
  refine j_w w2 hw5 ?_
  refine j_iload dL_law_358 rfl ?_
  refine j_icmp_eq (tgt := 365) dL_law_360 (by decide) (fun c_360_41 => ?_) (fun c_360_41 => ?_)
  · refine j_iload dL_law_365 rfl ?_
    refine j_if_ne (tgt := 383) dL_law_367 (by decide) (fun c_367_43 => ?_) (fun c_367_43 => ?_)
    · refine j_goto (tgt := 3514) dL_law_383 (by decide) ?_
      refine j_widen (kc' := kc + 200) (ks' := ks + 6000) (by omega) (by omega) ?_
      exact j_lo2 (KK _ _ _ LT2) (z_q1 rfl (z_q1 rfl (z_q1 rfl (z_q1 rfl (z_q1 rfl z_q0)))))
    · refine j_aload_n dL_law_370 rfl rfl ?_
      obtain ⟨-, -, ⟨ov6, og6⟩, -⟩ := id LT2
      refine j_getf dL_law_371 fL_13 og6 rfl ?_
      refine j_iload dL_law_374 rfl ?_
      refine j_i2l dL_law_376 ?_
      refine j_lcmp dL_law_377 ?_
      refine j_if_eq (tgt := 383) dL_law_378 (by decide) (fun c_378_53 => ?_) (fun c_378_53 => ?_)
      · refine j_goto (tgt := 3514) dL_law_383 (by decide) ?_
        refine j_widen (kc' := kc + 200) (ks' := ks + 6000) (by omega) (by omega) ?_
        exact j_lo2 (KK _ _ _ LT2) (z_q1 rfl (z_q1 rfl (z_q1 rfl (z_q1 rfl (z_q1 rfl z_q0)))))
      · exact absurd (q_cmp (by rw [hn1 c_367_43, hr2 c_367_43])) c_378_53
  · exact absurd ht5 c_360_41
set_option maxRecDepth 100000 in
set_option maxHeartbeats 4000000 in
theorem lc_2 (hl : l.stackTraces = false) {w : z_W} {x i kc ks : Nat} {S : sp_S} {n : Int64} (LT : z_LX x S S n w) (hi6 : i + 6 ≤ z_sn G) (hsn : z_sn G ≤ 3072) (hkc : kc + 200 ≤ 665722) (hks : ks + 6000 ≤ 7105070) (KK : ∀ (S9 : sp_S) (n9 : Int64) (w9 : z_W), z_LX x S9 S9 n9 w9 → z_J G l mL_law z_SL 3514 (z_lol x i) [] w9 (kc + 200) (ks + 6000)) : z_J G l mL_law z_SL 386 (z_lol x i) [] w kc ks := by
  show z_J G l mL_law _ 386 [(0, _), (1, _), (2, _), (3, _), (4, _)] [] _ _ _
  refine j_aload_n dL_law_386 rfl rfl ?_
  refine j_aload_n dL_law_387 rfl rfl ?_
  refine j_iload dL_law_388 rfl ?_
  refine j_iconst (v := 1) dL_law_390 (by decide) ?_
  refine j_iadd dL_law_391 ?_
  refine j_top (congrArg Value.int (show nI i + (1 : Int32) = nI (i + 1) from nI_add i 1)) ?_
  refine j_sld dL_law_392 (by omega) (by omega) ?_
  refine j_aload_n dL_law_393 rfl rfl ?_
  refine j_iload dL_law_394 rfl ?_
  refine j_iconst (v := 2) dL_law_396 (by decide) ?_
  refine j_iadd dL_law_397 ?_
  refine j_top (congrArg Value.int (show nI i + (2 : Int32) = nI (i + 2) from nI_add i 2)) ?_
  refine j_sld dL_law_398 (by omega) (by omega) ?_
  refine j_if_eq (tgt := 406) dL_law_399 (by decide) (fun c_399_14 => ?_) (fun c_399_14 => ?_)
  · refine j_iconst (v := 0) dL_law_406 (by decide) ?_
    refine j_aload_n dL_law_407 rfl rfl ?_
    refine j_callSW dL_law_408 kL_fix lL_183 stL_fix (lw_fix hl w _ _ _ _ LT (z_sc G (i + 1)) false) (Nat.le_of_ble_eq_true rfl) ⟨(by show _ ≤ 665722; omega), (by show _ ≤ 7105070; omega)⟩ rfl (Nat.le_of_ble_eq_true rfl) rfl rfl (fun _ _ h => h.elim) ?_
    rintro _ w1 ⟨n1, rfl, LT1, hn1⟩
    refine j_istore (lo' := [(5, _), (0, _), (1, _), (2, _), (3, _), (4, _)]) dL_law_411 (by decide) rfl ?_
    refine j_aload_n dL_law_413 rfl rfl ?_
    refine j_aload_n dL_law_414 rfl rfl ?_
    refine j_iload dL_law_415 rfl ?_
    refine j_iconst (v := 1) dL_law_417 (by decide) ?_
    refine j_iadd dL_law_418 ?_
    refine j_top (congrArg Value.int (show nI i + (1 : Int32) = nI (i + 1) from nI_add i 1)) ?_
    refine j_sld dL_law_419 (by omega) (by omega) ?_
    refine j_aload_n dL_law_420 rfl rfl ?_
    refine j_iload dL_law_421 rfl ?_
    refine j_iconst (v := 2) dL_law_423 (by decide) ?_
    refine j_iadd dL_law_424 ?_
    refine j_top (congrArg Value.int (show nI i + (2 : Int32) = nI (i + 2) from nI_add i 2)) ?_
    refine j_sld dL_law_425 (by omega) (by omega) ?_
    refine j_if_eq (tgt := 433) dL_law_426 (by decide) (fun c_426_33 => ?_) (fun c_426_33 => ?_)
    · refine j_iconst (v := 0) dL_law_433 (by decide) ?_
      obtain ⟨-, ⟨s7, hs7, -⟩, -⟩ := id LT1
      refine j_callV (q := (RX11, TX11, 8)) dL_law_434 kX11_fix lL_186 inX11_fix seX11_fix hs7.m rfl (kx_fix hl w1 LT1 (z_sc G (i + 1)) false) (Nat.le_of_ble_eq_true rfl) ⟨(by show _ ≤ 665722; omega), (by show _ ≤ 7105070; omega)⟩ rfl (Nat.le_of_ble_eq_true rfl) rfl rfl (fun _ _ h => h.elim) ?_
      rintro _ w2 ⟨r2, rfl, LT2, th2, hr2⟩
      refine j_istore (lo' := [(6, _), (5, _), (0, _), (1, _), (2, _), (3, _), (4, _)]) dL_law_437 (by decide) rfl ?_
      refine j_aload_n dL_law_439 rfl rfl ?_
      obtain ⟨st8, hst8, ht8⟩ := th2
      refine j_callV (q := (RX11, TX11, 8)) dL_law_440 kX11_thrown lL_176 inX11_thrown seX11_thrown hst8.m rfl (cm_thrown hl w2 _ hst8) (Nat.le_of_ble_eq_true rfl) ⟨(by show _ ≤ 665722; omega), (by show _ ≤ 7105070; omega)⟩ rfl (Nat.le_of_ble_eq_true rfl) rfl rfl (fun _ _ h => h.elim) ?_
      rintro _ _ ⟨rfl, hw8⟩
      refine j_w w2 hw8 ?_
      refine j_iload dL_law_443 rfl ?_
      refine j_icmp_eq (tgt := 450) dL_law_445 (by decide) (fun c_445_45 => ?_) (fun c_445_45 => ?_)
      · refine j_iload dL_law_450 rfl ?_
        refine j_if_ne (tgt := 468) dL_law_452 (by decide) (fun c_452_47 => ?_) (fun c_452_47 => ?_)
        · refine j_goto (tgt := 3514) dL_law_468 (by decide) ?_
          refine j_widen (kc' := kc + 200) (ks' := ks + 6000) (by omega) (by omega) ?_
          exact j_lo2 (KK _ _ _ LT2) (z_q1 rfl (z_q1 rfl (z_q1 rfl (z_q1 rfl (z_q1 rfl z_q0)))))
        · refine j_aload_n dL_law_455 rfl rfl ?_
          obtain ⟨-, -, ⟨ov9, og9⟩, -⟩ := id LT2
          refine j_getf dL_law_456 fL_13 og9 rfl ?_
          refine j_iload dL_law_459 rfl ?_
          refine j_i2l dL_law_461 ?_
          refine j_lcmp dL_law_462 ?_
          refine j_if_eq (tgt := 468) dL_law_463 (by decide) (fun c_463_57 => ?_) (fun c_463_57 => ?_)
          · refine j_goto (tgt := 3514) dL_law_468 (by decide) ?_
            refine j_widen (kc' := kc + 200) (ks' := ks + 6000) (by omega) (by omega) ?_
            exact j_lo2 (KK _ _ _ LT2) (z_q1 rfl (z_q1 rfl (z_q1 rfl (z_q1 rfl (z_q1 rfl z_q0)))))
          · exact absurd (q_cmp (by rw [hn1 c_452_47, hr2 c_452_47])) c_463_57
      · exact absurd ht8 c_445_45
    · exact absurd c_399_14 c_426_33
  · refine j_iconst (v := 1) dL_law_402 (by decide) ?_
    refine j_goto (tgt := 407) dL_law_403 (by decide) ?_
    refine j_aload_n dL_law_407 rfl rfl ?_
    refine j_callSW dL_law_408 kL_fix lL_183 stL_fix (lw_fix hl w _ _ _ _ LT (z_sc G (i + 1)) true) (Nat.le_of_ble_eq_true rfl) ⟨(by show _ ≤ 665722; omega), (by show _ ≤ 7105070; omega)⟩ rfl (Nat.le_of_ble_eq_true rfl) rfl rfl (fun _ _ h => h.elim) ?_
    rintro _ w3 ⟨n3, rfl, LT3, hn3⟩
    refine j_istore (lo' := [(5, _), (0, _), (1, _), (2, _), (3, _), (4, _)]) dL_law_411 (by decide) rfl ?_
    refine j_aload_n dL_law_413 rfl rfl ?_
    refine j_aload_n dL_law_414 rfl rfl ?_
    refine j_iload dL_law_415 rfl ?_
    refine j_iconst (v := 1) dL_law_417 (by decide) ?_
    refine j_iadd dL_law_418 ?_
    refine j_top (congrArg Value.int (show nI i + (1 : Int32) = nI (i + 1) from nI_add i 1)) ?_
    refine j_sld dL_law_419 (by omega) (by omega) ?_
    refine j_aload_n dL_law_420 rfl rfl ?_
    refine j_iload dL_law_421 rfl ?_
    refine j_iconst (v := 2) dL_law_423 (by decide) ?_
    refine j_iadd dL_law_424 ?_
    refine j_top (congrArg Value.int (show nI i + (2 : Int32) = nI (i + 2) from nI_add i 2)) ?_
    refine j_sld dL_law_425 (by omega) (by omega) ?_
    refine j_if_eq (tgt := 433) dL_law_426 (by decide) (fun c_426_83 => ?_) (fun c_426_83 => ?_)
    · exact absurd c_426_83 c_399_14
    · refine j_iconst (v := 1) dL_law_429 (by decide) ?_
      refine j_goto (tgt := 434) dL_law_430 (by decide) ?_
      obtain ⟨-, ⟨s10, hs10, -⟩, -⟩ := id LT3
      refine j_callV (q := (RX11, TX11, 8)) dL_law_434 kX11_fix lL_186 inX11_fix seX11_fix hs10.m rfl (kx_fix hl w3 LT3 (z_sc G (i + 1)) true) (Nat.le_of_ble_eq_true rfl) ⟨(by show _ ≤ 665722; omega), (by show _ ≤ 7105070; omega)⟩ rfl (Nat.le_of_ble_eq_true rfl) rfl rfl (fun _ _ h => h.elim) ?_
      rintro _ w4 ⟨r4, rfl, LT4, th4, hr4⟩
      refine j_istore (lo' := [(6, _), (5, _), (0, _), (1, _), (2, _), (3, _), (4, _)]) dL_law_437 (by decide) rfl ?_
      refine j_aload_n dL_law_439 rfl rfl ?_
      obtain ⟨st11, hst11, ht11⟩ := th4
      refine j_callV (q := (RX11, TX11, 8)) dL_law_440 kX11_thrown lL_176 inX11_thrown seX11_thrown hst11.m rfl (cm_thrown hl w4 _ hst11) (Nat.le_of_ble_eq_true rfl) ⟨(by show _ ≤ 665722; omega), (by show _ ≤ 7105070; omega)⟩ rfl (Nat.le_of_ble_eq_true rfl) rfl rfl (fun _ _ h => h.elim) ?_
      rintro _ _ ⟨rfl, hw11⟩
      refine j_w w4 hw11 ?_
      refine j_iload dL_law_443 rfl ?_
      refine j_icmp_eq (tgt := 450) dL_law_445 (by decide) (fun c_445_97 => ?_) (fun c_445_97 => ?_)
      · refine j_iload dL_law_450 rfl ?_
        refine j_if_ne (tgt := 468) dL_law_452 (by decide) (fun c_452_99 => ?_) (fun c_452_99 => ?_)
        · refine j_goto (tgt := 3514) dL_law_468 (by decide) ?_
          refine j_widen (kc' := kc + 200) (ks' := ks + 6000) (by omega) (by omega) ?_
          exact j_lo2 (KK _ _ _ LT4) (z_q1 rfl (z_q1 rfl (z_q1 rfl (z_q1 rfl (z_q1 rfl z_q0)))))
        · refine j_aload_n dL_law_455 rfl rfl ?_
          obtain ⟨-, -, ⟨ov12, og12⟩, -⟩ := id LT4
          refine j_getf dL_law_456 fL_13 og12 rfl ?_
          refine j_iload dL_law_459 rfl ?_
          refine j_i2l dL_law_461 ?_
          refine j_lcmp dL_law_462 ?_
          refine j_if_eq (tgt := 468) dL_law_463 (by decide) (fun c_463_109 => ?_) (fun c_463_109 => ?_)
          · refine j_goto (tgt := 3514) dL_law_468 (by decide) ?_
            refine j_widen (kc' := kc + 200) (ks' := ks + 6000) (by omega) (by omega) ?_
            exact j_lo2 (KK _ _ _ LT4) (z_q1 rfl (z_q1 rfl (z_q1 rfl (z_q1 rfl (z_q1 rfl z_q0)))))
          · exact absurd (q_cmp (by rw [hn3 c_452_99, hr4 c_452_99])) c_463_109
      · exact absurd ht11 c_445_97
set_option maxRecDepth 100000 in
set_option maxHeartbeats 4000000 in
theorem lc_3 (hl : l.stackTraces = false) {w : z_W} {x i kc ks : Nat} {S : sp_S} {n : Int64} (LT : z_LX x S S n w) (hi6 : i + 6 ≤ z_sn G) (hsn : z_sn G ≤ 3072) (hkc : kc + 200 ≤ 665722) (hks : ks + 6000 ≤ 7105070) (KK : ∀ (S9 : sp_S) (n9 : Int64) (w9 : z_W), z_LX x S9 S9 n9 w9 → z_J G l mL_law z_SL 3514 (z_lol x i) [] w9 (kc + 200) (ks + 6000)) : z_J G l mL_law z_SL 471 (z_lol x i) [] w kc ks := by
  show z_J G l mL_law _ 471 [(0, _), (1, _), (2, _), (3, _), (4, _)] [] _ _ _
  refine j_aload_n dL_law_471 rfl rfl ?_
  refine j_aload_n dL_law_472 rfl rfl ?_
  refine j_iload dL_law_473 rfl ?_
  refine j_iconst (v := 1) dL_law_475 (by decide) ?_
  refine j_iadd dL_law_476 ?_
  refine j_top (congrArg Value.int (show nI i + (1 : Int32) = nI (i + 1) from nI_add i 1)) ?_
  refine j_sld dL_law_477 (by omega) (by omega) ?_
  refine j_aload_n dL_law_478 rfl rfl ?_
  refine j_iload dL_law_479 rfl ?_
  refine j_iconst (v := 2) dL_law_481 (by decide) ?_
  refine j_iadd dL_law_482 ?_
  refine j_top (congrArg Value.int (show nI i + (2 : Int32) = nI (i + 2) from nI_add i 2)) ?_
  refine j_sld dL_law_483 (by omega) (by omega) ?_
  refine j_aload_n dL_law_484 rfl rfl ?_
  refine j_callSW dL_law_485 kL_hear lL_187 stL_hear (lw_hear hl w _ _ _ _ LT (z_sc G (i + 1)) (z_sc G (i + 2))) (Nat.le_of_ble_eq_true rfl) ⟨(by show _ ≤ 665722; omega), (by show _ ≤ 7105070; omega)⟩ rfl (Nat.le_of_ble_eq_true rfl) rfl rfl (fun _ _ h => h.elim) ?_
  rintro _ w1 ⟨n1, rfl, LT1, hn1⟩
  refine j_istore (lo' := [(5, _), (0, _), (1, _), (2, _), (3, _), (4, _)]) dL_law_488 (by decide) rfl ?_
  refine j_aload_n dL_law_490 rfl rfl ?_
  refine j_aload_n dL_law_491 rfl rfl ?_
  refine j_iload dL_law_492 rfl ?_
  refine j_iconst (v := 1) dL_law_494 (by decide) ?_
  refine j_iadd dL_law_495 ?_
  refine j_top (congrArg Value.int (show nI i + (1 : Int32) = nI (i + 1) from nI_add i 1)) ?_
  refine j_sld dL_law_496 (by omega) (by omega) ?_
  refine j_aload_n dL_law_497 rfl rfl ?_
  refine j_iload dL_law_498 rfl ?_
  refine j_iconst (v := 2) dL_law_500 (by decide) ?_
  refine j_iadd dL_law_501 ?_
  refine j_top (congrArg Value.int (show nI i + (2 : Int32) = nI (i + 2) from nI_add i 2)) ?_
  refine j_sld dL_law_502 (by omega) (by omega) ?_
  obtain ⟨-, ⟨s13, hs13, -⟩, -⟩ := id LT1
  refine j_callV (q := (RX11, TX11, 8)) dL_law_503 kX11_hear lL_189 inX11_hear seX11_hear hs13.m rfl (kx_hear hl w1 LT1 (z_sc G (i + 1)) (z_sc G (i + 2))) (Nat.le_of_ble_eq_true rfl) ⟨(by show _ ≤ 665722; omega), (by show _ ≤ 7105070; omega)⟩ rfl (Nat.le_of_ble_eq_true rfl) rfl rfl (fun _ _ h => h.elim) ?_
  rintro _ w2 ⟨r2, rfl, LT2, th2, hr2⟩
  refine j_istore (lo' := [(6, _), (5, _), (0, _), (1, _), (2, _), (3, _), (4, _)]) dL_law_506 (by decide) rfl ?_
  refine j_aload_n dL_law_508 rfl rfl ?_
  obtain ⟨st14, hst14, ht14⟩ := th2
  refine j_callV (q := (RX11, TX11, 8)) dL_law_509 kX11_thrown lL_176 inX11_thrown seX11_thrown hst14.m rfl (cm_thrown hl w2 _ hst14) (Nat.le_of_ble_eq_true rfl) ⟨(by show _ ≤ 665722; omega), (by show _ ≤ 7105070; omega)⟩ rfl (Nat.le_of_ble_eq_true rfl) rfl rfl (fun _ _ h => h.elim) ?_
  rintro _ _ ⟨rfl, hw14⟩
  refine j_w w2 hw14 ?_
  refine j_iload dL_law_512 rfl ?_
  refine j_icmp_eq (tgt := 519) dL_law_514 (by decide) (fun c_514_41 => ?_) (fun c_514_41 => ?_)
  · refine j_iload dL_law_519 rfl ?_
    refine j_if_ne (tgt := 537) dL_law_521 (by decide) (fun c_521_43 => ?_) (fun c_521_43 => ?_)
    · refine j_goto (tgt := 3514) dL_law_537 (by decide) ?_
      refine j_widen (kc' := kc + 200) (ks' := ks + 6000) (by omega) (by omega) ?_
      exact j_lo2 (KK _ _ _ LT2) (z_q1 rfl (z_q1 rfl (z_q1 rfl (z_q1 rfl (z_q1 rfl z_q0)))))
    · refine j_aload_n dL_law_524 rfl rfl ?_
      obtain ⟨-, -, ⟨ov15, og15⟩, -⟩ := id LT2
      refine j_getf dL_law_525 fL_13 og15 rfl ?_
      refine j_iload dL_law_528 rfl ?_
      refine j_i2l dL_law_530 ?_
      refine j_lcmp dL_law_531 ?_
      refine j_if_eq (tgt := 537) dL_law_532 (by decide) (fun c_532_53 => ?_) (fun c_532_53 => ?_)
      · refine j_goto (tgt := 3514) dL_law_537 (by decide) ?_
        refine j_widen (kc' := kc + 200) (ks' := ks + 6000) (by omega) (by omega) ?_
        exact j_lo2 (KK _ _ _ LT2) (z_q1 rfl (z_q1 rfl (z_q1 rfl (z_q1 rfl (z_q1 rfl z_q0)))))
      · exact absurd (q_cmp (by rw [hn1 c_521_43, hr2 c_521_43])) c_532_53
  · exact absurd ht14 c_514_41
set_option maxRecDepth 100000 in
set_option maxHeartbeats 4000000 in
theorem lc_4 (hl : l.stackTraces = false) {w : z_W} {x i kc ks : Nat} {S : sp_S} {n : Int64} (LT : z_LX x S S n w) (hi6 : i + 6 ≤ z_sn G) (hsn : z_sn G ≤ 3072) (hkc : kc + 200 ≤ 665722) (hks : ks + 6000 ≤ 7105070) (KK : ∀ (S9 : sp_S) (n9 : Int64) (w9 : z_W), z_LX x S9 S9 n9 w9 → z_J G l mL_law z_SL 3514 (z_lol x i) [] w9 (kc + 200) (ks + 6000)) : z_J G l mL_law z_SL 540 (z_lol x i) [] w kc ks := by
  show z_J G l mL_law _ 540 [(0, _), (1, _), (2, _), (3, _), (4, _)] [] _ _ _
  refine j_aload_n dL_law_540 rfl rfl ?_
  refine j_aload_n dL_law_541 rfl rfl ?_
  refine j_iload dL_law_542 rfl ?_
  refine j_iconst (v := 1) dL_law_544 (by decide) ?_
  refine j_iadd dL_law_545 ?_
  refine j_top (congrArg Value.int (show nI i + (1 : Int32) = nI (i + 1) from nI_add i 1)) ?_
  refine j_sld dL_law_546 (by omega) (by omega) ?_
  refine j_aload_n dL_law_547 rfl rfl ?_
  refine j_iload dL_law_548 rfl ?_
  refine j_iconst (v := 2) dL_law_550 (by decide) ?_
  refine j_iadd dL_law_551 ?_
  refine j_top (congrArg Value.int (show nI i + (2 : Int32) = nI (i + 2) from nI_add i 2)) ?_
  refine j_sld dL_law_552 (by omega) (by omega) ?_
  refine j_aload_n dL_law_553 rfl rfl ?_
  refine j_iload dL_law_554 rfl ?_
  refine j_iconst (v := 3) dL_law_556 (by decide) ?_
  refine j_iadd dL_law_557 ?_
  refine j_top (congrArg Value.int (show nI i + (3 : Int32) = nI (i + 3) from nI_add i 3)) ?_
  refine j_sld dL_law_558 (by omega) (by omega) ?_
  refine j_aload_n dL_law_559 rfl rfl ?_
  refine j_callSW dL_law_560 kL_rest lL_190 stL_rest (lw_rest hl w _ _ _ _ LT (z_sc G (i + 1)) (z_sc G (i + 2)) (z_sc G (i + 3))) (Nat.le_of_ble_eq_true rfl) ⟨(by show _ ≤ 665722; omega), (by show _ ≤ 7105070; omega)⟩ rfl (Nat.le_of_ble_eq_true rfl) rfl rfl (fun _ _ h => h.elim) ?_
  rintro _ w1 ⟨n1, rfl, LT1, hn1⟩
  refine j_istore (lo' := [(5, _), (0, _), (1, _), (2, _), (3, _), (4, _)]) dL_law_563 (by decide) rfl ?_
  refine j_aload_n dL_law_565 rfl rfl ?_
  refine j_aload_n dL_law_566 rfl rfl ?_
  refine j_iload dL_law_567 rfl ?_
  refine j_iconst (v := 1) dL_law_569 (by decide) ?_
  refine j_iadd dL_law_570 ?_
  refine j_top (congrArg Value.int (show nI i + (1 : Int32) = nI (i + 1) from nI_add i 1)) ?_
  refine j_sld dL_law_571 (by omega) (by omega) ?_
  refine j_aload_n dL_law_572 rfl rfl ?_
  refine j_iload dL_law_573 rfl ?_
  refine j_iconst (v := 2) dL_law_575 (by decide) ?_
  refine j_iadd dL_law_576 ?_
  refine j_top (congrArg Value.int (show nI i + (2 : Int32) = nI (i + 2) from nI_add i 2)) ?_
  refine j_sld dL_law_577 (by omega) (by omega) ?_
  refine j_aload_n dL_law_578 rfl rfl ?_
  refine j_iload dL_law_579 rfl ?_
  refine j_iconst (v := 3) dL_law_581 (by decide) ?_
  refine j_iadd dL_law_582 ?_
  refine j_top (congrArg Value.int (show nI i + (3 : Int32) = nI (i + 3) from nI_add i 3)) ?_
  refine j_sld dL_law_583 (by omega) (by omega) ?_
  obtain ⟨-, ⟨s16, hs16, -⟩, -⟩ := id LT1
  refine j_callV (q := (RX11, TX11, 8)) dL_law_584 kX11_rest lL_193 inX11_rest seX11_rest hs16.m rfl (kx_rest hl w1 LT1 (z_sc G (i + 1)) (z_sc G (i + 2)) (z_sc G (i + 3))) (Nat.le_of_ble_eq_true rfl) ⟨(by show _ ≤ 665722; omega), (by show _ ≤ 7105070; omega)⟩ rfl (Nat.le_of_ble_eq_true rfl) rfl rfl (fun _ _ h => h.elim) ?_
  rintro _ w2 ⟨r2, rfl, LT2, th2, hr2⟩
  refine j_istore (lo' := [(6, _), (5, _), (0, _), (1, _), (2, _), (3, _), (4, _)]) dL_law_587 (by decide) rfl ?_
  refine j_aload_n dL_law_589 rfl rfl ?_
  obtain ⟨st17, hst17, ht17⟩ := th2
  refine j_callV (q := (RX11, TX11, 8)) dL_law_590 kX11_thrown lL_176 inX11_thrown seX11_thrown hst17.m rfl (cm_thrown hl w2 _ hst17) (Nat.le_of_ble_eq_true rfl) ⟨(by show _ ≤ 665722; omega), (by show _ ≤ 7105070; omega)⟩ rfl (Nat.le_of_ble_eq_true rfl) rfl rfl (fun _ _ h => h.elim) ?_
  rintro _ _ ⟨rfl, hw17⟩
  refine j_w w2 hw17 ?_
  refine j_iload dL_law_593 rfl ?_
  refine j_icmp_eq (tgt := 600) dL_law_595 (by decide) (fun c_595_53 => ?_) (fun c_595_53 => ?_)
  · refine j_iload dL_law_600 rfl ?_
    refine j_if_ne (tgt := 618) dL_law_602 (by decide) (fun c_602_55 => ?_) (fun c_602_55 => ?_)
    · refine j_goto (tgt := 3514) dL_law_618 (by decide) ?_
      refine j_widen (kc' := kc + 200) (ks' := ks + 6000) (by omega) (by omega) ?_
      exact j_lo2 (KK _ _ _ LT2) (z_q1 rfl (z_q1 rfl (z_q1 rfl (z_q1 rfl (z_q1 rfl z_q0)))))
    · refine j_aload_n dL_law_605 rfl rfl ?_
      obtain ⟨-, -, ⟨ov18, og18⟩, -⟩ := id LT2
      refine j_getf dL_law_606 fL_13 og18 rfl ?_
      refine j_iload dL_law_609 rfl ?_
      refine j_i2l dL_law_611 ?_
      refine j_lcmp dL_law_612 ?_
      refine j_if_eq (tgt := 618) dL_law_613 (by decide) (fun c_613_65 => ?_) (fun c_613_65 => ?_)
      · refine j_goto (tgt := 3514) dL_law_618 (by decide) ?_
        refine j_widen (kc' := kc + 200) (ks' := ks + 6000) (by omega) (by omega) ?_
        exact j_lo2 (KK _ _ _ LT2) (z_q1 rfl (z_q1 rfl (z_q1 rfl (z_q1 rfl (z_q1 rfl z_q0)))))
      · exact absurd (q_cmp (by rw [hn1 c_602_55, hr2 c_602_55])) c_613_65
  · exact absurd ht17 c_595_53
set_option maxRecDepth 100000 in
set_option maxHeartbeats 4000000 in
theorem lc_5 (hl : l.stackTraces = false) {w : z_W} {x i kc ks : Nat} {S : sp_S} {n : Int64} (LT : z_LX x S S n w) (hi6 : i + 6 ≤ z_sn G) (hsn : z_sn G ≤ 3072) (hkc : kc + 200 ≤ 665722) (hks : ks + 6000 ≤ 7105070) (KK : ∀ (S9 : sp_S) (n9 : Int64) (w9 : z_W), z_LX x S9 S9 n9 w9 → z_J G l mL_law z_SL 3514 (z_lol x i) [] w9 (kc + 200) (ks + 6000)) : z_J G l mL_law z_SL 621 (z_lol x i) [] w kc ks := by
  show z_J G l mL_law _ 621 [(0, _), (1, _), (2, _), (3, _), (4, _)] [] _ _ _
  refine j_aload_n dL_law_621 rfl rfl ?_
  refine j_aload_n dL_law_622 rfl rfl ?_
  refine j_iload dL_law_623 rfl ?_
  refine j_iconst (v := 1) dL_law_625 (by decide) ?_
  refine j_iadd dL_law_626 ?_
  refine j_top (congrArg Value.int (show nI i + (1 : Int32) = nI (i + 1) from nI_add i 1)) ?_
  refine j_sld dL_law_627 (by omega) (by omega) ?_
  refine j_aload_n dL_law_628 rfl rfl ?_
  refine j_iload dL_law_629 rfl ?_
  refine j_iconst (v := 2) dL_law_631 (by decide) ?_
  refine j_iadd dL_law_632 ?_
  refine j_top (congrArg Value.int (show nI i + (2 : Int32) = nI (i + 2) from nI_add i 2)) ?_
  refine j_sld dL_law_633 (by omega) (by omega) ?_
  refine j_aload_n dL_law_634 rfl rfl ?_
  refine j_iload dL_law_635 rfl ?_
  refine j_iconst (v := 3) dL_law_637 (by decide) ?_
  refine j_iadd dL_law_638 ?_
  refine j_top (congrArg Value.int (show nI i + (3 : Int32) = nI (i + 3) from nI_add i 3)) ?_
  refine j_sld dL_law_639 (by omega) (by omega) ?_
  refine j_aload_n dL_law_640 rfl rfl ?_
  refine j_callSW dL_law_641 kL_removeIf lL_194 stL_removeIf (lw_removeIf hl w _ _ _ _ LT (z_sc G (i + 1)) (z_sc G (i + 2)) (z_sc G (i + 3))) (Nat.le_of_ble_eq_true rfl) ⟨(by show _ ≤ 665722; omega), (by show _ ≤ 7105070; omega)⟩ rfl (Nat.le_of_ble_eq_true rfl) rfl rfl (fun _ _ h => h.elim) ?_
  rintro _ w1 ⟨n1, rfl, LT1, hn1⟩
  refine j_istore (lo' := [(5, _), (0, _), (1, _), (2, _), (3, _), (4, _)]) dL_law_644 (by decide) rfl ?_
  refine j_aload_n dL_law_646 rfl rfl ?_
  refine j_aload_n dL_law_647 rfl rfl ?_
  refine j_iload dL_law_648 rfl ?_
  refine j_iconst (v := 1) dL_law_650 (by decide) ?_
  refine j_iadd dL_law_651 ?_
  refine j_top (congrArg Value.int (show nI i + (1 : Int32) = nI (i + 1) from nI_add i 1)) ?_
  refine j_sld dL_law_652 (by omega) (by omega) ?_
  refine j_aload_n dL_law_653 rfl rfl ?_
  refine j_iload dL_law_654 rfl ?_
  refine j_iconst (v := 2) dL_law_656 (by decide) ?_
  refine j_iadd dL_law_657 ?_
  refine j_top (congrArg Value.int (show nI i + (2 : Int32) = nI (i + 2) from nI_add i 2)) ?_
  refine j_sld dL_law_658 (by omega) (by omega) ?_
  refine j_aload_n dL_law_659 rfl rfl ?_
  refine j_iload dL_law_660 rfl ?_
  refine j_iconst (v := 3) dL_law_662 (by decide) ?_
  refine j_iadd dL_law_663 ?_
  refine j_top (congrArg Value.int (show nI i + (3 : Int32) = nI (i + 3) from nI_add i 3)) ?_
  refine j_sld dL_law_664 (by omega) (by omega) ?_
  obtain ⟨-, ⟨s19, hs19, -⟩, -⟩ := id LT1
  refine j_callV (q := (RX11, TX11, 8)) dL_law_665 kX11_removeIf lL_196 inX11_removeIf seX11_removeIf hs19.m rfl (kx_removeIf hl w1 LT1 (z_sc G (i + 1)) (z_sc G (i + 2)) (z_sc G (i + 3))) (Nat.le_of_ble_eq_true rfl) ⟨(by show _ ≤ 665722; omega), (by show _ ≤ 7105070; omega)⟩ rfl (Nat.le_of_ble_eq_true rfl) rfl rfl (fun _ _ h => h.elim) ?_
  rintro _ w2 ⟨r2, rfl, LT2, th2, hr2⟩
  refine j_istore (lo' := [(6, _), (5, _), (0, _), (1, _), (2, _), (3, _), (4, _)]) dL_law_668 (by decide) rfl ?_
  refine j_aload_n dL_law_670 rfl rfl ?_
  obtain ⟨st20, hst20, ht20⟩ := th2
  refine j_callV (q := (RX11, TX11, 8)) dL_law_671 kX11_thrown lL_176 inX11_thrown seX11_thrown hst20.m rfl (cm_thrown hl w2 _ hst20) (Nat.le_of_ble_eq_true rfl) ⟨(by show _ ≤ 665722; omega), (by show _ ≤ 7105070; omega)⟩ rfl (Nat.le_of_ble_eq_true rfl) rfl rfl (fun _ _ h => h.elim) ?_
  rintro _ _ ⟨rfl, hw20⟩
  refine j_w w2 hw20 ?_
  refine j_iload dL_law_674 rfl ?_
  refine j_icmp_eq (tgt := 681) dL_law_676 (by decide) (fun c_676_53 => ?_) (fun c_676_53 => ?_)
  · refine j_iload dL_law_681 rfl ?_
    refine j_if_ne (tgt := 699) dL_law_683 (by decide) (fun c_683_55 => ?_) (fun c_683_55 => ?_)
    · refine j_goto (tgt := 3514) dL_law_699 (by decide) ?_
      refine j_widen (kc' := kc + 200) (ks' := ks + 6000) (by omega) (by omega) ?_
      exact j_lo2 (KK _ _ _ LT2) (z_q1 rfl (z_q1 rfl (z_q1 rfl (z_q1 rfl (z_q1 rfl z_q0)))))
    · refine j_aload_n dL_law_686 rfl rfl ?_
      obtain ⟨-, -, ⟨ov21, og21⟩, -⟩ := id LT2
      refine j_getf dL_law_687 fL_13 og21 rfl ?_
      refine j_iload dL_law_690 rfl ?_
      refine j_i2l dL_law_692 ?_
      refine j_lcmp dL_law_693 ?_
      refine j_if_eq (tgt := 699) dL_law_694 (by decide) (fun c_694_65 => ?_) (fun c_694_65 => ?_)
      · refine j_goto (tgt := 3514) dL_law_699 (by decide) ?_
        refine j_widen (kc' := kc + 200) (ks' := ks + 6000) (by omega) (by omega) ?_
        exact j_lo2 (KK _ _ _ LT2) (z_q1 rfl (z_q1 rfl (z_q1 rfl (z_q1 rfl (z_q1 rfl z_q0)))))
      · exact absurd (q_cmp (by rw [hn1 c_683_55, hr2 c_683_55])) c_694_65
  · exact absurd ht20 c_676_53
set_option maxRecDepth 100000 in
set_option maxHeartbeats 4000000 in
theorem lc_6 (hl : l.stackTraces = false) {w : z_W} {x i kc ks : Nat} {S : sp_S} {n : Int64} (LT : z_LX x S S n w) (hi6 : i + 6 ≤ z_sn G) (hsn : z_sn G ≤ 3072) (hkc : kc + 200 ≤ 665722) (hks : ks + 6000 ≤ 7105070) (KK : ∀ (S9 : sp_S) (n9 : Int64) (w9 : z_W), z_LX x S9 S9 n9 w9 → z_J G l mL_law z_SL 3514 (z_lol x i) [] w9 (kc + 200) (ks + 6000)) : z_J G l mL_law z_SL 702 (z_lol x i) [] w kc ks := by
  show z_J G l mL_law _ 702 [(0, _), (1, _), (2, _), (3, _), (4, _)] [] _ _ _
  refine j_aload_n dL_law_702 rfl rfl ?_
  refine j_aload_n dL_law_703 rfl rfl ?_
  refine j_iload dL_law_704 rfl ?_
  refine j_iconst (v := 1) dL_law_706 (by decide) ?_
  refine j_iadd dL_law_707 ?_
  refine j_top (congrArg Value.int (show nI i + (1 : Int32) = nI (i + 1) from nI_add i 1)) ?_
  refine j_sld dL_law_708 (by omega) (by omega) ?_
  refine j_aload_n dL_law_709 rfl rfl ?_
  refine j_iload dL_law_710 rfl ?_
  refine j_iconst (v := 2) dL_law_712 (by decide) ?_
  refine j_iadd dL_law_713 ?_
  refine j_top (congrArg Value.int (show nI i + (2 : Int32) = nI (i + 2) from nI_add i 2)) ?_
  refine j_sld dL_law_714 (by omega) (by omega) ?_
  refine j_aload_n dL_law_715 rfl rfl ?_
  refine j_iload dL_law_716 rfl ?_
  refine j_iconst (v := 3) dL_law_718 (by decide) ?_
  refine j_iadd dL_law_719 ?_
  refine j_top (congrArg Value.int (show nI i + (3 : Int32) = nI (i + 3) from nI_add i 3)) ?_
  refine j_sld dL_law_720 (by omega) (by omega) ?_
  refine j_aload_n dL_law_721 rfl rfl ?_
  refine j_callSW dL_law_722 kL_replaceAll lL_197 stL_replaceAll (lw_replaceAll hl w _ _ _ _ LT (z_sc G (i + 1)) (z_sc G (i + 2)) (z_sc G (i + 3))) (Nat.le_of_ble_eq_true rfl) ⟨(by show _ ≤ 665722; omega), (by show _ ≤ 7105070; omega)⟩ rfl (Nat.le_of_ble_eq_true rfl) rfl rfl (fun _ _ h => h.elim) ?_
  rintro _ w1 ⟨n1, rfl, LT1, hn1⟩
  refine j_istore (lo' := [(5, _), (0, _), (1, _), (2, _), (3, _), (4, _)]) dL_law_725 (by decide) rfl ?_
  refine j_aload_n dL_law_727 rfl rfl ?_
  refine j_aload_n dL_law_728 rfl rfl ?_
  refine j_iload dL_law_729 rfl ?_
  refine j_iconst (v := 1) dL_law_731 (by decide) ?_
  refine j_iadd dL_law_732 ?_
  refine j_top (congrArg Value.int (show nI i + (1 : Int32) = nI (i + 1) from nI_add i 1)) ?_
  refine j_sld dL_law_733 (by omega) (by omega) ?_
  refine j_aload_n dL_law_734 rfl rfl ?_
  refine j_iload dL_law_735 rfl ?_
  refine j_iconst (v := 2) dL_law_737 (by decide) ?_
  refine j_iadd dL_law_738 ?_
  refine j_top (congrArg Value.int (show nI i + (2 : Int32) = nI (i + 2) from nI_add i 2)) ?_
  refine j_sld dL_law_739 (by omega) (by omega) ?_
  refine j_aload_n dL_law_740 rfl rfl ?_
  refine j_iload dL_law_741 rfl ?_
  refine j_iconst (v := 3) dL_law_743 (by decide) ?_
  refine j_iadd dL_law_744 ?_
  refine j_top (congrArg Value.int (show nI i + (3 : Int32) = nI (i + 3) from nI_add i 3)) ?_
  refine j_sld dL_law_745 (by omega) (by omega) ?_
  obtain ⟨-, ⟨s22, hs22, -⟩, -⟩ := id LT1
  refine j_callV (q := (RX11, TX11, 8)) dL_law_746 kX11_replaceAll lL_199 inX11_replaceAll seX11_replaceAll hs22.m rfl (kx_replaceAll hl w1 LT1 (z_sc G (i + 1)) (z_sc G (i + 2)) (z_sc G (i + 3))) (Nat.le_of_ble_eq_true rfl) ⟨(by show _ ≤ 665722; omega), (by show _ ≤ 7105070; omega)⟩ rfl (Nat.le_of_ble_eq_true rfl) rfl rfl (fun _ _ h => h.elim) ?_
  rintro _ w2 ⟨r2, rfl, LT2, th2, hr2⟩
  refine j_istore (lo' := [(6, _), (5, _), (0, _), (1, _), (2, _), (3, _), (4, _)]) dL_law_749 (by decide) rfl ?_
  refine j_aload_n dL_law_751 rfl rfl ?_
  obtain ⟨st23, hst23, ht23⟩ := th2
  refine j_callV (q := (RX11, TX11, 8)) dL_law_752 kX11_thrown lL_176 inX11_thrown seX11_thrown hst23.m rfl (cm_thrown hl w2 _ hst23) (Nat.le_of_ble_eq_true rfl) ⟨(by show _ ≤ 665722; omega), (by show _ ≤ 7105070; omega)⟩ rfl (Nat.le_of_ble_eq_true rfl) rfl rfl (fun _ _ h => h.elim) ?_
  rintro _ _ ⟨rfl, hw23⟩
  refine j_w w2 hw23 ?_
  refine j_iload dL_law_755 rfl ?_
  refine j_icmp_eq (tgt := 762) dL_law_757 (by decide) (fun c_757_53 => ?_) (fun c_757_53 => ?_)
  · refine j_iload dL_law_762 rfl ?_
    refine j_if_ne (tgt := 780) dL_law_764 (by decide) (fun c_764_55 => ?_) (fun c_764_55 => ?_)
    · refine j_goto (tgt := 3514) dL_law_780 (by decide) ?_
      refine j_widen (kc' := kc + 200) (ks' := ks + 6000) (by omega) (by omega) ?_
      exact j_lo2 (KK _ _ _ LT2) (z_q1 rfl (z_q1 rfl (z_q1 rfl (z_q1 rfl (z_q1 rfl z_q0)))))
    · refine j_aload_n dL_law_767 rfl rfl ?_
      obtain ⟨-, -, ⟨ov24, og24⟩, -⟩ := id LT2
      refine j_getf dL_law_768 fL_13 og24 rfl ?_
      refine j_iload dL_law_771 rfl ?_
      refine j_i2l dL_law_773 ?_
      refine j_lcmp dL_law_774 ?_
      refine j_if_eq (tgt := 780) dL_law_775 (by decide) (fun c_775_65 => ?_) (fun c_775_65 => ?_)
      · refine j_goto (tgt := 3514) dL_law_780 (by decide) ?_
        refine j_widen (kc' := kc + 200) (ks' := ks + 6000) (by omega) (by omega) ?_
        exact j_lo2 (KK _ _ _ LT2) (z_q1 rfl (z_q1 rfl (z_q1 rfl (z_q1 rfl (z_q1 rfl z_q0)))))
      · exact absurd (q_cmp (by rw [hn1 c_764_55, hr2 c_764_55])) c_775_65
  · exact absurd ht23 c_757_53
set_option maxRecDepth 100000 in
set_option maxHeartbeats 4000000 in
theorem lc_7 (hl : l.stackTraces = false) {w : z_W} {x i kc ks : Nat} {S : sp_S} {n : Int64} (LT : z_LX x S S n w) (hi6 : i + 6 ≤ z_sn G) (hsn : z_sn G ≤ 3072) (hkc : kc + 200 ≤ 665722) (hks : ks + 6000 ≤ 7105070) (KK : ∀ (S9 : sp_S) (n9 : Int64) (w9 : z_W), z_LX x S9 S9 n9 w9 → z_J G l mL_law z_SL 3514 (z_lol x i) [] w9 (kc + 200) (ks + 6000)) : z_J G l mL_law z_SL 783 (z_lol x i) [] w kc ks := by
  show z_J G l mL_law _ 783 [(0, _), (1, _), (2, _), (3, _), (4, _)] [] _ _ _
  refine j_aload_n dL_law_783 rfl rfl ?_
  refine j_aload_n dL_law_784 rfl rfl ?_
  refine j_iload dL_law_785 rfl ?_
  refine j_iconst (v := 1) dL_law_787 (by decide) ?_
  refine j_iadd dL_law_788 ?_
  refine j_top (congrArg Value.int (show nI i + (1 : Int32) = nI (i + 1) from nI_add i 1)) ?_
  refine j_sld dL_law_789 (by omega) (by omega) ?_
  refine j_aload_n dL_law_790 rfl rfl ?_
  refine j_callSW dL_law_791 kL_copy lL_200 stL_copy (lw_copy hl w _ _ _ _ LT (z_sc G (i + 1))) (Nat.le_of_ble_eq_true rfl) ⟨(by show _ ≤ 665722; omega), (by show _ ≤ 7105070; omega)⟩ rfl (Nat.le_of_ble_eq_true rfl) rfl rfl (fun _ _ h => h.elim) ?_
  rintro _ w1 ⟨n1, rfl, LT1, hn1⟩
  refine j_istore (lo' := [(5, _), (0, _), (1, _), (2, _), (3, _), (4, _)]) dL_law_794 (by decide) rfl ?_
  refine j_aload_n dL_law_796 rfl rfl ?_
  refine j_aload_n dL_law_797 rfl rfl ?_
  refine j_iload dL_law_798 rfl ?_
  refine j_iconst (v := 1) dL_law_800 (by decide) ?_
  refine j_iadd dL_law_801 ?_
  refine j_top (congrArg Value.int (show nI i + (1 : Int32) = nI (i + 1) from nI_add i 1)) ?_
  refine j_sld dL_law_802 (by omega) (by omega) ?_
  obtain ⟨-, ⟨s25, hs25, -⟩, -⟩ := id LT1
  refine j_callV (q := (RX11, TX11, 8)) dL_law_803 kX11_copy lL_203 inX11_copy seX11_copy hs25.m rfl (kx_copy hl w1 LT1 (z_sc G (i + 1))) (Nat.le_of_ble_eq_true rfl) ⟨(by show _ ≤ 665722; omega), (by show _ ≤ 7105070; omega)⟩ rfl (Nat.le_of_ble_eq_true rfl) rfl rfl (fun _ _ h => h.elim) ?_
  rintro _ w2 ⟨r2, rfl, LT2, th2, hr2⟩
  refine j_istore (lo' := [(6, _), (5, _), (0, _), (1, _), (2, _), (3, _), (4, _)]) dL_law_806 (by decide) rfl ?_
  refine j_aload_n dL_law_808 rfl rfl ?_
  obtain ⟨st26, hst26, ht26⟩ := th2
  refine j_callV (q := (RX11, TX11, 8)) dL_law_809 kX11_thrown lL_176 inX11_thrown seX11_thrown hst26.m rfl (cm_thrown hl w2 _ hst26) (Nat.le_of_ble_eq_true rfl) ⟨(by show _ ≤ 665722; omega), (by show _ ≤ 7105070; omega)⟩ rfl (Nat.le_of_ble_eq_true rfl) rfl rfl (fun _ _ h => h.elim) ?_
  rintro _ _ ⟨rfl, hw26⟩
  refine j_w w2 hw26 ?_
  refine j_iload dL_law_812 rfl ?_
  refine j_icmp_eq (tgt := 819) dL_law_814 (by decide) (fun c_814_29 => ?_) (fun c_814_29 => ?_)
  · refine j_iload dL_law_819 rfl ?_
    refine j_if_ne (tgt := 837) dL_law_821 (by decide) (fun c_821_31 => ?_) (fun c_821_31 => ?_)
    · refine j_goto (tgt := 3514) dL_law_837 (by decide) ?_
      refine j_widen (kc' := kc + 200) (ks' := ks + 6000) (by omega) (by omega) ?_
      exact j_lo2 (KK _ _ _ LT2) (z_q1 rfl (z_q1 rfl (z_q1 rfl (z_q1 rfl (z_q1 rfl z_q0)))))
    · refine j_aload_n dL_law_824 rfl rfl ?_
      obtain ⟨-, -, ⟨ov27, og27⟩, -⟩ := id LT2
      refine j_getf dL_law_825 fL_13 og27 rfl ?_
      refine j_iload dL_law_828 rfl ?_
      refine j_i2l dL_law_830 ?_
      refine j_lcmp dL_law_831 ?_
      refine j_if_eq (tgt := 837) dL_law_832 (by decide) (fun c_832_41 => ?_) (fun c_832_41 => ?_)
      · refine j_goto (tgt := 3514) dL_law_837 (by decide) ?_
        refine j_widen (kc' := kc + 200) (ks' := ks + 6000) (by omega) (by omega) ?_
        exact j_lo2 (KK _ _ _ LT2) (z_q1 rfl (z_q1 rfl (z_q1 rfl (z_q1 rfl (z_q1 rfl z_q0)))))
      · exact absurd (q_cmp (by rw [hn1 c_821_31, hr2 c_821_31])) c_832_41
  · exact absurd ht26 c_814_29
set_option maxRecDepth 100000 in
set_option maxHeartbeats 4000000 in
theorem lc_8 (hl : l.stackTraces = false) {w : z_W} {x i kc ks : Nat} {S : sp_S} {n : Int64} (LT : z_LX x S S n w) (hi6 : i + 6 ≤ z_sn G) (hsn : z_sn G ≤ 3072) (hkc : kc + 200 ≤ 665722) (hks : ks + 6000 ≤ 7105070) (KK : ∀ (S9 : sp_S) (n9 : Int64) (w9 : z_W), z_LX x S9 S9 n9 w9 → z_J G l mL_law z_SL 3514 (z_lol x i) [] w9 (kc + 200) (ks + 6000)) : z_J G l mL_law z_SL 840 (z_lol x i) [] w kc ks := by
  show z_J G l mL_law _ 840 [(0, _), (1, _), (2, _), (3, _), (4, _)] [] _ _ _
  refine j_aload_n dL_law_840 rfl rfl ?_
  refine j_aload_n dL_law_841 rfl rfl ?_
  refine j_iload dL_law_842 rfl ?_
  refine j_iconst (v := 1) dL_law_844 (by decide) ?_
  refine j_iadd dL_law_845 ?_
  refine j_top (congrArg Value.int (show nI i + (1 : Int32) = nI (i + 1) from nI_add i 1)) ?_
  refine j_sld dL_law_846 (by omega) (by omega) ?_
  refine j_aload_n dL_law_847 rfl rfl ?_
  refine j_iload dL_law_848 rfl ?_
  refine j_iconst (v := 2) dL_law_850 (by decide) ?_
  refine j_iadd dL_law_851 ?_
  refine j_top (congrArg Value.int (show nI i + (2 : Int32) = nI (i + 2) from nI_add i 2)) ?_
  refine j_sld dL_law_852 (by omega) (by omega) ?_
  refine j_aload_n dL_law_853 rfl rfl ?_
  refine j_iload dL_law_854 rfl ?_
  refine j_iconst (v := 3) dL_law_856 (by decide) ?_
  refine j_iadd dL_law_857 ?_
  refine j_top (congrArg Value.int (show nI i + (3 : Int32) = nI (i + 3) from nI_add i 3)) ?_
  refine j_sld dL_law_858 (by omega) (by omega) ?_
  refine j_aload_n dL_law_859 rfl rfl ?_
  refine j_callSW dL_law_860 kL_put lL_204 stL_put (lw_put hl w _ _ _ _ LT (z_sc G (i + 1)) (z_sc G (i + 2)) (z_sc G (i + 3))) (Nat.le_of_ble_eq_true rfl) ⟨(by show _ ≤ 665722; omega), (by show _ ≤ 7105070; omega)⟩ rfl (Nat.le_of_ble_eq_true rfl) rfl rfl (fun _ _ h => h.elim) ?_
  rintro _ w1 ⟨n1, rfl, LT1, hn1⟩
  refine j_istore (lo' := [(5, _), (0, _), (1, _), (2, _), (3, _), (4, _)]) dL_law_863 (by decide) rfl ?_
  refine j_aload_n dL_law_865 rfl rfl ?_
  refine j_aload_n dL_law_866 rfl rfl ?_
  refine j_iload dL_law_867 rfl ?_
  refine j_iconst (v := 1) dL_law_869 (by decide) ?_
  refine j_iadd dL_law_870 ?_
  refine j_top (congrArg Value.int (show nI i + (1 : Int32) = nI (i + 1) from nI_add i 1)) ?_
  refine j_sld dL_law_871 (by omega) (by omega) ?_
  refine j_aload_n dL_law_872 rfl rfl ?_
  refine j_iload dL_law_873 rfl ?_
  refine j_iconst (v := 2) dL_law_875 (by decide) ?_
  refine j_iadd dL_law_876 ?_
  refine j_top (congrArg Value.int (show nI i + (2 : Int32) = nI (i + 2) from nI_add i 2)) ?_
  refine j_sld dL_law_877 (by omega) (by omega) ?_
  refine j_aload_n dL_law_878 rfl rfl ?_
  refine j_iload dL_law_879 rfl ?_
  refine j_iconst (v := 3) dL_law_881 (by decide) ?_
  refine j_iadd dL_law_882 ?_
  refine j_top (congrArg Value.int (show nI i + (3 : Int32) = nI (i + 3) from nI_add i 3)) ?_
  refine j_sld dL_law_883 (by omega) (by omega) ?_
  obtain ⟨-, ⟨s28, hs28, -⟩, -⟩ := id LT1
  refine j_callV (q := (RX11, TX11, 8)) dL_law_884 kX11_put lL_206 inX11_put seX11_put hs28.m rfl (kx_put hl w1 LT1 (z_sc G (i + 1)) (z_sc G (i + 2)) (z_sc G (i + 3))) (Nat.le_of_ble_eq_true rfl) ⟨(by show _ ≤ 665722; omega), (by show _ ≤ 7105070; omega)⟩ rfl (Nat.le_of_ble_eq_true rfl) rfl rfl (fun _ _ h => h.elim) ?_
  rintro _ w2 ⟨r2, rfl, LT2, th2, hr2⟩
  refine j_istore (lo' := [(6, _), (5, _), (0, _), (1, _), (2, _), (3, _), (4, _)]) dL_law_887 (by decide) rfl ?_
  refine j_aload_n dL_law_889 rfl rfl ?_
  obtain ⟨st29, hst29, ht29⟩ := th2
  refine j_callV (q := (RX11, TX11, 8)) dL_law_890 kX11_thrown lL_176 inX11_thrown seX11_thrown hst29.m rfl (cm_thrown hl w2 _ hst29) (Nat.le_of_ble_eq_true rfl) ⟨(by show _ ≤ 665722; omega), (by show _ ≤ 7105070; omega)⟩ rfl (Nat.le_of_ble_eq_true rfl) rfl rfl (fun _ _ h => h.elim) ?_
  rintro _ _ ⟨rfl, hw29⟩
  refine j_w w2 hw29 ?_
  refine j_iload dL_law_893 rfl ?_
  refine j_icmp_eq (tgt := 900) dL_law_895 (by decide) (fun c_895_53 => ?_) (fun c_895_53 => ?_)
  · refine j_iload dL_law_900 rfl ?_
    refine j_if_ne (tgt := 918) dL_law_902 (by decide) (fun c_902_55 => ?_) (fun c_902_55 => ?_)
    · refine j_goto (tgt := 3514) dL_law_918 (by decide) ?_
      refine j_widen (kc' := kc + 200) (ks' := ks + 6000) (by omega) (by omega) ?_
      exact j_lo2 (KK _ _ _ LT2) (z_q1 rfl (z_q1 rfl (z_q1 rfl (z_q1 rfl (z_q1 rfl z_q0)))))
    · refine j_aload_n dL_law_905 rfl rfl ?_
      obtain ⟨-, -, ⟨ov30, og30⟩, -⟩ := id LT2
      refine j_getf dL_law_906 fL_13 og30 rfl ?_
      refine j_iload dL_law_909 rfl ?_
      refine j_i2l dL_law_911 ?_
      refine j_lcmp dL_law_912 ?_
      refine j_if_eq (tgt := 918) dL_law_913 (by decide) (fun c_913_65 => ?_) (fun c_913_65 => ?_)
      · refine j_goto (tgt := 3514) dL_law_918 (by decide) ?_
        refine j_widen (kc' := kc + 200) (ks' := ks + 6000) (by omega) (by omega) ?_
        exact j_lo2 (KK _ _ _ LT2) (z_q1 rfl (z_q1 rfl (z_q1 rfl (z_q1 rfl (z_q1 rfl z_q0)))))
      · exact absurd (q_cmp (by rw [hn1 c_902_55, hr2 c_902_55])) c_913_65
  · exact absurd ht29 c_895_53
set_option maxRecDepth 100000 in
set_option maxHeartbeats 4000000 in
theorem lc_9 (hl : l.stackTraces = false) {w : z_W} {x i kc ks : Nat} {S : sp_S} {n : Int64} (LT : z_LX x S S n w) (hi6 : i + 6 ≤ z_sn G) (hsn : z_sn G ≤ 3072) (hkc : kc + 200 ≤ 665722) (hks : ks + 6000 ≤ 7105070) (KK : ∀ (S9 : sp_S) (n9 : Int64) (w9 : z_W), z_LX x S9 S9 n9 w9 → z_J G l mL_law z_SL 3514 (z_lol x i) [] w9 (kc + 200) (ks + 6000)) : z_J G l mL_law z_SL 921 (z_lol x i) [] w kc ks := by
  show z_J G l mL_law _ 921 [(0, _), (1, _), (2, _), (3, _), (4, _)] [] _ _ _
  refine j_aload_n dL_law_921 rfl rfl ?_
  refine j_aload_n dL_law_922 rfl rfl ?_
  refine j_iload dL_law_923 rfl ?_
  refine j_iconst (v := 1) dL_law_925 (by decide) ?_
  refine j_iadd dL_law_926 ?_
  refine j_top (congrArg Value.int (show nI i + (1 : Int32) = nI (i + 1) from nI_add i 1)) ?_
  refine j_sld dL_law_927 (by omega) (by omega) ?_
  refine j_aload_n dL_law_928 rfl rfl ?_
  refine j_iload dL_law_929 rfl ?_
  refine j_iconst (v := 2) dL_law_931 (by decide) ?_
  refine j_iadd dL_law_932 ?_
  refine j_top (congrArg Value.int (show nI i + (2 : Int32) = nI (i + 2) from nI_add i 2)) ?_
  refine j_sld dL_law_933 (by omega) (by omega) ?_
  refine j_aload_n dL_law_934 rfl rfl ?_
  refine j_callSW dL_law_935 kL_remove lL_207 stL_remove (lw_remove hl w _ _ _ _ LT (z_sc G (i + 1)) (z_sc G (i + 2))) (Nat.le_of_ble_eq_true rfl) ⟨(by show _ ≤ 665722; omega), (by show _ ≤ 7105070; omega)⟩ rfl (Nat.le_of_ble_eq_true rfl) rfl rfl (fun _ _ h => h.elim) ?_
  rintro _ w1 ⟨n1, rfl, LT1, hn1⟩
  refine j_istore (lo' := [(5, _), (0, _), (1, _), (2, _), (3, _), (4, _)]) dL_law_938 (by decide) rfl ?_
  refine j_aload_n dL_law_940 rfl rfl ?_
  refine j_aload_n dL_law_941 rfl rfl ?_
  refine j_iload dL_law_942 rfl ?_
  refine j_iconst (v := 1) dL_law_944 (by decide) ?_
  refine j_iadd dL_law_945 ?_
  refine j_top (congrArg Value.int (show nI i + (1 : Int32) = nI (i + 1) from nI_add i 1)) ?_
  refine j_sld dL_law_946 (by omega) (by omega) ?_
  refine j_aload_n dL_law_947 rfl rfl ?_
  refine j_iload dL_law_948 rfl ?_
  refine j_iconst (v := 2) dL_law_950 (by decide) ?_
  refine j_iadd dL_law_951 ?_
  refine j_top (congrArg Value.int (show nI i + (2 : Int32) = nI (i + 2) from nI_add i 2)) ?_
  refine j_sld dL_law_952 (by omega) (by omega) ?_
  obtain ⟨-, ⟨s31, hs31, -⟩, -⟩ := id LT1
  refine j_callV (q := (RX11, TX11, 8)) dL_law_953 kX11_remove lL_209 inX11_remove seX11_remove hs31.m rfl (kx_remove hl w1 LT1 (z_sc G (i + 1)) (z_sc G (i + 2))) (Nat.le_of_ble_eq_true rfl) ⟨(by show _ ≤ 665722; omega), (by show _ ≤ 7105070; omega)⟩ rfl (Nat.le_of_ble_eq_true rfl) rfl rfl (fun _ _ h => h.elim) ?_
  rintro _ w2 ⟨r2, rfl, LT2, th2, hr2⟩
  refine j_istore (lo' := [(6, _), (5, _), (0, _), (1, _), (2, _), (3, _), (4, _)]) dL_law_956 (by decide) rfl ?_
  refine j_aload_n dL_law_958 rfl rfl ?_
  obtain ⟨st32, hst32, ht32⟩ := th2
  refine j_callV (q := (RX11, TX11, 8)) dL_law_959 kX11_thrown lL_176 inX11_thrown seX11_thrown hst32.m rfl (cm_thrown hl w2 _ hst32) (Nat.le_of_ble_eq_true rfl) ⟨(by show _ ≤ 665722; omega), (by show _ ≤ 7105070; omega)⟩ rfl (Nat.le_of_ble_eq_true rfl) rfl rfl (fun _ _ h => h.elim) ?_
  rintro _ _ ⟨rfl, hw32⟩
  refine j_w w2 hw32 ?_
  refine j_iload dL_law_962 rfl ?_
  refine j_icmp_eq (tgt := 969) dL_law_964 (by decide) (fun c_964_41 => ?_) (fun c_964_41 => ?_)
  · refine j_iload dL_law_969 rfl ?_
    refine j_if_ne (tgt := 987) dL_law_971 (by decide) (fun c_971_43 => ?_) (fun c_971_43 => ?_)
    · refine j_goto (tgt := 3514) dL_law_987 (by decide) ?_
      refine j_widen (kc' := kc + 200) (ks' := ks + 6000) (by omega) (by omega) ?_
      exact j_lo2 (KK _ _ _ LT2) (z_q1 rfl (z_q1 rfl (z_q1 rfl (z_q1 rfl (z_q1 rfl z_q0)))))
    · refine j_aload_n dL_law_974 rfl rfl ?_
      obtain ⟨-, -, ⟨ov33, og33⟩, -⟩ := id LT2
      refine j_getf dL_law_975 fL_13 og33 rfl ?_
      refine j_iload dL_law_978 rfl ?_
      refine j_i2l dL_law_980 ?_
      refine j_lcmp dL_law_981 ?_
      refine j_if_eq (tgt := 987) dL_law_982 (by decide) (fun c_982_53 => ?_) (fun c_982_53 => ?_)
      · refine j_goto (tgt := 3514) dL_law_987 (by decide) ?_
        refine j_widen (kc' := kc + 200) (ks' := ks + 6000) (by omega) (by omega) ?_
        exact j_lo2 (KK _ _ _ LT2) (z_q1 rfl (z_q1 rfl (z_q1 rfl (z_q1 rfl (z_q1 rfl z_q0)))))
      · exact absurd (q_cmp (by rw [hn1 c_971_43, hr2 c_971_43])) c_982_53
  · exact absurd ht32 c_964_41
set_option maxRecDepth 100000 in
set_option maxHeartbeats 4000000 in
theorem lc_10 (hl : l.stackTraces = false) {w : z_W} {x i kc ks : Nat} {S : sp_S} {n : Int64} (LT : z_LX x S S n w) (hi6 : i + 6 ≤ z_sn G) (hsn : z_sn G ≤ 3072) (hkc : kc + 200 ≤ 665722) (hks : ks + 6000 ≤ 7105070) (KK : ∀ (S9 : sp_S) (n9 : Int64) (w9 : z_W), z_LX x S9 S9 n9 w9 → z_J G l mL_law z_SL 3514 (z_lol x i) [] w9 (kc + 200) (ks + 6000)) : z_J G l mL_law z_SL 990 (z_lol x i) [] w kc ks := by
  show z_J G l mL_law _ 990 [(0, _), (1, _), (2, _), (3, _), (4, _)] [] _ _ _
  refine j_aload_n dL_law_990 rfl rfl ?_
  refine j_aload_n dL_law_991 rfl rfl ?_
  refine j_iload dL_law_992 rfl ?_
  refine j_iconst (v := 1) dL_law_994 (by decide) ?_
  refine j_iadd dL_law_995 ?_
  refine j_top (congrArg Value.int (show nI i + (1 : Int32) = nI (i + 1) from nI_add i 1)) ?_
  refine j_sld dL_law_996 (by omega) (by omega) ?_
  refine j_aload_n dL_law_997 rfl rfl ?_
  refine j_iload dL_law_998 rfl ?_
  refine j_iconst (v := 2) dL_law_1000 (by decide) ?_
  refine j_iadd dL_law_1001 ?_
  refine j_top (congrArg Value.int (show nI i + (2 : Int32) = nI (i + 2) from nI_add i 2)) ?_
  refine j_sld dL_law_1002 (by omega) (by omega) ?_
  refine j_aload_n dL_law_1003 rfl rfl ?_
  refine j_iload dL_law_1004 rfl ?_
  refine j_iconst (v := 3) dL_law_1006 (by decide) ?_
  refine j_iadd dL_law_1007 ?_
  refine j_top (congrArg Value.int (show nI i + (3 : Int32) = nI (i + 3) from nI_add i 3)) ?_
  refine j_sld dL_law_1008 (by omega) (by omega) ?_
  refine j_aload_n dL_law_1009 rfl rfl ?_
  refine j_callSW dL_law_1010 kL_putIfAbsent lL_210 stL_putIfAbsent (lw_putIfAbsent hl w _ _ _ _ LT (z_sc G (i + 1)) (z_sc G (i + 2)) (z_sc G (i + 3))) (Nat.le_of_ble_eq_true rfl) ⟨(by show _ ≤ 665722; omega), (by show _ ≤ 7105070; omega)⟩ rfl (Nat.le_of_ble_eq_true rfl) rfl rfl (fun _ _ h => h.elim) ?_
  rintro _ w1 ⟨n1, rfl, LT1, hn1⟩
  refine j_istore (lo' := [(5, _), (0, _), (1, _), (2, _), (3, _), (4, _)]) dL_law_1013 (by decide) rfl ?_
  refine j_aload_n dL_law_1015 rfl rfl ?_
  refine j_aload_n dL_law_1016 rfl rfl ?_
  refine j_iload dL_law_1017 rfl ?_
  refine j_iconst (v := 1) dL_law_1019 (by decide) ?_
  refine j_iadd dL_law_1020 ?_
  refine j_top (congrArg Value.int (show nI i + (1 : Int32) = nI (i + 1) from nI_add i 1)) ?_
  refine j_sld dL_law_1021 (by omega) (by omega) ?_
  refine j_aload_n dL_law_1022 rfl rfl ?_
  refine j_iload dL_law_1023 rfl ?_
  refine j_iconst (v := 2) dL_law_1025 (by decide) ?_
  refine j_iadd dL_law_1026 ?_
  refine j_top (congrArg Value.int (show nI i + (2 : Int32) = nI (i + 2) from nI_add i 2)) ?_
  refine j_sld dL_law_1027 (by omega) (by omega) ?_
  refine j_aload_n dL_law_1028 rfl rfl ?_
  refine j_iload dL_law_1029 rfl ?_
  refine j_iconst (v := 3) dL_law_1031 (by decide) ?_
  refine j_iadd dL_law_1032 ?_
  refine j_top (congrArg Value.int (show nI i + (3 : Int32) = nI (i + 3) from nI_add i 3)) ?_
  refine j_sld dL_law_1033 (by omega) (by omega) ?_
  obtain ⟨-, ⟨s34, hs34, -⟩, -⟩ := id LT1
  refine j_callV (q := (RX11, TX11, 8)) dL_law_1034 kX11_putIfAbsent lL_212 inX11_putIfAbsent seX11_putIfAbsent hs34.m rfl (kx_putIfAbsent hl w1 LT1 (z_sc G (i + 1)) (z_sc G (i + 2)) (z_sc G (i + 3))) (Nat.le_of_ble_eq_true rfl) ⟨(by show _ ≤ 665722; omega), (by show _ ≤ 7105070; omega)⟩ rfl (Nat.le_of_ble_eq_true rfl) rfl rfl (fun _ _ h => h.elim) ?_
  rintro _ w2 ⟨r2, rfl, LT2, th2, hr2⟩
  refine j_istore (lo' := [(6, _), (5, _), (0, _), (1, _), (2, _), (3, _), (4, _)]) dL_law_1037 (by decide) rfl ?_
  refine j_aload_n dL_law_1039 rfl rfl ?_
  obtain ⟨st35, hst35, ht35⟩ := th2
  refine j_callV (q := (RX11, TX11, 8)) dL_law_1040 kX11_thrown lL_176 inX11_thrown seX11_thrown hst35.m rfl (cm_thrown hl w2 _ hst35) (Nat.le_of_ble_eq_true rfl) ⟨(by show _ ≤ 665722; omega), (by show _ ≤ 7105070; omega)⟩ rfl (Nat.le_of_ble_eq_true rfl) rfl rfl (fun _ _ h => h.elim) ?_
  rintro _ _ ⟨rfl, hw35⟩
  refine j_w w2 hw35 ?_
  refine j_iload dL_law_1043 rfl ?_
  refine j_icmp_eq (tgt := 1050) dL_law_1045 (by decide) (fun c_1045_53 => ?_) (fun c_1045_53 => ?_)
  · refine j_iload dL_law_1050 rfl ?_
    refine j_if_ne (tgt := 1068) dL_law_1052 (by decide) (fun c_1052_55 => ?_) (fun c_1052_55 => ?_)
    · refine j_goto (tgt := 3514) dL_law_1068 (by decide) ?_
      refine j_widen (kc' := kc + 200) (ks' := ks + 6000) (by omega) (by omega) ?_
      exact j_lo2 (KK _ _ _ LT2) (z_q1 rfl (z_q1 rfl (z_q1 rfl (z_q1 rfl (z_q1 rfl z_q0)))))
    · refine j_aload_n dL_law_1055 rfl rfl ?_
      obtain ⟨-, -, ⟨ov36, og36⟩, -⟩ := id LT2
      refine j_getf dL_law_1056 fL_13 og36 rfl ?_
      refine j_iload dL_law_1059 rfl ?_
      refine j_i2l dL_law_1061 ?_
      refine j_lcmp dL_law_1062 ?_
      refine j_if_eq (tgt := 1068) dL_law_1063 (by decide) (fun c_1063_65 => ?_) (fun c_1063_65 => ?_)
      · refine j_goto (tgt := 3514) dL_law_1068 (by decide) ?_
        refine j_widen (kc' := kc + 200) (ks' := ks + 6000) (by omega) (by omega) ?_
        exact j_lo2 (KK _ _ _ LT2) (z_q1 rfl (z_q1 rfl (z_q1 rfl (z_q1 rfl (z_q1 rfl z_q0)))))
      · exact absurd (q_cmp (by rw [hn1 c_1052_55, hr2 c_1052_55])) c_1063_65
  · exact absurd ht35 c_1045_53
set_option maxRecDepth 100000 in
set_option maxHeartbeats 4000000 in
theorem lc_11 (hl : l.stackTraces = false) {w : z_W} {x i kc ks : Nat} {S : sp_S} {n : Int64} (LT : z_LX x S S n w) (hi6 : i + 6 ≤ z_sn G) (hsn : z_sn G ≤ 3072) (hkc : kc + 200 ≤ 665722) (hks : ks + 6000 ≤ 7105070) (KK : ∀ (S9 : sp_S) (n9 : Int64) (w9 : z_W), z_LX x S9 S9 n9 w9 → z_J G l mL_law z_SL 3514 (z_lol x i) [] w9 (kc + 200) (ks + 6000)) : z_J G l mL_law z_SL 1071 (z_lol x i) [] w kc ks := by
  show z_J G l mL_law _ 1071 [(0, _), (1, _), (2, _), (3, _), (4, _)] [] _ _ _
  refine j_aload_n dL_law_1071 rfl rfl ?_
  refine j_aload_n dL_law_1072 rfl rfl ?_
  refine j_iload dL_law_1073 rfl ?_
  refine j_iconst (v := 1) dL_law_1075 (by decide) ?_
  refine j_iadd dL_law_1076 ?_
  refine j_top (congrArg Value.int (show nI i + (1 : Int32) = nI (i + 1) from nI_add i 1)) ?_
  refine j_sld dL_law_1077 (by omega) (by omega) ?_
  refine j_aload_n dL_law_1078 rfl rfl ?_
  refine j_iload dL_law_1079 rfl ?_
  refine j_iconst (v := 2) dL_law_1081 (by decide) ?_
  refine j_iadd dL_law_1082 ?_
  refine j_top (congrArg Value.int (show nI i + (2 : Int32) = nI (i + 2) from nI_add i 2)) ?_
  refine j_sld dL_law_1083 (by omega) (by omega) ?_
  refine j_aload_n dL_law_1084 rfl rfl ?_
  refine j_iload dL_law_1085 rfl ?_
  refine j_iconst (v := 3) dL_law_1087 (by decide) ?_
  refine j_iadd dL_law_1088 ?_
  refine j_top (congrArg Value.int (show nI i + (3 : Int32) = nI (i + 3) from nI_add i 3)) ?_
  refine j_sld dL_law_1089 (by omega) (by omega) ?_
  refine j_aload_n dL_law_1090 rfl rfl ?_
  refine j_callSW dL_law_1091 kL_replace lL_213 stL_replace (lw_replace hl w _ _ _ _ LT (z_sc G (i + 1)) (z_sc G (i + 2)) (z_sc G (i + 3))) (Nat.le_of_ble_eq_true rfl) ⟨(by show _ ≤ 665722; omega), (by show _ ≤ 7105070; omega)⟩ rfl (Nat.le_of_ble_eq_true rfl) rfl rfl (fun _ _ h => h.elim) ?_
  rintro _ w1 ⟨n1, rfl, LT1, hn1⟩
  refine j_istore (lo' := [(5, _), (0, _), (1, _), (2, _), (3, _), (4, _)]) dL_law_1094 (by decide) rfl ?_
  refine j_aload_n dL_law_1096 rfl rfl ?_
  refine j_aload_n dL_law_1097 rfl rfl ?_
  refine j_iload dL_law_1098 rfl ?_
  refine j_iconst (v := 1) dL_law_1100 (by decide) ?_
  refine j_iadd dL_law_1101 ?_
  refine j_top (congrArg Value.int (show nI i + (1 : Int32) = nI (i + 1) from nI_add i 1)) ?_
  refine j_sld dL_law_1102 (by omega) (by omega) ?_
  refine j_aload_n dL_law_1103 rfl rfl ?_
  refine j_iload dL_law_1104 rfl ?_
  refine j_iconst (v := 2) dL_law_1106 (by decide) ?_
  refine j_iadd dL_law_1107 ?_
  refine j_top (congrArg Value.int (show nI i + (2 : Int32) = nI (i + 2) from nI_add i 2)) ?_
  refine j_sld dL_law_1108 (by omega) (by omega) ?_
  refine j_aload_n dL_law_1109 rfl rfl ?_
  refine j_iload dL_law_1110 rfl ?_
  refine j_iconst (v := 3) dL_law_1112 (by decide) ?_
  refine j_iadd dL_law_1113 ?_
  refine j_top (congrArg Value.int (show nI i + (3 : Int32) = nI (i + 3) from nI_add i 3)) ?_
  refine j_sld dL_law_1114 (by omega) (by omega) ?_
  obtain ⟨-, ⟨s37, hs37, -⟩, -⟩ := id LT1
  refine j_callV (q := (RX11, TX11, 8)) dL_law_1115 kX11_replace lL_215 inX11_replace seX11_replace hs37.m rfl (kx_replace hl w1 LT1 (z_sc G (i + 1)) (z_sc G (i + 2)) (z_sc G (i + 3))) (Nat.le_of_ble_eq_true rfl) ⟨(by show _ ≤ 665722; omega), (by show _ ≤ 7105070; omega)⟩ rfl (Nat.le_of_ble_eq_true rfl) rfl rfl (fun _ _ h => h.elim) ?_
  rintro _ w2 ⟨r2, rfl, LT2, th2, hr2⟩
  refine j_istore (lo' := [(6, _), (5, _), (0, _), (1, _), (2, _), (3, _), (4, _)]) dL_law_1118 (by decide) rfl ?_
  refine j_aload_n dL_law_1120 rfl rfl ?_
  obtain ⟨st38, hst38, ht38⟩ := th2
  refine j_callV (q := (RX11, TX11, 8)) dL_law_1121 kX11_thrown lL_176 inX11_thrown seX11_thrown hst38.m rfl (cm_thrown hl w2 _ hst38) (Nat.le_of_ble_eq_true rfl) ⟨(by show _ ≤ 665722; omega), (by show _ ≤ 7105070; omega)⟩ rfl (Nat.le_of_ble_eq_true rfl) rfl rfl (fun _ _ h => h.elim) ?_
  rintro _ _ ⟨rfl, hw38⟩
  refine j_w w2 hw38 ?_
  refine j_iload dL_law_1124 rfl ?_
  refine j_icmp_eq (tgt := 1131) dL_law_1126 (by decide) (fun c_1126_53 => ?_) (fun c_1126_53 => ?_)
  · refine j_iload dL_law_1131 rfl ?_
    refine j_if_ne (tgt := 1149) dL_law_1133 (by decide) (fun c_1133_55 => ?_) (fun c_1133_55 => ?_)
    · refine j_goto (tgt := 3514) dL_law_1149 (by decide) ?_
      refine j_widen (kc' := kc + 200) (ks' := ks + 6000) (by omega) (by omega) ?_
      exact j_lo2 (KK _ _ _ LT2) (z_q1 rfl (z_q1 rfl (z_q1 rfl (z_q1 rfl (z_q1 rfl z_q0)))))
    · refine j_aload_n dL_law_1136 rfl rfl ?_
      obtain ⟨-, -, ⟨ov39, og39⟩, -⟩ := id LT2
      refine j_getf dL_law_1137 fL_13 og39 rfl ?_
      refine j_iload dL_law_1140 rfl ?_
      refine j_i2l dL_law_1142 ?_
      refine j_lcmp dL_law_1143 ?_
      refine j_if_eq (tgt := 1149) dL_law_1144 (by decide) (fun c_1144_65 => ?_) (fun c_1144_65 => ?_)
      · refine j_goto (tgt := 3514) dL_law_1149 (by decide) ?_
        refine j_widen (kc' := kc + 200) (ks' := ks + 6000) (by omega) (by omega) ?_
        exact j_lo2 (KK _ _ _ LT2) (z_q1 rfl (z_q1 rfl (z_q1 rfl (z_q1 rfl (z_q1 rfl z_q0)))))
      · exact absurd (q_cmp (by rw [hn1 c_1133_55, hr2 c_1133_55])) c_1144_65
  · exact absurd ht38 c_1126_53
set_option maxRecDepth 100000 in
set_option maxHeartbeats 4000000 in
theorem lc_12 (hl : l.stackTraces = false) {w : z_W} {x i kc ks : Nat} {S : sp_S} {n : Int64} (LT : z_LX x S S n w) (hi6 : i + 6 ≤ z_sn G) (hsn : z_sn G ≤ 3072) (hkc : kc + 200 ≤ 665722) (hks : ks + 6000 ≤ 7105070) (KK : ∀ (S9 : sp_S) (n9 : Int64) (w9 : z_W), z_LX x S9 S9 n9 w9 → z_J G l mL_law z_SL 3514 (z_lol x i) [] w9 (kc + 200) (ks + 6000)) : z_J G l mL_law z_SL 1152 (z_lol x i) [] w kc ks := by
  show z_J G l mL_law _ 1152 [(0, _), (1, _), (2, _), (3, _), (4, _)] [] _ _ _
  refine j_aload_n dL_law_1152 rfl rfl ?_
  refine j_aload_n dL_law_1153 rfl rfl ?_
  refine j_iload dL_law_1154 rfl ?_
  refine j_iconst (v := 1) dL_law_1156 (by decide) ?_
  refine j_iadd dL_law_1157 ?_
  refine j_top (congrArg Value.int (show nI i + (1 : Int32) = nI (i + 1) from nI_add i 1)) ?_
  refine j_sld dL_law_1158 (by omega) (by omega) ?_
  refine j_aload_n dL_law_1159 rfl rfl ?_
  refine j_iload dL_law_1160 rfl ?_
  refine j_iconst (v := 2) dL_law_1162 (by decide) ?_
  refine j_iadd dL_law_1163 ?_
  refine j_top (congrArg Value.int (show nI i + (2 : Int32) = nI (i + 2) from nI_add i 2)) ?_
  refine j_sld dL_law_1164 (by omega) (by omega) ?_
  refine j_aload_n dL_law_1165 rfl rfl ?_
  refine j_iload dL_law_1166 rfl ?_
  refine j_iconst (v := 3) dL_law_1168 (by decide) ?_
  refine j_iadd dL_law_1169 ?_
  refine j_top (congrArg Value.int (show nI i + (3 : Int32) = nI (i + 3) from nI_add i 3)) ?_
  refine j_sld dL_law_1170 (by omega) (by omega) ?_
  refine j_aload_n dL_law_1171 rfl rfl ?_
  refine j_iload dL_law_1172 rfl ?_
  refine j_iconst (v := 4) dL_law_1174 (by decide) ?_
  refine j_iadd dL_law_1175 ?_
  refine j_top (congrArg Value.int (show nI i + (4 : Int32) = nI (i + 4) from nI_add i 4)) ?_
  refine j_sld dL_law_1176 (by omega) (by omega) ?_
  refine j_aload_n dL_law_1177 rfl rfl ?_
  refine j_callSW dL_law_1178 kL_replaceIf lL_216 stL_replaceIf (lw_replaceIf hl w _ _ _ _ LT (z_sc G (i + 1)) (z_sc G (i + 2)) (z_sc G (i + 3)) (z_sc G (i + 4))) (Nat.le_of_ble_eq_true rfl) ⟨(by show _ ≤ 665722; omega), (by show _ ≤ 7105070; omega)⟩ rfl (Nat.le_of_ble_eq_true rfl) rfl rfl (fun _ _ h => h.elim) ?_
  rintro _ w1 ⟨n1, rfl, LT1, hn1⟩
  refine j_istore (lo' := [(5, _), (0, _), (1, _), (2, _), (3, _), (4, _)]) dL_law_1181 (by decide) rfl ?_
  refine j_aload_n dL_law_1183 rfl rfl ?_
  refine j_aload_n dL_law_1184 rfl rfl ?_
  refine j_iload dL_law_1185 rfl ?_
  refine j_iconst (v := 1) dL_law_1187 (by decide) ?_
  refine j_iadd dL_law_1188 ?_
  refine j_top (congrArg Value.int (show nI i + (1 : Int32) = nI (i + 1) from nI_add i 1)) ?_
  refine j_sld dL_law_1189 (by omega) (by omega) ?_
  refine j_aload_n dL_law_1190 rfl rfl ?_
  refine j_iload dL_law_1191 rfl ?_
  refine j_iconst (v := 2) dL_law_1193 (by decide) ?_
  refine j_iadd dL_law_1194 ?_
  refine j_top (congrArg Value.int (show nI i + (2 : Int32) = nI (i + 2) from nI_add i 2)) ?_
  refine j_sld dL_law_1195 (by omega) (by omega) ?_
  refine j_aload_n dL_law_1196 rfl rfl ?_
  refine j_iload dL_law_1197 rfl ?_
  refine j_iconst (v := 3) dL_law_1199 (by decide) ?_
  refine j_iadd dL_law_1200 ?_
  refine j_top (congrArg Value.int (show nI i + (3 : Int32) = nI (i + 3) from nI_add i 3)) ?_
  refine j_sld dL_law_1201 (by omega) (by omega) ?_
  refine j_aload_n dL_law_1202 rfl rfl ?_
  refine j_iload dL_law_1203 rfl ?_
  refine j_iconst (v := 4) dL_law_1205 (by decide) ?_
  refine j_iadd dL_law_1206 ?_
  refine j_top (congrArg Value.int (show nI i + (4 : Int32) = nI (i + 4) from nI_add i 4)) ?_
  refine j_sld dL_law_1207 (by omega) (by omega) ?_
  obtain ⟨-, ⟨s40, hs40, -⟩, -⟩ := id LT1
  refine j_callV (q := (RX11, TX11, 8)) dL_law_1208 kX11_replaceIf lL_219 inX11_replaceIf seX11_replaceIf hs40.m rfl (kx_replaceIf hl w1 LT1 (z_sc G (i + 1)) (z_sc G (i + 2)) (z_sc G (i + 3)) (z_sc G (i + 4))) (Nat.le_of_ble_eq_true rfl) ⟨(by show _ ≤ 665722; omega), (by show _ ≤ 7105070; omega)⟩ rfl (Nat.le_of_ble_eq_true rfl) rfl rfl (fun _ _ h => h.elim) ?_
  rintro _ w2 ⟨r2, rfl, LT2, th2, hr2⟩
  refine j_istore (lo' := [(6, _), (5, _), (0, _), (1, _), (2, _), (3, _), (4, _)]) dL_law_1211 (by decide) rfl ?_
  refine j_aload_n dL_law_1213 rfl rfl ?_
  obtain ⟨st41, hst41, ht41⟩ := th2
  refine j_callV (q := (RX11, TX11, 8)) dL_law_1214 kX11_thrown lL_176 inX11_thrown seX11_thrown hst41.m rfl (cm_thrown hl w2 _ hst41) (Nat.le_of_ble_eq_true rfl) ⟨(by show _ ≤ 665722; omega), (by show _ ≤ 7105070; omega)⟩ rfl (Nat.le_of_ble_eq_true rfl) rfl rfl (fun _ _ h => h.elim) ?_
  rintro _ _ ⟨rfl, hw41⟩
  refine j_w w2 hw41 ?_
  refine j_iload dL_law_1217 rfl ?_
  refine j_icmp_eq (tgt := 1224) dL_law_1219 (by decide) (fun c_1219_65 => ?_) (fun c_1219_65 => ?_)
  · refine j_iload dL_law_1224 rfl ?_
    refine j_if_ne (tgt := 1249) dL_law_1226 (by decide) (fun c_1226_67 => ?_) (fun c_1226_67 => ?_)
    · refine j_goto (tgt := 3514) dL_law_1249 (by decide) ?_
      refine j_widen (kc' := kc + 200) (ks' := ks + 6000) (by omega) (by omega) ?_
      exact j_lo2 (KK _ _ _ LT2) (z_q1 rfl (z_q1 rfl (z_q1 rfl (z_q1 rfl (z_q1 rfl z_q0)))))
    · refine j_aload_n dL_law_1229 rfl rfl ?_
      obtain ⟨-, -, ⟨ov42, og42⟩, -⟩ := id LT2
      refine j_getf dL_law_1230 fL_13 og42 rfl ?_
      refine j_iload dL_law_1233 rfl ?_
      refine j_if_eq (tgt := 1242) dL_law_1235 (by decide) (fun c_1235_75 => ?_) (fun c_1235_75 => ?_)
      · refine j_lconst (v := 0) dL_law_1242 (by decide) ?_
        refine j_lcmp dL_law_1243 ?_
        refine j_if_eq (tgt := 1249) dL_law_1244 (by decide) (fun c_1244_78 => ?_) (fun c_1244_78 => ?_)
        · refine j_goto (tgt := 3514) dL_law_1249 (by decide) ?_
          refine j_widen (kc' := kc + 200) (ks' := ks + 6000) (by omega) (by omega) ?_
          exact j_lo2 (KK _ _ _ LT2) (z_q1 rfl (z_q1 rfl (z_q1 rfl (z_q1 rfl (z_q1 rfl z_q0)))))
        · exact absurd (q_cmp (by rw [hn1 c_1226_67]; have z9 := hr2 c_1226_67; have z8 := c_1235_75; rw [z9] at z8; first | (rw [z8]; rfl) | (rw [show a_replaceIf S (z_sc G (i + 1)) (z_sc G (i + 2)) (z_sc G (i + 3)) (z_sc G (i + 4)) = 1 from sp_rif01.resolve_left z8]; rfl))) c_1244_78
      · refine j_lconst (v := 1) dL_law_1238 (by decide) ?_
        refine j_goto (tgt := 1243) dL_law_1239 (by decide) ?_
        refine j_lcmp dL_law_1243 ?_
        refine j_if_eq (tgt := 1249) dL_law_1244 (by decide) (fun c_1244_86 => ?_) (fun c_1244_86 => ?_)
        · refine j_goto (tgt := 3514) dL_law_1249 (by decide) ?_
          refine j_widen (kc' := kc + 200) (ks' := ks + 6000) (by omega) (by omega) ?_
          exact j_lo2 (KK _ _ _ LT2) (z_q1 rfl (z_q1 rfl (z_q1 rfl (z_q1 rfl (z_q1 rfl z_q0)))))
        · exact absurd (q_cmp (by rw [hn1 c_1226_67]; have z9 := hr2 c_1226_67; have z8 := c_1235_75; rw [z9] at z8; first | (rw [z8]; rfl) | (rw [show a_replaceIf S (z_sc G (i + 1)) (z_sc G (i + 2)) (z_sc G (i + 3)) (z_sc G (i + 4)) = 1 from sp_rif01.resolve_left z8]; rfl))) c_1244_86
  · exact absurd ht41 c_1219_65
set_option maxRecDepth 100000 in
set_option maxHeartbeats 4000000 in
theorem lc_13 (hl : l.stackTraces = false) {w : z_W} {x i kc ks : Nat} {S : sp_S} {n : Int64} (LT : z_LX x S S n w) (hi6 : i + 6 ≤ z_sn G) (hsn : z_sn G ≤ 3072) (hkc : kc + 200 ≤ 665722) (hks : ks + 6000 ≤ 7105070) (KK : ∀ (S9 : sp_S) (n9 : Int64) (w9 : z_W), z_LX x S9 S9 n9 w9 → z_J G l mL_law z_SL 3514 (z_lol x i) [] w9 (kc + 200) (ks + 6000)) : z_J G l mL_law z_SL 1252 (z_lol x i) [] w kc ks := by
  show z_J G l mL_law _ 1252 [(0, _), (1, _), (2, _), (3, _), (4, _)] [] _ _ _
  refine j_aload_n dL_law_1252 rfl rfl ?_
  refine j_aload_n dL_law_1253 rfl rfl ?_
  refine j_iload dL_law_1254 rfl ?_
  refine j_iconst (v := 1) dL_law_1256 (by decide) ?_
  refine j_iadd dL_law_1257 ?_
  refine j_top (congrArg Value.int (show nI i + (1 : Int32) = nI (i + 1) from nI_add i 1)) ?_
  refine j_sld dL_law_1258 (by omega) (by omega) ?_
  refine j_aload_n dL_law_1259 rfl rfl ?_
  refine j_iload dL_law_1260 rfl ?_
  refine j_iconst (v := 2) dL_law_1262 (by decide) ?_
  refine j_iadd dL_law_1263 ?_
  refine j_top (congrArg Value.int (show nI i + (2 : Int32) = nI (i + 2) from nI_add i 2)) ?_
  refine j_sld dL_law_1264 (by omega) (by omega) ?_
  refine j_aload_n dL_law_1265 rfl rfl ?_
  refine j_iload dL_law_1266 rfl ?_
  refine j_iconst (v := 3) dL_law_1268 (by decide) ?_
  refine j_iadd dL_law_1269 ?_
  refine j_top (congrArg Value.int (show nI i + (3 : Int32) = nI (i + 3) from nI_add i 3)) ?_
  refine j_sld dL_law_1270 (by omega) (by omega) ?_
  refine j_aload_n dL_law_1271 rfl rfl ?_
  refine j_callSW dL_law_1272 kL_removePair lL_220 stL_removePair (lw_removePair hl w _ _ _ _ LT (z_sc G (i + 1)) (z_sc G (i + 2)) (z_sc G (i + 3))) (Nat.le_of_ble_eq_true rfl) ⟨(by show _ ≤ 665722; omega), (by show _ ≤ 7105070; omega)⟩ rfl (Nat.le_of_ble_eq_true rfl) rfl rfl (fun _ _ h => h.elim) ?_
  rintro _ w1 ⟨n1, rfl, LT1, hn1⟩
  refine j_istore (lo' := [(5, _), (0, _), (1, _), (2, _), (3, _), (4, _)]) dL_law_1275 (by decide) rfl ?_
  refine j_aload_n dL_law_1277 rfl rfl ?_
  refine j_aload_n dL_law_1278 rfl rfl ?_
  refine j_iload dL_law_1279 rfl ?_
  refine j_iconst (v := 1) dL_law_1281 (by decide) ?_
  refine j_iadd dL_law_1282 ?_
  refine j_top (congrArg Value.int (show nI i + (1 : Int32) = nI (i + 1) from nI_add i 1)) ?_
  refine j_sld dL_law_1283 (by omega) (by omega) ?_
  refine j_aload_n dL_law_1284 rfl rfl ?_
  refine j_iload dL_law_1285 rfl ?_
  refine j_iconst (v := 2) dL_law_1287 (by decide) ?_
  refine j_iadd dL_law_1288 ?_
  refine j_top (congrArg Value.int (show nI i + (2 : Int32) = nI (i + 2) from nI_add i 2)) ?_
  refine j_sld dL_law_1289 (by omega) (by omega) ?_
  refine j_aload_n dL_law_1290 rfl rfl ?_
  refine j_iload dL_law_1291 rfl ?_
  refine j_iconst (v := 3) dL_law_1293 (by decide) ?_
  refine j_iadd dL_law_1294 ?_
  refine j_top (congrArg Value.int (show nI i + (3 : Int32) = nI (i + 3) from nI_add i 3)) ?_
  refine j_sld dL_law_1295 (by omega) (by omega) ?_
  obtain ⟨-, ⟨s43, hs43, -⟩, -⟩ := id LT1
  refine j_callV (q := (RX11, TX11, 8)) dL_law_1296 kX11_removePair lL_222 inX11_removePair seX11_removePair hs43.m rfl (kx_removePair hl w1 LT1 (z_sc G (i + 1)) (z_sc G (i + 2)) (z_sc G (i + 3))) (Nat.le_of_ble_eq_true rfl) ⟨(by show _ ≤ 665722; omega), (by show _ ≤ 7105070; omega)⟩ rfl (Nat.le_of_ble_eq_true rfl) rfl rfl (fun _ _ h => h.elim) ?_
  rintro _ w2 ⟨r2, rfl, LT2, th2, hr2⟩
  refine j_istore (lo' := [(6, _), (5, _), (0, _), (1, _), (2, _), (3, _), (4, _)]) dL_law_1299 (by decide) rfl ?_
  refine j_aload_n dL_law_1301 rfl rfl ?_
  obtain ⟨st44, hst44, ht44⟩ := th2
  refine j_callV (q := (RX11, TX11, 8)) dL_law_1302 kX11_thrown lL_176 inX11_thrown seX11_thrown hst44.m rfl (cm_thrown hl w2 _ hst44) (Nat.le_of_ble_eq_true rfl) ⟨(by show _ ≤ 665722; omega), (by show _ ≤ 7105070; omega)⟩ rfl (Nat.le_of_ble_eq_true rfl) rfl rfl (fun _ _ h => h.elim) ?_
  rintro _ _ ⟨rfl, hw44⟩
  refine j_w w2 hw44 ?_
  refine j_iload dL_law_1305 rfl ?_
  refine j_icmp_eq (tgt := 1312) dL_law_1307 (by decide) (fun c_1307_53 => ?_) (fun c_1307_53 => ?_)
  · refine j_iload dL_law_1312 rfl ?_
    refine j_if_ne (tgt := 1337) dL_law_1314 (by decide) (fun c_1314_55 => ?_) (fun c_1314_55 => ?_)
    · refine j_goto (tgt := 3514) dL_law_1337 (by decide) ?_
      refine j_widen (kc' := kc + 200) (ks' := ks + 6000) (by omega) (by omega) ?_
      exact j_lo2 (KK _ _ _ LT2) (z_q1 rfl (z_q1 rfl (z_q1 rfl (z_q1 rfl (z_q1 rfl z_q0)))))
    · refine j_aload_n dL_law_1317 rfl rfl ?_
      obtain ⟨-, -, ⟨ov45, og45⟩, -⟩ := id LT2
      refine j_getf dL_law_1318 fL_13 og45 rfl ?_
      refine j_iload dL_law_1321 rfl ?_
      refine j_if_eq (tgt := 1330) dL_law_1323 (by decide) (fun c_1323_63 => ?_) (fun c_1323_63 => ?_)
      · refine j_lconst (v := 0) dL_law_1330 (by decide) ?_
        refine j_lcmp dL_law_1331 ?_
        refine j_if_eq (tgt := 1337) dL_law_1332 (by decide) (fun c_1332_66 => ?_) (fun c_1332_66 => ?_)
        · refine j_goto (tgt := 3514) dL_law_1337 (by decide) ?_
          refine j_widen (kc' := kc + 200) (ks' := ks + 6000) (by omega) (by omega) ?_
          exact j_lo2 (KK _ _ _ LT2) (z_q1 rfl (z_q1 rfl (z_q1 rfl (z_q1 rfl (z_q1 rfl z_q0)))))
        · exact absurd (q_cmp (by rw [hn1 c_1314_55]; have z9 := hr2 c_1314_55; have z8 := c_1323_63; rw [z9] at z8; first | (rw [z8]; rfl) | (rw [show a_removePair S (z_sc G (i + 1)) (z_sc G (i + 2)) (z_sc G (i + 3)) = 1 from sp_rmp01.resolve_left z8]; rfl))) c_1332_66
      · refine j_lconst (v := 1) dL_law_1326 (by decide) ?_
        refine j_goto (tgt := 1331) dL_law_1327 (by decide) ?_
        refine j_lcmp dL_law_1331 ?_
        refine j_if_eq (tgt := 1337) dL_law_1332 (by decide) (fun c_1332_74 => ?_) (fun c_1332_74 => ?_)
        · refine j_goto (tgt := 3514) dL_law_1337 (by decide) ?_
          refine j_widen (kc' := kc + 200) (ks' := ks + 6000) (by omega) (by omega) ?_
          exact j_lo2 (KK _ _ _ LT2) (z_q1 rfl (z_q1 rfl (z_q1 rfl (z_q1 rfl (z_q1 rfl z_q0)))))
        · exact absurd (q_cmp (by rw [hn1 c_1314_55]; have z9 := hr2 c_1314_55; have z8 := c_1323_63; rw [z9] at z8; first | (rw [z8]; rfl) | (rw [show a_removePair S (z_sc G (i + 1)) (z_sc G (i + 2)) (z_sc G (i + 3)) = 1 from sp_rmp01.resolve_left z8]; rfl))) c_1332_74
  · exact absurd ht44 c_1307_53
set_option maxRecDepth 100000 in
set_option maxHeartbeats 4000000 in
theorem lc_14 (hl : l.stackTraces = false) {w : z_W} {x i kc ks : Nat} {S : sp_S} {n : Int64} (LT : z_LX x S S n w) (hi6 : i + 6 ≤ z_sn G) (hsn : z_sn G ≤ 3072) (hkc : kc + 200 ≤ 665722) (hks : ks + 6000 ≤ 7105070) (KK : ∀ (S9 : sp_S) (n9 : Int64) (w9 : z_W), z_LX x S9 S9 n9 w9 → z_J G l mL_law z_SL 3514 (z_lol x i) [] w9 (kc + 200) (ks + 6000)) : z_J G l mL_law z_SL 1340 (z_lol x i) [] w kc ks := by
  show z_J G l mL_law _ 1340 [(0, _), (1, _), (2, _), (3, _), (4, _)] [] _ _ _
  refine j_aload_n dL_law_1340 rfl rfl ?_
  refine j_aload_n dL_law_1341 rfl rfl ?_
  refine j_iload dL_law_1342 rfl ?_
  refine j_iconst (v := 1) dL_law_1344 (by decide) ?_
  refine j_iadd dL_law_1345 ?_
  refine j_top (congrArg Value.int (show nI i + (1 : Int32) = nI (i + 1) from nI_add i 1)) ?_
  refine j_sld dL_law_1346 (by omega) (by omega) ?_
  refine j_aload_n dL_law_1347 rfl rfl ?_
  refine j_iload dL_law_1348 rfl ?_
  refine j_iconst (v := 2) dL_law_1350 (by decide) ?_
  refine j_iadd dL_law_1351 ?_
  refine j_top (congrArg Value.int (show nI i + (2 : Int32) = nI (i + 2) from nI_add i 2)) ?_
  refine j_sld dL_law_1352 (by omega) (by omega) ?_
  refine j_aload_n dL_law_1353 rfl rfl ?_
  refine j_iload dL_law_1354 rfl ?_
  refine j_iconst (v := 3) dL_law_1356 (by decide) ?_
  refine j_iadd dL_law_1357 ?_
  refine j_top (congrArg Value.int (show nI i + (3 : Int32) = nI (i + 3) from nI_add i 3)) ?_
  refine j_sld dL_law_1358 (by omega) (by omega) ?_
  refine j_aload_n dL_law_1359 rfl rfl ?_
  refine j_iload dL_law_1360 rfl ?_
  refine j_iconst (v := 4) dL_law_1362 (by decide) ?_
  refine j_iadd dL_law_1363 ?_
  refine j_top (congrArg Value.int (show nI i + (4 : Int32) = nI (i + 4) from nI_add i 4)) ?_
  refine j_sld dL_law_1364 (by omega) (by omega) ?_
  refine j_aload_n dL_law_1365 rfl rfl ?_
  refine j_callSW dL_law_1366 kL_computeIfAbsent lL_223 stL_computeIfAbsent (lw_computeIfAbsent hl w _ _ _ _ LT (z_sc G (i + 1)) (z_sc G (i + 2)) (z_sc G (i + 3)) (z_sc G (i + 4))) (Nat.le_of_ble_eq_true rfl) ⟨(by show _ ≤ 665722; omega), (by show _ ≤ 7105070; omega)⟩ rfl (Nat.le_of_ble_eq_true rfl) rfl rfl (fun _ _ h => h.elim) ?_
  rintro _ w1 ⟨n1, rfl, LT1, hn1⟩
  refine j_istore (lo' := [(5, _), (0, _), (1, _), (2, _), (3, _), (4, _)]) dL_law_1369 (by decide) rfl ?_
  refine j_aload_n dL_law_1371 rfl rfl ?_
  refine j_aload_n dL_law_1372 rfl rfl ?_
  refine j_iload dL_law_1373 rfl ?_
  refine j_iconst (v := 1) dL_law_1375 (by decide) ?_
  refine j_iadd dL_law_1376 ?_
  refine j_top (congrArg Value.int (show nI i + (1 : Int32) = nI (i + 1) from nI_add i 1)) ?_
  refine j_sld dL_law_1377 (by omega) (by omega) ?_
  refine j_aload_n dL_law_1378 rfl rfl ?_
  refine j_iload dL_law_1379 rfl ?_
  refine j_iconst (v := 2) dL_law_1381 (by decide) ?_
  refine j_iadd dL_law_1382 ?_
  refine j_top (congrArg Value.int (show nI i + (2 : Int32) = nI (i + 2) from nI_add i 2)) ?_
  refine j_sld dL_law_1383 (by omega) (by omega) ?_
  refine j_aload_n dL_law_1384 rfl rfl ?_
  refine j_iload dL_law_1385 rfl ?_
  refine j_iconst (v := 3) dL_law_1387 (by decide) ?_
  refine j_iadd dL_law_1388 ?_
  refine j_top (congrArg Value.int (show nI i + (3 : Int32) = nI (i + 3) from nI_add i 3)) ?_
  refine j_sld dL_law_1389 (by omega) (by omega) ?_
  refine j_aload_n dL_law_1390 rfl rfl ?_
  refine j_iload dL_law_1391 rfl ?_
  refine j_iconst (v := 4) dL_law_1393 (by decide) ?_
  refine j_iadd dL_law_1394 ?_
  refine j_top (congrArg Value.int (show nI i + (4 : Int32) = nI (i + 4) from nI_add i 4)) ?_
  refine j_sld dL_law_1395 (by omega) (by omega) ?_
  obtain ⟨-, ⟨s46, hs46, -⟩, -⟩ := id LT1
  refine j_callV (q := (RX11, TX11, 8)) dL_law_1396 kX11_computeIfAbsent lL_225 inX11_computeIfAbsent seX11_computeIfAbsent hs46.m rfl (kx_computeIfAbsent hl w1 LT1 (z_sc G (i + 1)) (z_sc G (i + 2)) (z_sc G (i + 3)) (z_sc G (i + 4))) (Nat.le_of_ble_eq_true rfl) ⟨(by show _ ≤ 665722; omega), (by show _ ≤ 7105070; omega)⟩ rfl (Nat.le_of_ble_eq_true rfl) rfl rfl (fun _ _ h => h.elim) ?_
  rintro _ w2 ⟨r2, rfl, LT2, th2, hr2⟩
  refine j_istore (lo' := [(6, _), (5, _), (0, _), (1, _), (2, _), (3, _), (4, _)]) dL_law_1399 (by decide) rfl ?_
  refine j_aload_n dL_law_1401 rfl rfl ?_
  obtain ⟨st47, hst47, ht47⟩ := th2
  refine j_callV (q := (RX11, TX11, 8)) dL_law_1402 kX11_thrown lL_176 inX11_thrown seX11_thrown hst47.m rfl (cm_thrown hl w2 _ hst47) (Nat.le_of_ble_eq_true rfl) ⟨(by show _ ≤ 665722; omega), (by show _ ≤ 7105070; omega)⟩ rfl (Nat.le_of_ble_eq_true rfl) rfl rfl (fun _ _ h => h.elim) ?_
  rintro _ _ ⟨rfl, hw47⟩
  refine j_w w2 hw47 ?_
  refine j_iload dL_law_1405 rfl ?_
  refine j_icmp_eq (tgt := 1412) dL_law_1407 (by decide) (fun c_1407_65 => ?_) (fun c_1407_65 => ?_)
  · refine j_iload dL_law_1412 rfl ?_
    refine j_if_ne (tgt := 1430) dL_law_1414 (by decide) (fun c_1414_67 => ?_) (fun c_1414_67 => ?_)
    · refine j_goto (tgt := 3514) dL_law_1430 (by decide) ?_
      refine j_widen (kc' := kc + 200) (ks' := ks + 6000) (by omega) (by omega) ?_
      exact j_lo2 (KK _ _ _ LT2) (z_q1 rfl (z_q1 rfl (z_q1 rfl (z_q1 rfl (z_q1 rfl z_q0)))))
    · refine j_aload_n dL_law_1417 rfl rfl ?_
      obtain ⟨-, -, ⟨ov48, og48⟩, -⟩ := id LT2
      refine j_getf dL_law_1418 fL_13 og48 rfl ?_
      refine j_iload dL_law_1421 rfl ?_
      refine j_i2l dL_law_1423 ?_
      refine j_lcmp dL_law_1424 ?_
      refine j_if_eq (tgt := 1430) dL_law_1425 (by decide) (fun c_1425_77 => ?_) (fun c_1425_77 => ?_)
      · refine j_goto (tgt := 3514) dL_law_1430 (by decide) ?_
        refine j_widen (kc' := kc + 200) (ks' := ks + 6000) (by omega) (by omega) ?_
        exact j_lo2 (KK _ _ _ LT2) (z_q1 rfl (z_q1 rfl (z_q1 rfl (z_q1 rfl (z_q1 rfl z_q0)))))
      · exact absurd (q_cmp (by rw [hn1 c_1414_67, hr2 c_1414_67])) c_1425_77
  · exact absurd ht47 c_1407_65
set_option maxRecDepth 100000 in
set_option maxHeartbeats 4000000 in
theorem lc_15 (hl : l.stackTraces = false) {w : z_W} {x i kc ks : Nat} {S : sp_S} {n : Int64} (LT : z_LX x S S n w) (hi6 : i + 6 ≤ z_sn G) (hsn : z_sn G ≤ 3072) (hkc : kc + 200 ≤ 665722) (hks : ks + 6000 ≤ 7105070) (KK : ∀ (S9 : sp_S) (n9 : Int64) (w9 : z_W), z_LX x S9 S9 n9 w9 → z_J G l mL_law z_SL 3514 (z_lol x i) [] w9 (kc + 200) (ks + 6000)) : z_J G l mL_law z_SL 1433 (z_lol x i) [] w kc ks := by
  show z_J G l mL_law _ 1433 [(0, _), (1, _), (2, _), (3, _), (4, _)] [] _ _ _
  refine j_aload_n dL_law_1433 rfl rfl ?_
  refine j_aload_n dL_law_1434 rfl rfl ?_
  refine j_iload dL_law_1435 rfl ?_
  refine j_iconst (v := 1) dL_law_1437 (by decide) ?_
  refine j_iadd dL_law_1438 ?_
  refine j_top (congrArg Value.int (show nI i + (1 : Int32) = nI (i + 1) from nI_add i 1)) ?_
  refine j_sld dL_law_1439 (by omega) (by omega) ?_
  refine j_aload_n dL_law_1440 rfl rfl ?_
  refine j_iload dL_law_1441 rfl ?_
  refine j_iconst (v := 2) dL_law_1443 (by decide) ?_
  refine j_iadd dL_law_1444 ?_
  refine j_top (congrArg Value.int (show nI i + (2 : Int32) = nI (i + 2) from nI_add i 2)) ?_
  refine j_sld dL_law_1445 (by omega) (by omega) ?_
  refine j_aload_n dL_law_1446 rfl rfl ?_
  refine j_iload dL_law_1447 rfl ?_
  refine j_iconst (v := 3) dL_law_1449 (by decide) ?_
  refine j_iadd dL_law_1450 ?_
  refine j_top (congrArg Value.int (show nI i + (3 : Int32) = nI (i + 3) from nI_add i 3)) ?_
  refine j_sld dL_law_1451 (by omega) (by omega) ?_
  refine j_aload_n dL_law_1452 rfl rfl ?_
  refine j_iload dL_law_1453 rfl ?_
  refine j_iconst (v := 4) dL_law_1455 (by decide) ?_
  refine j_iadd dL_law_1456 ?_
  refine j_top (congrArg Value.int (show nI i + (4 : Int32) = nI (i + 4) from nI_add i 4)) ?_
  refine j_sld dL_law_1457 (by omega) (by omega) ?_
  refine j_aload_n dL_law_1458 rfl rfl ?_
  refine j_callSW dL_law_1459 kL_computeIfPresent lL_226 stL_computeIfPresent (lw_computeIfPresent hl w _ _ _ _ LT (z_sc G (i + 1)) (z_sc G (i + 2)) (z_sc G (i + 3)) (z_sc G (i + 4))) (Nat.le_of_ble_eq_true rfl) ⟨(by show _ ≤ 665722; omega), (by show _ ≤ 7105070; omega)⟩ rfl (Nat.le_of_ble_eq_true rfl) rfl rfl (fun _ _ h => h.elim) ?_
  rintro _ w1 ⟨n1, rfl, LT1, hn1⟩
  refine j_istore (lo' := [(5, _), (0, _), (1, _), (2, _), (3, _), (4, _)]) dL_law_1462 (by decide) rfl ?_
  refine j_aload_n dL_law_1464 rfl rfl ?_
  refine j_aload_n dL_law_1465 rfl rfl ?_
  refine j_iload dL_law_1466 rfl ?_
  refine j_iconst (v := 1) dL_law_1468 (by decide) ?_
  refine j_iadd dL_law_1469 ?_
  refine j_top (congrArg Value.int (show nI i + (1 : Int32) = nI (i + 1) from nI_add i 1)) ?_
  refine j_sld dL_law_1470 (by omega) (by omega) ?_
  refine j_aload_n dL_law_1471 rfl rfl ?_
  refine j_iload dL_law_1472 rfl ?_
  refine j_iconst (v := 2) dL_law_1474 (by decide) ?_
  refine j_iadd dL_law_1475 ?_
  refine j_top (congrArg Value.int (show nI i + (2 : Int32) = nI (i + 2) from nI_add i 2)) ?_
  refine j_sld dL_law_1476 (by omega) (by omega) ?_
  refine j_aload_n dL_law_1477 rfl rfl ?_
  refine j_iload dL_law_1478 rfl ?_
  refine j_iconst (v := 3) dL_law_1480 (by decide) ?_
  refine j_iadd dL_law_1481 ?_
  refine j_top (congrArg Value.int (show nI i + (3 : Int32) = nI (i + 3) from nI_add i 3)) ?_
  refine j_sld dL_law_1482 (by omega) (by omega) ?_
  refine j_aload_n dL_law_1483 rfl rfl ?_
  refine j_iload dL_law_1484 rfl ?_
  refine j_iconst (v := 4) dL_law_1486 (by decide) ?_
  refine j_iadd dL_law_1487 ?_
  refine j_top (congrArg Value.int (show nI i + (4 : Int32) = nI (i + 4) from nI_add i 4)) ?_
  refine j_sld dL_law_1488 (by omega) (by omega) ?_
  obtain ⟨-, ⟨s49, hs49, -⟩, -⟩ := id LT1
  refine j_callV (q := (RX11, TX11, 8)) dL_law_1489 kX11_computeIfPresent lL_228 inX11_computeIfPresent seX11_computeIfPresent hs49.m rfl (kx_computeIfPresent hl w1 LT1 (z_sc G (i + 1)) (z_sc G (i + 2)) (z_sc G (i + 3)) (z_sc G (i + 4))) (Nat.le_of_ble_eq_true rfl) ⟨(by show _ ≤ 665722; omega), (by show _ ≤ 7105070; omega)⟩ rfl (Nat.le_of_ble_eq_true rfl) rfl rfl (fun _ _ h => h.elim) ?_
  rintro _ w2 ⟨r2, rfl, LT2, th2, hr2⟩
  refine j_istore (lo' := [(6, _), (5, _), (0, _), (1, _), (2, _), (3, _), (4, _)]) dL_law_1492 (by decide) rfl ?_
  refine j_aload_n dL_law_1494 rfl rfl ?_
  obtain ⟨st50, hst50, ht50⟩ := th2
  refine j_callV (q := (RX11, TX11, 8)) dL_law_1495 kX11_thrown lL_176 inX11_thrown seX11_thrown hst50.m rfl (cm_thrown hl w2 _ hst50) (Nat.le_of_ble_eq_true rfl) ⟨(by show _ ≤ 665722; omega), (by show _ ≤ 7105070; omega)⟩ rfl (Nat.le_of_ble_eq_true rfl) rfl rfl (fun _ _ h => h.elim) ?_
  rintro _ _ ⟨rfl, hw50⟩
  refine j_w w2 hw50 ?_
  refine j_iload dL_law_1498 rfl ?_
  refine j_icmp_eq (tgt := 1505) dL_law_1500 (by decide) (fun c_1500_65 => ?_) (fun c_1500_65 => ?_)
  · refine j_iload dL_law_1505 rfl ?_
    refine j_if_ne (tgt := 1523) dL_law_1507 (by decide) (fun c_1507_67 => ?_) (fun c_1507_67 => ?_)
    · refine j_goto (tgt := 3514) dL_law_1523 (by decide) ?_
      refine j_widen (kc' := kc + 200) (ks' := ks + 6000) (by omega) (by omega) ?_
      exact j_lo2 (KK _ _ _ LT2) (z_q1 rfl (z_q1 rfl (z_q1 rfl (z_q1 rfl (z_q1 rfl z_q0)))))
    · refine j_aload_n dL_law_1510 rfl rfl ?_
      obtain ⟨-, -, ⟨ov51, og51⟩, -⟩ := id LT2
      refine j_getf dL_law_1511 fL_13 og51 rfl ?_
      refine j_iload dL_law_1514 rfl ?_
      refine j_i2l dL_law_1516 ?_
      refine j_lcmp dL_law_1517 ?_
      refine j_if_eq (tgt := 1523) dL_law_1518 (by decide) (fun c_1518_77 => ?_) (fun c_1518_77 => ?_)
      · refine j_goto (tgt := 3514) dL_law_1523 (by decide) ?_
        refine j_widen (kc' := kc + 200) (ks' := ks + 6000) (by omega) (by omega) ?_
        exact j_lo2 (KK _ _ _ LT2) (z_q1 rfl (z_q1 rfl (z_q1 rfl (z_q1 rfl (z_q1 rfl z_q0)))))
      · exact absurd (q_cmp (by rw [hn1 c_1507_67, hr2 c_1507_67])) c_1518_77
  · exact absurd ht50 c_1500_65
set_option maxRecDepth 100000 in
set_option maxHeartbeats 4000000 in
theorem lc_16 (hl : l.stackTraces = false) {w : z_W} {x i kc ks : Nat} {S : sp_S} {n : Int64} (LT : z_LX x S S n w) (hi6 : i + 6 ≤ z_sn G) (hsn : z_sn G ≤ 3072) (hkc : kc + 200 ≤ 665722) (hks : ks + 6000 ≤ 7105070) (KK : ∀ (S9 : sp_S) (n9 : Int64) (w9 : z_W), z_LX x S9 S9 n9 w9 → z_J G l mL_law z_SL 3514 (z_lol x i) [] w9 (kc + 200) (ks + 6000)) : z_J G l mL_law z_SL 1526 (z_lol x i) [] w kc ks := by
  show z_J G l mL_law _ 1526 [(0, _), (1, _), (2, _), (3, _), (4, _)] [] _ _ _
  refine j_aload_n dL_law_1526 rfl rfl ?_
  refine j_aload_n dL_law_1527 rfl rfl ?_
  refine j_iload dL_law_1528 rfl ?_
  refine j_iconst (v := 1) dL_law_1530 (by decide) ?_
  refine j_iadd dL_law_1531 ?_
  refine j_top (congrArg Value.int (show nI i + (1 : Int32) = nI (i + 1) from nI_add i 1)) ?_
  refine j_sld dL_law_1532 (by omega) (by omega) ?_
  refine j_aload_n dL_law_1533 rfl rfl ?_
  refine j_iload dL_law_1534 rfl ?_
  refine j_iconst (v := 2) dL_law_1536 (by decide) ?_
  refine j_iadd dL_law_1537 ?_
  refine j_top (congrArg Value.int (show nI i + (2 : Int32) = nI (i + 2) from nI_add i 2)) ?_
  refine j_sld dL_law_1538 (by omega) (by omega) ?_
  refine j_aload_n dL_law_1539 rfl rfl ?_
  refine j_iload dL_law_1540 rfl ?_
  refine j_iconst (v := 3) dL_law_1542 (by decide) ?_
  refine j_iadd dL_law_1543 ?_
  refine j_top (congrArg Value.int (show nI i + (3 : Int32) = nI (i + 3) from nI_add i 3)) ?_
  refine j_sld dL_law_1544 (by omega) (by omega) ?_
  refine j_aload_n dL_law_1545 rfl rfl ?_
  refine j_iload dL_law_1546 rfl ?_
  refine j_iconst (v := 4) dL_law_1548 (by decide) ?_
  refine j_iadd dL_law_1549 ?_
  refine j_top (congrArg Value.int (show nI i + (4 : Int32) = nI (i + 4) from nI_add i 4)) ?_
  refine j_sld dL_law_1550 (by omega) (by omega) ?_
  refine j_aload_n dL_law_1551 rfl rfl ?_
  refine j_callSW dL_law_1552 kL_compute lL_229 stL_compute (lw_compute hl w _ _ _ _ LT (z_sc G (i + 1)) (z_sc G (i + 2)) (z_sc G (i + 3)) (z_sc G (i + 4))) (Nat.le_of_ble_eq_true rfl) ⟨(by show _ ≤ 665722; omega), (by show _ ≤ 7105070; omega)⟩ rfl (Nat.le_of_ble_eq_true rfl) rfl rfl (fun _ _ h => h.elim) ?_
  rintro _ w1 ⟨n1, rfl, LT1, hn1⟩
  refine j_istore (lo' := [(5, _), (0, _), (1, _), (2, _), (3, _), (4, _)]) dL_law_1555 (by decide) rfl ?_
  refine j_aload_n dL_law_1557 rfl rfl ?_
  refine j_aload_n dL_law_1558 rfl rfl ?_
  refine j_iload dL_law_1559 rfl ?_
  refine j_iconst (v := 1) dL_law_1561 (by decide) ?_
  refine j_iadd dL_law_1562 ?_
  refine j_top (congrArg Value.int (show nI i + (1 : Int32) = nI (i + 1) from nI_add i 1)) ?_
  refine j_sld dL_law_1563 (by omega) (by omega) ?_
  refine j_aload_n dL_law_1564 rfl rfl ?_
  refine j_iload dL_law_1565 rfl ?_
  refine j_iconst (v := 2) dL_law_1567 (by decide) ?_
  refine j_iadd dL_law_1568 ?_
  refine j_top (congrArg Value.int (show nI i + (2 : Int32) = nI (i + 2) from nI_add i 2)) ?_
  refine j_sld dL_law_1569 (by omega) (by omega) ?_
  refine j_aload_n dL_law_1570 rfl rfl ?_
  refine j_iload dL_law_1571 rfl ?_
  refine j_iconst (v := 3) dL_law_1573 (by decide) ?_
  refine j_iadd dL_law_1574 ?_
  refine j_top (congrArg Value.int (show nI i + (3 : Int32) = nI (i + 3) from nI_add i 3)) ?_
  refine j_sld dL_law_1575 (by omega) (by omega) ?_
  refine j_aload_n dL_law_1576 rfl rfl ?_
  refine j_iload dL_law_1577 rfl ?_
  refine j_iconst (v := 4) dL_law_1579 (by decide) ?_
  refine j_iadd dL_law_1580 ?_
  refine j_top (congrArg Value.int (show nI i + (4 : Int32) = nI (i + 4) from nI_add i 4)) ?_
  refine j_sld dL_law_1581 (by omega) (by omega) ?_
  obtain ⟨-, ⟨s52, hs52, -⟩, -⟩ := id LT1
  refine j_callV (q := (RX11, TX11, 8)) dL_law_1582 kX11_compute lL_231 inX11_compute seX11_compute hs52.m rfl (kx_compute hl w1 LT1 (z_sc G (i + 1)) (z_sc G (i + 2)) (z_sc G (i + 3)) (z_sc G (i + 4))) (Nat.le_of_ble_eq_true rfl) ⟨(by show _ ≤ 665722; omega), (by show _ ≤ 7105070; omega)⟩ rfl (Nat.le_of_ble_eq_true rfl) rfl rfl (fun _ _ h => h.elim) ?_
  rintro _ w2 ⟨r2, rfl, LT2, th2, hr2⟩
  refine j_istore (lo' := [(6, _), (5, _), (0, _), (1, _), (2, _), (3, _), (4, _)]) dL_law_1585 (by decide) rfl ?_
  refine j_aload_n dL_law_1587 rfl rfl ?_
  obtain ⟨st53, hst53, ht53⟩ := th2
  refine j_callV (q := (RX11, TX11, 8)) dL_law_1588 kX11_thrown lL_176 inX11_thrown seX11_thrown hst53.m rfl (cm_thrown hl w2 _ hst53) (Nat.le_of_ble_eq_true rfl) ⟨(by show _ ≤ 665722; omega), (by show _ ≤ 7105070; omega)⟩ rfl (Nat.le_of_ble_eq_true rfl) rfl rfl (fun _ _ h => h.elim) ?_
  rintro _ _ ⟨rfl, hw53⟩
  refine j_w w2 hw53 ?_
  refine j_iload dL_law_1591 rfl ?_
  refine j_icmp_eq (tgt := 1598) dL_law_1593 (by decide) (fun c_1593_65 => ?_) (fun c_1593_65 => ?_)
  · refine j_iload dL_law_1598 rfl ?_
    refine j_if_ne (tgt := 1616) dL_law_1600 (by decide) (fun c_1600_67 => ?_) (fun c_1600_67 => ?_)
    · refine j_goto (tgt := 3514) dL_law_1616 (by decide) ?_
      refine j_widen (kc' := kc + 200) (ks' := ks + 6000) (by omega) (by omega) ?_
      exact j_lo2 (KK _ _ _ LT2) (z_q1 rfl (z_q1 rfl (z_q1 rfl (z_q1 rfl (z_q1 rfl z_q0)))))
    · refine j_aload_n dL_law_1603 rfl rfl ?_
      obtain ⟨-, -, ⟨ov54, og54⟩, -⟩ := id LT2
      refine j_getf dL_law_1604 fL_13 og54 rfl ?_
      refine j_iload dL_law_1607 rfl ?_
      refine j_i2l dL_law_1609 ?_
      refine j_lcmp dL_law_1610 ?_
      refine j_if_eq (tgt := 1616) dL_law_1611 (by decide) (fun c_1611_77 => ?_) (fun c_1611_77 => ?_)
      · refine j_goto (tgt := 3514) dL_law_1616 (by decide) ?_
        refine j_widen (kc' := kc + 200) (ks' := ks + 6000) (by omega) (by omega) ?_
        exact j_lo2 (KK _ _ _ LT2) (z_q1 rfl (z_q1 rfl (z_q1 rfl (z_q1 rfl (z_q1 rfl z_q0)))))
      · exact absurd (q_cmp (by rw [hn1 c_1600_67, hr2 c_1600_67])) c_1611_77
  · exact absurd ht53 c_1593_65
set_option maxRecDepth 100000 in
set_option maxHeartbeats 4000000 in
theorem lc_17 (hl : l.stackTraces = false) {w : z_W} {x i kc ks : Nat} {S : sp_S} {n : Int64} (LT : z_LX x S S n w) (hi6 : i + 6 ≤ z_sn G) (hsn : z_sn G ≤ 3072) (hkc : kc + 200 ≤ 665722) (hks : ks + 6000 ≤ 7105070) (KK : ∀ (S9 : sp_S) (n9 : Int64) (w9 : z_W), z_LX x S9 S9 n9 w9 → z_J G l mL_law z_SL 3514 (z_lol x i) [] w9 (kc + 200) (ks + 6000)) : z_J G l mL_law z_SL 1619 (z_lol x i) [] w kc ks := by
  show z_J G l mL_law _ 1619 [(0, _), (1, _), (2, _), (3, _), (4, _)] [] _ _ _
  refine j_aload_n dL_law_1619 rfl rfl ?_
  refine j_aload_n dL_law_1620 rfl rfl ?_
  refine j_iload dL_law_1621 rfl ?_
  refine j_iconst (v := 1) dL_law_1623 (by decide) ?_
  refine j_iadd dL_law_1624 ?_
  refine j_top (congrArg Value.int (show nI i + (1 : Int32) = nI (i + 1) from nI_add i 1)) ?_
  refine j_sld dL_law_1625 (by omega) (by omega) ?_
  refine j_aload_n dL_law_1626 rfl rfl ?_
  refine j_iload dL_law_1627 rfl ?_
  refine j_iconst (v := 2) dL_law_1629 (by decide) ?_
  refine j_iadd dL_law_1630 ?_
  refine j_top (congrArg Value.int (show nI i + (2 : Int32) = nI (i + 2) from nI_add i 2)) ?_
  refine j_sld dL_law_1631 (by omega) (by omega) ?_
  refine j_aload_n dL_law_1632 rfl rfl ?_
  refine j_iload dL_law_1633 rfl ?_
  refine j_iconst (v := 3) dL_law_1635 (by decide) ?_
  refine j_iadd dL_law_1636 ?_
  refine j_top (congrArg Value.int (show nI i + (3 : Int32) = nI (i + 3) from nI_add i 3)) ?_
  refine j_sld dL_law_1637 (by omega) (by omega) ?_
  refine j_aload_n dL_law_1638 rfl rfl ?_
  refine j_iload dL_law_1639 rfl ?_
  refine j_iconst (v := 4) dL_law_1641 (by decide) ?_
  refine j_iadd dL_law_1642 ?_
  refine j_top (congrArg Value.int (show nI i + (4 : Int32) = nI (i + 4) from nI_add i 4)) ?_
  refine j_sld dL_law_1643 (by omega) (by omega) ?_
  refine j_aload_n dL_law_1644 rfl rfl ?_
  refine j_callSW dL_law_1645 kL_merge lL_232 stL_merge (lw_merge hl w _ _ _ _ LT (z_sc G (i + 1)) (z_sc G (i + 2)) (z_sc G (i + 3)) (z_sc G (i + 4))) (Nat.le_of_ble_eq_true rfl) ⟨(by show _ ≤ 665722; omega), (by show _ ≤ 7105070; omega)⟩ rfl (Nat.le_of_ble_eq_true rfl) rfl rfl (fun _ _ h => h.elim) ?_
  rintro _ w1 ⟨n1, rfl, LT1, hn1⟩
  refine j_istore (lo' := [(5, _), (0, _), (1, _), (2, _), (3, _), (4, _)]) dL_law_1648 (by decide) rfl ?_
  refine j_aload_n dL_law_1650 rfl rfl ?_
  refine j_aload_n dL_law_1651 rfl rfl ?_
  refine j_iload dL_law_1652 rfl ?_
  refine j_iconst (v := 1) dL_law_1654 (by decide) ?_
  refine j_iadd dL_law_1655 ?_
  refine j_top (congrArg Value.int (show nI i + (1 : Int32) = nI (i + 1) from nI_add i 1)) ?_
  refine j_sld dL_law_1656 (by omega) (by omega) ?_
  refine j_aload_n dL_law_1657 rfl rfl ?_
  refine j_iload dL_law_1658 rfl ?_
  refine j_iconst (v := 2) dL_law_1660 (by decide) ?_
  refine j_iadd dL_law_1661 ?_
  refine j_top (congrArg Value.int (show nI i + (2 : Int32) = nI (i + 2) from nI_add i 2)) ?_
  refine j_sld dL_law_1662 (by omega) (by omega) ?_
  refine j_aload_n dL_law_1663 rfl rfl ?_
  refine j_iload dL_law_1664 rfl ?_
  refine j_iconst (v := 3) dL_law_1666 (by decide) ?_
  refine j_iadd dL_law_1667 ?_
  refine j_top (congrArg Value.int (show nI i + (3 : Int32) = nI (i + 3) from nI_add i 3)) ?_
  refine j_sld dL_law_1668 (by omega) (by omega) ?_
  refine j_aload_n dL_law_1669 rfl rfl ?_
  refine j_iload dL_law_1670 rfl ?_
  refine j_iconst (v := 4) dL_law_1672 (by decide) ?_
  refine j_iadd dL_law_1673 ?_
  refine j_top (congrArg Value.int (show nI i + (4 : Int32) = nI (i + 4) from nI_add i 4)) ?_
  refine j_sld dL_law_1674 (by omega) (by omega) ?_
  obtain ⟨-, ⟨s55, hs55, -⟩, -⟩ := id LT1
  refine j_callV (q := (RX11, TX11, 8)) dL_law_1675 kX11_merge lL_234 inX11_merge seX11_merge hs55.m rfl (kx_merge hl w1 LT1 (z_sc G (i + 1)) (z_sc G (i + 2)) (z_sc G (i + 3)) (z_sc G (i + 4))) (Nat.le_of_ble_eq_true rfl) ⟨(by show _ ≤ 665722; omega), (by show _ ≤ 7105070; omega)⟩ rfl (Nat.le_of_ble_eq_true rfl) rfl rfl (fun _ _ h => h.elim) ?_
  rintro _ w2 ⟨r2, rfl, LT2, th2, hr2⟩
  refine j_istore (lo' := [(6, _), (5, _), (0, _), (1, _), (2, _), (3, _), (4, _)]) dL_law_1678 (by decide) rfl ?_
  refine j_aload_n dL_law_1680 rfl rfl ?_
  obtain ⟨st56, hst56, ht56⟩ := th2
  refine j_callV (q := (RX11, TX11, 8)) dL_law_1681 kX11_thrown lL_176 inX11_thrown seX11_thrown hst56.m rfl (cm_thrown hl w2 _ hst56) (Nat.le_of_ble_eq_true rfl) ⟨(by show _ ≤ 665722; omega), (by show _ ≤ 7105070; omega)⟩ rfl (Nat.le_of_ble_eq_true rfl) rfl rfl (fun _ _ h => h.elim) ?_
  rintro _ _ ⟨rfl, hw56⟩
  refine j_w w2 hw56 ?_
  refine j_iload dL_law_1684 rfl ?_
  refine j_icmp_eq (tgt := 1691) dL_law_1686 (by decide) (fun c_1686_65 => ?_) (fun c_1686_65 => ?_)
  · refine j_iload dL_law_1691 rfl ?_
    refine j_if_ne (tgt := 1709) dL_law_1693 (by decide) (fun c_1693_67 => ?_) (fun c_1693_67 => ?_)
    · refine j_goto (tgt := 3514) dL_law_1709 (by decide) ?_
      refine j_widen (kc' := kc + 200) (ks' := ks + 6000) (by omega) (by omega) ?_
      exact j_lo2 (KK _ _ _ LT2) (z_q1 rfl (z_q1 rfl (z_q1 rfl (z_q1 rfl (z_q1 rfl z_q0)))))
    · refine j_aload_n dL_law_1696 rfl rfl ?_
      obtain ⟨-, -, ⟨ov57, og57⟩, -⟩ := id LT2
      refine j_getf dL_law_1697 fL_13 og57 rfl ?_
      refine j_iload dL_law_1700 rfl ?_
      refine j_i2l dL_law_1702 ?_
      refine j_lcmp dL_law_1703 ?_
      refine j_if_eq (tgt := 1709) dL_law_1704 (by decide) (fun c_1704_77 => ?_) (fun c_1704_77 => ?_)
      · refine j_goto (tgt := 3514) dL_law_1709 (by decide) ?_
        refine j_widen (kc' := kc + 200) (ks' := ks + 6000) (by omega) (by omega) ?_
        exact j_lo2 (KK _ _ _ LT2) (z_q1 rfl (z_q1 rfl (z_q1 rfl (z_q1 rfl (z_q1 rfl z_q0)))))
      · exact absurd (q_cmp (by rw [hn1 c_1693_67, hr2 c_1693_67])) c_1704_77
  · exact absurd ht56 c_1686_65
set_option maxRecDepth 100000 in
set_option maxHeartbeats 4000000 in
theorem lc_18 (hl : l.stackTraces = false) {w : z_W} {x i kc ks : Nat} {S : sp_S} {n : Int64} (LT : z_LX x S S n w) (hi6 : i + 6 ≤ z_sn G) (hsn : z_sn G ≤ 3072) (hkc : kc + 200 ≤ 665722) (hks : ks + 6000 ≤ 7105070) (KK : ∀ (S9 : sp_S) (n9 : Int64) (w9 : z_W), z_LX x S9 S9 n9 w9 → z_J G l mL_law z_SL 3514 (z_lol x i) [] w9 (kc + 200) (ks + 6000)) : z_J G l mL_law z_SL 1712 (z_lol x i) [] w kc ks := by
  show z_J G l mL_law _ 1712 [(0, _), (1, _), (2, _), (3, _), (4, _)] [] _ _ _
  refine j_aload_n dL_law_1712 rfl rfl ?_
  refine j_aload_n dL_law_1713 rfl rfl ?_
  refine j_iload dL_law_1714 rfl ?_
  refine j_iconst (v := 1) dL_law_1716 (by decide) ?_
  refine j_iadd dL_law_1717 ?_
  refine j_top (congrArg Value.int (show nI i + (1 : Int32) = nI (i + 1) from nI_add i 1)) ?_
  refine j_sld dL_law_1718 (by omega) (by omega) ?_
  refine j_aload_n dL_law_1719 rfl rfl ?_
  refine j_iload dL_law_1720 rfl ?_
  refine j_iconst (v := 2) dL_law_1722 (by decide) ?_
  refine j_iadd dL_law_1723 ?_
  refine j_top (congrArg Value.int (show nI i + (2 : Int32) = nI (i + 2) from nI_add i 2)) ?_
  refine j_sld dL_law_1724 (by omega) (by omega) ?_
  refine j_aload_n dL_law_1725 rfl rfl ?_
  refine j_callSW dL_law_1726 kL_hearTable lL_235 stL_hearTable (lw_hearTable hl w _ _ _ _ LT (z_sc G (i + 1)) (z_sc G (i + 2))) (Nat.le_of_ble_eq_true rfl) ⟨(by show _ ≤ 665722; omega), (by show _ ≤ 7105070; omega)⟩ rfl (Nat.le_of_ble_eq_true rfl) rfl rfl (fun _ _ h => h.elim) ?_
  rintro _ w1 ⟨n1, rfl, LT1, hn1⟩
  refine j_istore (lo' := [(5, _), (0, _), (1, _), (2, _), (3, _), (4, _)]) dL_law_1729 (by decide) rfl ?_
  refine j_aload_n dL_law_1731 rfl rfl ?_
  refine j_aload_n dL_law_1732 rfl rfl ?_
  refine j_iload dL_law_1733 rfl ?_
  refine j_iconst (v := 1) dL_law_1735 (by decide) ?_
  refine j_iadd dL_law_1736 ?_
  refine j_top (congrArg Value.int (show nI i + (1 : Int32) = nI (i + 1) from nI_add i 1)) ?_
  refine j_sld dL_law_1737 (by omega) (by omega) ?_
  refine j_aload_n dL_law_1738 rfl rfl ?_
  refine j_iload dL_law_1739 rfl ?_
  refine j_iconst (v := 2) dL_law_1741 (by decide) ?_
  refine j_iadd dL_law_1742 ?_
  refine j_top (congrArg Value.int (show nI i + (2 : Int32) = nI (i + 2) from nI_add i 2)) ?_
  refine j_sld dL_law_1743 (by omega) (by omega) ?_
  obtain ⟨-, ⟨s58, hs58, -⟩, -⟩ := id LT1
  refine j_callV (q := (RX11, TX11, 8)) dL_law_1744 kX11_hearTable lL_237 inX11_hearTable seX11_hearTable hs58.m rfl (kx_hearTable hl w1 LT1 (z_sc G (i + 1)) (z_sc G (i + 2))) (Nat.le_of_ble_eq_true rfl) ⟨(by show _ ≤ 665722; omega), (by show _ ≤ 7105070; omega)⟩ rfl (Nat.le_of_ble_eq_true rfl) rfl rfl (fun _ _ h => h.elim) ?_
  rintro _ w2 ⟨r2, rfl, LT2, th2, hr2⟩
  refine j_istore (lo' := [(6, _), (5, _), (0, _), (1, _), (2, _), (3, _), (4, _)]) dL_law_1747 (by decide) rfl ?_
  refine j_aload_n dL_law_1749 rfl rfl ?_
  obtain ⟨st59, hst59, ht59⟩ := th2
  refine j_callV (q := (RX11, TX11, 8)) dL_law_1750 kX11_thrown lL_176 inX11_thrown seX11_thrown hst59.m rfl (cm_thrown hl w2 _ hst59) (Nat.le_of_ble_eq_true rfl) ⟨(by show _ ≤ 665722; omega), (by show _ ≤ 7105070; omega)⟩ rfl (Nat.le_of_ble_eq_true rfl) rfl rfl (fun _ _ h => h.elim) ?_
  rintro _ _ ⟨rfl, hw59⟩
  refine j_w w2 hw59 ?_
  refine j_iload dL_law_1753 rfl ?_
  refine j_icmp_eq (tgt := 1760) dL_law_1755 (by decide) (fun c_1755_41 => ?_) (fun c_1755_41 => ?_)
  · refine j_iload dL_law_1760 rfl ?_
    refine j_if_ne (tgt := 1778) dL_law_1762 (by decide) (fun c_1762_43 => ?_) (fun c_1762_43 => ?_)
    · refine j_goto (tgt := 3514) dL_law_1778 (by decide) ?_
      refine j_widen (kc' := kc + 200) (ks' := ks + 6000) (by omega) (by omega) ?_
      exact j_lo2 (KK _ _ _ LT2) (z_q1 rfl (z_q1 rfl (z_q1 rfl (z_q1 rfl (z_q1 rfl z_q0)))))
    · refine j_aload_n dL_law_1765 rfl rfl ?_
      obtain ⟨-, -, ⟨ov60, og60⟩, -⟩ := id LT2
      refine j_getf dL_law_1766 fL_13 og60 rfl ?_
      refine j_iload dL_law_1769 rfl ?_
      refine j_i2l dL_law_1771 ?_
      refine j_lcmp dL_law_1772 ?_
      refine j_if_eq (tgt := 1778) dL_law_1773 (by decide) (fun c_1773_53 => ?_) (fun c_1773_53 => ?_)
      · refine j_goto (tgt := 3514) dL_law_1778 (by decide) ?_
        refine j_widen (kc' := kc + 200) (ks' := ks + 6000) (by omega) (by omega) ?_
        exact j_lo2 (KK _ _ _ LT2) (z_q1 rfl (z_q1 rfl (z_q1 rfl (z_q1 rfl (z_q1 rfl z_q0)))))
      · exact absurd (q_cmp (by rw [hn1 c_1762_43, hr2 c_1762_43])) c_1773_53
  · exact absurd ht59 c_1755_41
set_option maxRecDepth 100000 in
set_option maxHeartbeats 4000000 in
theorem lc_19 (hl : l.stackTraces = false) {w : z_W} {x i kc ks : Nat} {S : sp_S} {n : Int64} (LT : z_LX x S S n w) (hi6 : i + 6 ≤ z_sn G) (hsn : z_sn G ≤ 3072) (hkc : kc + 200 ≤ 665722) (hks : ks + 6000 ≤ 7105070) (KK : ∀ (S9 : sp_S) (n9 : Int64) (w9 : z_W), z_LX x S9 S9 n9 w9 → z_J G l mL_law z_SL 3514 (z_lol x i) [] w9 (kc + 200) (ks + 6000)) : z_J G l mL_law z_SL 1781 (z_lol x i) [] w kc ks := by
  show z_J G l mL_law _ 1781 [(0, _), (1, _), (2, _), (3, _), (4, _)] [] _ _ _
  refine j_aload_n dL_law_1781 rfl rfl ?_
  refine j_aload_n dL_law_1782 rfl rfl ?_
  refine j_iload dL_law_1783 rfl ?_
  refine j_iconst (v := 1) dL_law_1785 (by decide) ?_
  refine j_iadd dL_law_1786 ?_
  refine j_top (congrArg Value.int (show nI i + (1 : Int32) = nI (i + 1) from nI_add i 1)) ?_
  refine j_sld dL_law_1787 (by omega) (by omega) ?_
  refine j_aload_n dL_law_1788 rfl rfl ?_
  refine j_iload dL_law_1789 rfl ?_
  refine j_iconst (v := 2) dL_law_1791 (by decide) ?_
  refine j_iadd dL_law_1792 ?_
  refine j_top (congrArg Value.int (show nI i + (2 : Int32) = nI (i + 2) from nI_add i 2)) ?_
  refine j_sld dL_law_1793 (by omega) (by omega) ?_
  refine j_aload_n dL_law_1794 rfl rfl ?_
  refine j_iload dL_law_1795 rfl ?_
  refine j_iconst (v := 3) dL_law_1797 (by decide) ?_
  refine j_iadd dL_law_1798 ?_
  refine j_top (congrArg Value.int (show nI i + (3 : Int32) = nI (i + 3) from nI_add i 3)) ?_
  refine j_sld dL_law_1799 (by omega) (by omega) ?_
  refine j_aload_n dL_law_1800 rfl rfl ?_
  refine j_callSW dL_law_1801 kL_replaceTable lL_238 stL_replaceTable (lw_replaceTable hl w _ _ _ _ LT (z_sc G (i + 1)) (z_sc G (i + 2)) (z_sc G (i + 3))) (Nat.le_of_ble_eq_true rfl) ⟨(by show _ ≤ 665722; omega), (by show _ ≤ 7105070; omega)⟩ rfl (Nat.le_of_ble_eq_true rfl) rfl rfl (fun _ _ h => h.elim) ?_
  rintro _ w1 ⟨n1, rfl, LT1, hn1⟩
  refine j_istore (lo' := [(5, _), (0, _), (1, _), (2, _), (3, _), (4, _)]) dL_law_1804 (by decide) rfl ?_
  refine j_aload_n dL_law_1806 rfl rfl ?_
  refine j_aload_n dL_law_1807 rfl rfl ?_
  refine j_iload dL_law_1808 rfl ?_
  refine j_iconst (v := 1) dL_law_1810 (by decide) ?_
  refine j_iadd dL_law_1811 ?_
  refine j_top (congrArg Value.int (show nI i + (1 : Int32) = nI (i + 1) from nI_add i 1)) ?_
  refine j_sld dL_law_1812 (by omega) (by omega) ?_
  refine j_aload_n dL_law_1813 rfl rfl ?_
  refine j_iload dL_law_1814 rfl ?_
  refine j_iconst (v := 2) dL_law_1816 (by decide) ?_
  refine j_iadd dL_law_1817 ?_
  refine j_top (congrArg Value.int (show nI i + (2 : Int32) = nI (i + 2) from nI_add i 2)) ?_
  refine j_sld dL_law_1818 (by omega) (by omega) ?_
  refine j_aload_n dL_law_1819 rfl rfl ?_
  refine j_iload dL_law_1820 rfl ?_
  refine j_iconst (v := 3) dL_law_1822 (by decide) ?_
  refine j_iadd dL_law_1823 ?_
  refine j_top (congrArg Value.int (show nI i + (3 : Int32) = nI (i + 3) from nI_add i 3)) ?_
  refine j_sld dL_law_1824 (by omega) (by omega) ?_
  obtain ⟨-, ⟨s61, hs61, -⟩, -⟩ := id LT1
  refine j_callV (q := (RX11, TX11, 8)) dL_law_1825 kX11_replaceTable lL_240 inX11_replaceTable seX11_replaceTable hs61.m rfl (kx_replaceTable hl w1 LT1 (z_sc G (i + 1)) (z_sc G (i + 2)) (z_sc G (i + 3))) (Nat.le_of_ble_eq_true rfl) ⟨(by show _ ≤ 665722; omega), (by show _ ≤ 7105070; omega)⟩ rfl (Nat.le_of_ble_eq_true rfl) rfl rfl (fun _ _ h => h.elim) ?_
  rintro _ w2 ⟨r2, rfl, LT2, th2, hr2⟩
  refine j_istore (lo' := [(6, _), (5, _), (0, _), (1, _), (2, _), (3, _), (4, _)]) dL_law_1828 (by decide) rfl ?_
  refine j_aload_n dL_law_1830 rfl rfl ?_
  obtain ⟨st62, hst62, ht62⟩ := th2
  refine j_callV (q := (RX11, TX11, 8)) dL_law_1831 kX11_thrown lL_176 inX11_thrown seX11_thrown hst62.m rfl (cm_thrown hl w2 _ hst62) (Nat.le_of_ble_eq_true rfl) ⟨(by show _ ≤ 665722; omega), (by show _ ≤ 7105070; omega)⟩ rfl (Nat.le_of_ble_eq_true rfl) rfl rfl (fun _ _ h => h.elim) ?_
  rintro _ _ ⟨rfl, hw62⟩
  refine j_w w2 hw62 ?_
  refine j_iload dL_law_1834 rfl ?_
  refine j_icmp_eq (tgt := 1841) dL_law_1836 (by decide) (fun c_1836_53 => ?_) (fun c_1836_53 => ?_)
  · refine j_iload dL_law_1841 rfl ?_
    refine j_if_ne (tgt := 1859) dL_law_1843 (by decide) (fun c_1843_55 => ?_) (fun c_1843_55 => ?_)
    · refine j_goto (tgt := 3514) dL_law_1859 (by decide) ?_
      refine j_widen (kc' := kc + 200) (ks' := ks + 6000) (by omega) (by omega) ?_
      exact j_lo2 (KK _ _ _ LT2) (z_q1 rfl (z_q1 rfl (z_q1 rfl (z_q1 rfl (z_q1 rfl z_q0)))))
    · refine j_aload_n dL_law_1846 rfl rfl ?_
      obtain ⟨-, -, ⟨ov63, og63⟩, -⟩ := id LT2
      refine j_getf dL_law_1847 fL_13 og63 rfl ?_
      refine j_iload dL_law_1850 rfl ?_
      refine j_i2l dL_law_1852 ?_
      refine j_lcmp dL_law_1853 ?_
      refine j_if_eq (tgt := 1859) dL_law_1854 (by decide) (fun c_1854_65 => ?_) (fun c_1854_65 => ?_)
      · refine j_goto (tgt := 3514) dL_law_1859 (by decide) ?_
        refine j_widen (kc' := kc + 200) (ks' := ks + 6000) (by omega) (by omega) ?_
        exact j_lo2 (KK _ _ _ LT2) (z_q1 rfl (z_q1 rfl (z_q1 rfl (z_q1 rfl (z_q1 rfl z_q0)))))
      · exact absurd (q_cmp (by rw [hn1 c_1843_55, hr2 c_1843_55])) c_1854_65
  · exact absurd ht62 c_1836_53
set_option maxRecDepth 100000 in
set_option maxHeartbeats 4000000 in
theorem lc_20 (hl : l.stackTraces = false) {w : z_W} {x i kc ks : Nat} {S : sp_S} {n : Int64} (LT : z_LX x S S n w) (hi6 : i + 6 ≤ z_sn G) (hsn : z_sn G ≤ 3072) (hkc : kc + 200 ≤ 665722) (hks : ks + 6000 ≤ 7105070) (KK : ∀ (S9 : sp_S) (n9 : Int64) (w9 : z_W), z_LX x S9 S9 n9 w9 → z_J G l mL_law z_SL 3514 (z_lol x i) [] w9 (kc + 200) (ks + 6000)) : z_J G l mL_law z_SL 1862 (z_lol x i) [] w kc ks := by
  show z_J G l mL_law _ 1862 [(0, _), (1, _), (2, _), (3, _), (4, _)] [] _ _ _
  refine j_aload_n dL_law_1862 rfl rfl ?_
  refine j_aload_n dL_law_1863 rfl rfl ?_
  refine j_iload dL_law_1864 rfl ?_
  refine j_iconst (v := 1) dL_law_1866 (by decide) ?_
  refine j_iadd dL_law_1867 ?_
  refine j_top (congrArg Value.int (show nI i + (1 : Int32) = nI (i + 1) from nI_add i 1)) ?_
  refine j_sld dL_law_1868 (by omega) (by omega) ?_
  refine j_aload_n dL_law_1869 rfl rfl ?_
  refine j_callSW dL_law_1870 kL_clear lL_241 stL_clear (lw_clear hl w _ _ _ _ LT (z_sc G (i + 1))) (Nat.le_of_ble_eq_true rfl) ⟨(by show _ ≤ 665722; omega), (by show _ ≤ 7105070; omega)⟩ rfl (Nat.le_of_ble_eq_true rfl) rfl rfl (fun _ _ h => h.elim) ?_
  rintro _ w1 ⟨n1, rfl, LT1, hn1⟩
  refine j_istore (lo' := [(5, _), (0, _), (1, _), (2, _), (3, _), (4, _)]) dL_law_1873 (by decide) rfl ?_
  refine j_aload_n dL_law_1875 rfl rfl ?_
  refine j_aload_n dL_law_1876 rfl rfl ?_
  refine j_iload dL_law_1877 rfl ?_
  refine j_iconst (v := 1) dL_law_1879 (by decide) ?_
  refine j_iadd dL_law_1880 ?_
  refine j_top (congrArg Value.int (show nI i + (1 : Int32) = nI (i + 1) from nI_add i 1)) ?_
  refine j_sld dL_law_1881 (by omega) (by omega) ?_
  obtain ⟨-, ⟨s64, hs64, -⟩, -⟩ := id LT1
  refine j_callV (q := (RX11, TX11, 8)) dL_law_1882 kX11_clear lL_243 inX11_clear seX11_clear hs64.m rfl (kx_clear hl w1 LT1 (z_sc G (i + 1))) (Nat.le_of_ble_eq_true rfl) ⟨(by show _ ≤ 665722; omega), (by show _ ≤ 7105070; omega)⟩ rfl (Nat.le_of_ble_eq_true rfl) rfl rfl (fun _ _ h => h.elim) ?_
  rintro _ w2 ⟨r2, rfl, LT2, th2, hr2⟩
  refine j_istore (lo' := [(6, _), (5, _), (0, _), (1, _), (2, _), (3, _), (4, _)]) dL_law_1885 (by decide) rfl ?_
  refine j_aload_n dL_law_1887 rfl rfl ?_
  obtain ⟨st65, hst65, ht65⟩ := th2
  refine j_callV (q := (RX11, TX11, 8)) dL_law_1888 kX11_thrown lL_176 inX11_thrown seX11_thrown hst65.m rfl (cm_thrown hl w2 _ hst65) (Nat.le_of_ble_eq_true rfl) ⟨(by show _ ≤ 665722; omega), (by show _ ≤ 7105070; omega)⟩ rfl (Nat.le_of_ble_eq_true rfl) rfl rfl (fun _ _ h => h.elim) ?_
  rintro _ _ ⟨rfl, hw65⟩
  refine j_w w2 hw65 ?_
  refine j_iload dL_law_1891 rfl ?_
  refine j_icmp_eq (tgt := 1898) dL_law_1893 (by decide) (fun c_1893_29 => ?_) (fun c_1893_29 => ?_)
  · refine j_iload dL_law_1898 rfl ?_
    refine j_if_ne (tgt := 1916) dL_law_1900 (by decide) (fun c_1900_31 => ?_) (fun c_1900_31 => ?_)
    · refine j_goto (tgt := 3514) dL_law_1916 (by decide) ?_
      refine j_widen (kc' := kc + 200) (ks' := ks + 6000) (by omega) (by omega) ?_
      exact j_lo2 (KK _ _ _ LT2) (z_q1 rfl (z_q1 rfl (z_q1 rfl (z_q1 rfl (z_q1 rfl z_q0)))))
    · refine j_aload_n dL_law_1903 rfl rfl ?_
      obtain ⟨-, -, ⟨ov66, og66⟩, -⟩ := id LT2
      refine j_getf dL_law_1904 fL_13 og66 rfl ?_
      refine j_iload dL_law_1907 rfl ?_
      refine j_i2l dL_law_1909 ?_
      refine j_lcmp dL_law_1910 ?_
      refine j_if_eq (tgt := 1916) dL_law_1911 (by decide) (fun c_1911_41 => ?_) (fun c_1911_41 => ?_)
      · refine j_goto (tgt := 3514) dL_law_1916 (by decide) ?_
        refine j_widen (kc' := kc + 200) (ks' := ks + 6000) (by omega) (by omega) ?_
        exact j_lo2 (KK _ _ _ LT2) (z_q1 rfl (z_q1 rfl (z_q1 rfl (z_q1 rfl (z_q1 rfl z_q0)))))
      · exact absurd (q_cmp (by rw [hn1 c_1900_31, hr2 c_1900_31])) c_1911_41
  · exact absurd ht65 c_1893_29
set_option maxRecDepth 100000 in
set_option maxHeartbeats 4000000 in
theorem lc_21 (hl : l.stackTraces = false) {w : z_W} {x i kc ks : Nat} {S : sp_S} {n : Int64} (LT : z_LX x S S n w) (hi6 : i + 6 ≤ z_sn G) (hsn : z_sn G ≤ 3072) (hkc : kc + 200 ≤ 665722) (hks : ks + 6000 ≤ 7105070) (KK : ∀ (S9 : sp_S) (n9 : Int64) (w9 : z_W), z_LX x S9 S9 n9 w9 → z_J G l mL_law z_SL 3514 (z_lol x i) [] w9 (kc + 200) (ks + 6000)) : z_J G l mL_law z_SL 1919 (z_lol x i) [] w kc ks := by
  show z_J G l mL_law _ 1919 [(0, _), (1, _), (2, _), (3, _), (4, _)] [] _ _ _
  refine j_aload_n dL_law_1919 rfl rfl ?_
  refine j_aload_n dL_law_1920 rfl rfl ?_
  refine j_iload dL_law_1921 rfl ?_
  refine j_iconst (v := 1) dL_law_1923 (by decide) ?_
  refine j_iadd dL_law_1924 ?_
  refine j_top (congrArg Value.int (show nI i + (1 : Int32) = nI (i + 1) from nI_add i 1)) ?_
  refine j_sld dL_law_1925 (by omega) (by omega) ?_
  refine j_aload_n dL_law_1926 rfl rfl ?_
  refine j_iload dL_law_1927 rfl ?_
  refine j_iconst (v := 2) dL_law_1929 (by decide) ?_
  refine j_iadd dL_law_1930 ?_
  refine j_top (congrArg Value.int (show nI i + (2 : Int32) = nI (i + 2) from nI_add i 2)) ?_
  refine j_sld dL_law_1931 (by omega) (by omega) ?_
  refine j_aload_n dL_law_1932 rfl rfl ?_
  refine j_iload dL_law_1933 rfl ?_
  refine j_iconst (v := 3) dL_law_1935 (by decide) ?_
  refine j_iadd dL_law_1936 ?_
  refine j_top (congrArg Value.int (show nI i + (3 : Int32) = nI (i + 3) from nI_add i 3)) ?_
  refine j_sld dL_law_1937 (by omega) (by omega) ?_
  refine j_aload_n dL_law_1938 rfl rfl ?_
  refine j_iload dL_law_1939 rfl ?_
  refine j_iconst (v := 4) dL_law_1941 (by decide) ?_
  refine j_iadd dL_law_1942 ?_
  refine j_top (congrArg Value.int (show nI i + (4 : Int32) = nI (i + 4) from nI_add i 4)) ?_
  refine j_sld dL_law_1943 (by omega) (by omega) ?_
  refine j_aload_n dL_law_1944 rfl rfl ?_
  refine j_callSW dL_law_1945 kL_hearSpan lL_244 stL_hearSpan (lw_hearSpan hl w _ _ _ _ LT (z_sc G (i + 1)) (z_sc G (i + 2)) (z_sc G (i + 3)) (z_sc G (i + 4))) (Nat.le_of_ble_eq_true rfl) ⟨(by show _ ≤ 665722; omega), (by show _ ≤ 7105070; omega)⟩ rfl (Nat.le_of_ble_eq_true rfl) rfl rfl (fun _ _ h => h.elim) ?_
  rintro _ w1 ⟨n1, rfl, LT1, hn1⟩
  refine j_istore (lo' := [(5, _), (0, _), (1, _), (2, _), (3, _), (4, _)]) dL_law_1948 (by decide) rfl ?_
  refine j_aload_n dL_law_1950 rfl rfl ?_
  refine j_aload_n dL_law_1951 rfl rfl ?_
  refine j_iload dL_law_1952 rfl ?_
  refine j_iconst (v := 1) dL_law_1954 (by decide) ?_
  refine j_iadd dL_law_1955 ?_
  refine j_top (congrArg Value.int (show nI i + (1 : Int32) = nI (i + 1) from nI_add i 1)) ?_
  refine j_sld dL_law_1956 (by omega) (by omega) ?_
  refine j_aload_n dL_law_1957 rfl rfl ?_
  refine j_iload dL_law_1958 rfl ?_
  refine j_iconst (v := 2) dL_law_1960 (by decide) ?_
  refine j_iadd dL_law_1961 ?_
  refine j_top (congrArg Value.int (show nI i + (2 : Int32) = nI (i + 2) from nI_add i 2)) ?_
  refine j_sld dL_law_1962 (by omega) (by omega) ?_
  refine j_aload_n dL_law_1963 rfl rfl ?_
  refine j_iload dL_law_1964 rfl ?_
  refine j_iconst (v := 3) dL_law_1966 (by decide) ?_
  refine j_iadd dL_law_1967 ?_
  refine j_top (congrArg Value.int (show nI i + (3 : Int32) = nI (i + 3) from nI_add i 3)) ?_
  refine j_sld dL_law_1968 (by omega) (by omega) ?_
  refine j_aload_n dL_law_1969 rfl rfl ?_
  refine j_iload dL_law_1970 rfl ?_
  refine j_iconst (v := 4) dL_law_1972 (by decide) ?_
  refine j_iadd dL_law_1973 ?_
  refine j_top (congrArg Value.int (show nI i + (4 : Int32) = nI (i + 4) from nI_add i 4)) ?_
  refine j_sld dL_law_1974 (by omega) (by omega) ?_
  obtain ⟨-, ⟨s67, hs67, -⟩, -⟩ := id LT1
  refine j_callV (q := (RX11, TX11, 8)) dL_law_1975 kX11_hearSpan lL_246 inX11_hearSpan seX11_hearSpan hs67.m rfl (kx_hearSpan hl w1 LT1 (z_sc G (i + 1)) (z_sc G (i + 2)) (z_sc G (i + 3)) (z_sc G (i + 4))) (Nat.le_of_ble_eq_true rfl) ⟨(by show _ ≤ 665722; omega), (by show _ ≤ 7105070; omega)⟩ rfl (Nat.le_of_ble_eq_true rfl) rfl rfl (fun _ _ h => h.elim) ?_
  rintro _ w2 ⟨r2, rfl, LT2, th2, hr2⟩
  refine j_istore (lo' := [(6, _), (5, _), (0, _), (1, _), (2, _), (3, _), (4, _)]) dL_law_1978 (by decide) rfl ?_
  refine j_aload_n dL_law_1980 rfl rfl ?_
  obtain ⟨st68, hst68, ht68⟩ := th2
  refine j_callV (q := (RX11, TX11, 8)) dL_law_1981 kX11_thrown lL_176 inX11_thrown seX11_thrown hst68.m rfl (cm_thrown hl w2 _ hst68) (Nat.le_of_ble_eq_true rfl) ⟨(by show _ ≤ 665722; omega), (by show _ ≤ 7105070; omega)⟩ rfl (Nat.le_of_ble_eq_true rfl) rfl rfl (fun _ _ h => h.elim) ?_
  rintro _ _ ⟨rfl, hw68⟩
  refine j_w w2 hw68 ?_
  refine j_iload dL_law_1984 rfl ?_
  refine j_icmp_eq (tgt := 1991) dL_law_1986 (by decide) (fun c_1986_65 => ?_) (fun c_1986_65 => ?_)
  · refine j_iload dL_law_1991 rfl ?_
    refine j_if_ne (tgt := 2009) dL_law_1993 (by decide) (fun c_1993_67 => ?_) (fun c_1993_67 => ?_)
    · refine j_goto (tgt := 3514) dL_law_2009 (by decide) ?_
      refine j_widen (kc' := kc + 200) (ks' := ks + 6000) (by omega) (by omega) ?_
      exact j_lo2 (KK _ _ _ LT2) (z_q1 rfl (z_q1 rfl (z_q1 rfl (z_q1 rfl (z_q1 rfl z_q0)))))
    · refine j_aload_n dL_law_1996 rfl rfl ?_
      obtain ⟨-, -, ⟨ov69, og69⟩, -⟩ := id LT2
      refine j_getf dL_law_1997 fL_13 og69 rfl ?_
      refine j_iload dL_law_2000 rfl ?_
      refine j_i2l dL_law_2002 ?_
      refine j_lcmp dL_law_2003 ?_
      refine j_if_eq (tgt := 2009) dL_law_2004 (by decide) (fun c_2004_77 => ?_) (fun c_2004_77 => ?_)
      · refine j_goto (tgt := 3514) dL_law_2009 (by decide) ?_
        refine j_widen (kc' := kc + 200) (ks' := ks + 6000) (by omega) (by omega) ?_
        exact j_lo2 (KK _ _ _ LT2) (z_q1 rfl (z_q1 rfl (z_q1 rfl (z_q1 rfl (z_q1 rfl z_q0)))))
      · exact absurd (q_cmp (by rw [hn1 c_1993_67, hr2 c_1993_67])) c_2004_77
  · exact absurd ht68 c_1986_65
set_option maxRecDepth 100000 in
set_option maxHeartbeats 4000000 in
theorem lc_22 (hl : l.stackTraces = false) {w : z_W} {x i kc ks : Nat} {S : sp_S} {n : Int64} (LT : z_LX x S S n w) (hi6 : i + 6 ≤ z_sn G) (hsn : z_sn G ≤ 3072) (hkc : kc + 200 ≤ 665722) (hks : ks + 6000 ≤ 7105070) (KK : ∀ (S9 : sp_S) (n9 : Int64) (w9 : z_W), z_LX x S9 S9 n9 w9 → z_J G l mL_law z_SL 3514 (z_lol x i) [] w9 (kc + 200) (ks + 6000)) : z_J G l mL_law z_SL 2012 (z_lol x i) [] w kc ks := by
  show z_J G l mL_law _ 2012 [(0, _), (1, _), (2, _), (3, _), (4, _)] [] _ _ _
  refine j_aload_n dL_law_2012 rfl rfl ?_
  refine j_aload_n dL_law_2013 rfl rfl ?_
  refine j_iload dL_law_2014 rfl ?_
  refine j_iconst (v := 1) dL_law_2016 (by decide) ?_
  refine j_iadd dL_law_2017 ?_
  refine j_top (congrArg Value.int (show nI i + (1 : Int32) = nI (i + 1) from nI_add i 1)) ?_
  refine j_sld dL_law_2018 (by omega) (by omega) ?_
  refine j_aload_n dL_law_2019 rfl rfl ?_
  refine j_iload dL_law_2020 rfl ?_
  refine j_iconst (v := 2) dL_law_2022 (by decide) ?_
  refine j_iadd dL_law_2023 ?_
  refine j_top (congrArg Value.int (show nI i + (2 : Int32) = nI (i + 2) from nI_add i 2)) ?_
  refine j_sld dL_law_2024 (by omega) (by omega) ?_
  refine j_aload_n dL_law_2025 rfl rfl ?_
  refine j_iload dL_law_2026 rfl ?_
  refine j_iconst (v := 3) dL_law_2028 (by decide) ?_
  refine j_iadd dL_law_2029 ?_
  refine j_top (congrArg Value.int (show nI i + (3 : Int32) = nI (i + 3) from nI_add i 3)) ?_
  refine j_sld dL_law_2030 (by omega) (by omega) ?_
  refine j_aload_n dL_law_2031 rfl rfl ?_
  refine j_iload dL_law_2032 rfl ?_
  refine j_iconst (v := 4) dL_law_2034 (by decide) ?_
  refine j_iadd dL_law_2035 ?_
  refine j_top (congrArg Value.int (show nI i + (4 : Int32) = nI (i + 4) from nI_add i 4)) ?_
  refine j_sld dL_law_2036 (by omega) (by omega) ?_
  refine j_aload_n dL_law_2037 rfl rfl ?_
  refine j_iload dL_law_2038 rfl ?_
  refine j_iconst (v := 5) dL_law_2040 (by decide) ?_
  refine j_iadd dL_law_2041 ?_
  refine j_top (congrArg Value.int (show nI i + (5 : Int32) = nI (i + 5) from nI_add i 5)) ?_
  refine j_sld dL_law_2042 (by omega) (by omega) ?_
  refine j_aload_n dL_law_2043 rfl rfl ?_
  refine j_callSW dL_law_2044 kL_hearSteps lL_247 stL_hearSteps (lw_hearSteps hl w _ _ _ _ LT (z_sc G (i + 1)) (z_sc G (i + 2)) (z_sc G (i + 3)) (z_sc G (i + 4)) (z_sc G (i + 5))) (Nat.le_of_ble_eq_true rfl) ⟨(by show _ ≤ 665722; omega), (by show _ ≤ 7105070; omega)⟩ rfl (Nat.le_of_ble_eq_true rfl) rfl rfl (fun _ _ h => h.elim) ?_
  rintro _ w1 ⟨n1, rfl, LT1, hn1⟩
  refine j_istore (lo' := [(5, _), (0, _), (1, _), (2, _), (3, _), (4, _)]) dL_law_2047 (by decide) rfl ?_
  refine j_aload_n dL_law_2049 rfl rfl ?_
  refine j_aload_n dL_law_2050 rfl rfl ?_
  refine j_iload dL_law_2051 rfl ?_
  refine j_iconst (v := 1) dL_law_2053 (by decide) ?_
  refine j_iadd dL_law_2054 ?_
  refine j_top (congrArg Value.int (show nI i + (1 : Int32) = nI (i + 1) from nI_add i 1)) ?_
  refine j_sld dL_law_2055 (by omega) (by omega) ?_
  refine j_aload_n dL_law_2056 rfl rfl ?_
  refine j_iload dL_law_2057 rfl ?_
  refine j_iconst (v := 2) dL_law_2059 (by decide) ?_
  refine j_iadd dL_law_2060 ?_
  refine j_top (congrArg Value.int (show nI i + (2 : Int32) = nI (i + 2) from nI_add i 2)) ?_
  refine j_sld dL_law_2061 (by omega) (by omega) ?_
  refine j_aload_n dL_law_2062 rfl rfl ?_
  refine j_iload dL_law_2063 rfl ?_
  refine j_iconst (v := 3) dL_law_2065 (by decide) ?_
  refine j_iadd dL_law_2066 ?_
  refine j_top (congrArg Value.int (show nI i + (3 : Int32) = nI (i + 3) from nI_add i 3)) ?_
  refine j_sld dL_law_2067 (by omega) (by omega) ?_
  refine j_aload_n dL_law_2068 rfl rfl ?_
  refine j_iload dL_law_2069 rfl ?_
  refine j_iconst (v := 4) dL_law_2071 (by decide) ?_
  refine j_iadd dL_law_2072 ?_
  refine j_top (congrArg Value.int (show nI i + (4 : Int32) = nI (i + 4) from nI_add i 4)) ?_
  refine j_sld dL_law_2073 (by omega) (by omega) ?_
  refine j_aload_n dL_law_2074 rfl rfl ?_
  refine j_iload dL_law_2075 rfl ?_
  refine j_iconst (v := 5) dL_law_2077 (by decide) ?_
  refine j_iadd dL_law_2078 ?_
  refine j_top (congrArg Value.int (show nI i + (5 : Int32) = nI (i + 5) from nI_add i 5)) ?_
  refine j_sld dL_law_2079 (by omega) (by omega) ?_
  obtain ⟨-, ⟨s70, hs70, -⟩, -⟩ := id LT1
  refine j_callV (q := (RX11, TX11, 8)) dL_law_2080 kX11_hearSteps lL_250 inX11_hearSteps seX11_hearSteps hs70.m rfl (kx_hearSteps hl w1 LT1 (z_sc G (i + 1)) (z_sc G (i + 2)) (z_sc G (i + 3)) (z_sc G (i + 4)) (z_sc G (i + 5))) (Nat.le_of_ble_eq_true rfl) ⟨(by show _ ≤ 665722; omega), (by show _ ≤ 7105070; omega)⟩ rfl (Nat.le_of_ble_eq_true rfl) rfl rfl (fun _ _ h => h.elim) ?_
  rintro _ w2 ⟨r2, rfl, LT2, th2, hr2⟩
  refine j_istore (lo' := [(6, _), (5, _), (0, _), (1, _), (2, _), (3, _), (4, _)]) dL_law_2083 (by decide) rfl ?_
  refine j_aload_n dL_law_2085 rfl rfl ?_
  obtain ⟨st71, hst71, ht71⟩ := th2
  refine j_callV (q := (RX11, TX11, 8)) dL_law_2086 kX11_thrown lL_176 inX11_thrown seX11_thrown hst71.m rfl (cm_thrown hl w2 _ hst71) (Nat.le_of_ble_eq_true rfl) ⟨(by show _ ≤ 665722; omega), (by show _ ≤ 7105070; omega)⟩ rfl (Nat.le_of_ble_eq_true rfl) rfl rfl (fun _ _ h => h.elim) ?_
  rintro _ _ ⟨rfl, hw71⟩
  refine j_w w2 hw71 ?_
  refine j_iload dL_law_2089 rfl ?_
  refine j_icmp_eq (tgt := 2096) dL_law_2091 (by decide) (fun c_2091_77 => ?_) (fun c_2091_77 => ?_)
  · refine j_iload dL_law_2096 rfl ?_
    refine j_if_ne (tgt := 2114) dL_law_2098 (by decide) (fun c_2098_79 => ?_) (fun c_2098_79 => ?_)
    · refine j_goto (tgt := 3514) dL_law_2114 (by decide) ?_
      refine j_widen (kc' := kc + 200) (ks' := ks + 6000) (by omega) (by omega) ?_
      exact j_lo2 (KK _ _ _ LT2) (z_q1 rfl (z_q1 rfl (z_q1 rfl (z_q1 rfl (z_q1 rfl z_q0)))))
    · refine j_aload_n dL_law_2101 rfl rfl ?_
      obtain ⟨-, -, ⟨ov72, og72⟩, -⟩ := id LT2
      refine j_getf dL_law_2102 fL_13 og72 rfl ?_
      refine j_iload dL_law_2105 rfl ?_
      refine j_i2l dL_law_2107 ?_
      refine j_lcmp dL_law_2108 ?_
      refine j_if_eq (tgt := 2114) dL_law_2109 (by decide) (fun c_2109_89 => ?_) (fun c_2109_89 => ?_)
      · refine j_goto (tgt := 3514) dL_law_2114 (by decide) ?_
        refine j_widen (kc' := kc + 200) (ks' := ks + 6000) (by omega) (by omega) ?_
        exact j_lo2 (KK _ _ _ LT2) (z_q1 rfl (z_q1 rfl (z_q1 rfl (z_q1 rfl (z_q1 rfl z_q0)))))
      · exact absurd (q_cmp (by rw [hn1 c_2098_79, hr2 c_2098_79])) c_2109_89
  · exact absurd ht71 c_2091_77
set_option maxRecDepth 100000 in
set_option maxHeartbeats 4000000 in
theorem lc_23 (hl : l.stackTraces = false) {w : z_W} {x i kc ks : Nat} {S : sp_S} {n : Int64} (LT : z_LX x S S n w) (hi6 : i + 6 ≤ z_sn G) (hsn : z_sn G ≤ 3072) (hkc : kc + 200 ≤ 665722) (hks : ks + 6000 ≤ 7105070) (KK : ∀ (S9 : sp_S) (n9 : Int64) (w9 : z_W), z_LX x S9 S9 n9 w9 → z_J G l mL_law z_SL 3514 (z_lol x i) [] w9 (kc + 200) (ks + 6000)) : z_J G l mL_law z_SL 2117 (z_lol x i) [] w kc ks := by
  show z_J G l mL_law _ 2117 [(0, _), (1, _), (2, _), (3, _), (4, _)] [] _ _ _
  refine j_aload_n dL_law_2117 rfl rfl ?_
  refine j_aload_n dL_law_2118 rfl rfl ?_
  refine j_iload dL_law_2119 rfl ?_
  refine j_iconst (v := 1) dL_law_2121 (by decide) ?_
  refine j_iadd dL_law_2122 ?_
  refine j_top (congrArg Value.int (show nI i + (1 : Int32) = nI (i + 1) from nI_add i 1)) ?_
  refine j_sld dL_law_2123 (by omega) (by omega) ?_
  refine j_aload_n dL_law_2124 rfl rfl ?_
  refine j_iload dL_law_2125 rfl ?_
  refine j_iconst (v := 2) dL_law_2127 (by decide) ?_
  refine j_iadd dL_law_2128 ?_
  refine j_top (congrArg Value.int (show nI i + (2 : Int32) = nI (i + 2) from nI_add i 2)) ?_
  refine j_sld dL_law_2129 (by omega) (by omega) ?_
  refine j_aload_n dL_law_2130 rfl rfl ?_
  refine j_callSW dL_law_2131 kL_takeStep lL_251 stL_takeStep (lw_takeStep hl w _ _ _ _ LT (z_sc G (i + 1)) (z_sc G (i + 2))) (Nat.le_of_ble_eq_true rfl) ⟨(by show _ ≤ 665722; omega), (by show _ ≤ 7105070; omega)⟩ rfl (Nat.le_of_ble_eq_true rfl) rfl rfl (fun _ _ h => h.elim) ?_
  rintro _ w1 ⟨n1, rfl, LT1, hn1⟩
  refine j_istore (lo' := [(5, _), (0, _), (1, _), (2, _), (3, _), (4, _)]) dL_law_2134 (by decide) rfl ?_
  refine j_aload_n dL_law_2136 rfl rfl ?_
  refine j_aload_n dL_law_2137 rfl rfl ?_
  refine j_iload dL_law_2138 rfl ?_
  refine j_iconst (v := 1) dL_law_2140 (by decide) ?_
  refine j_iadd dL_law_2141 ?_
  refine j_top (congrArg Value.int (show nI i + (1 : Int32) = nI (i + 1) from nI_add i 1)) ?_
  refine j_sld dL_law_2142 (by omega) (by omega) ?_
  refine j_aload_n dL_law_2143 rfl rfl ?_
  refine j_iload dL_law_2144 rfl ?_
  refine j_iconst (v := 2) dL_law_2146 (by decide) ?_
  refine j_iadd dL_law_2147 ?_
  refine j_top (congrArg Value.int (show nI i + (2 : Int32) = nI (i + 2) from nI_add i 2)) ?_
  refine j_sld dL_law_2148 (by omega) (by omega) ?_
  obtain ⟨-, ⟨s73, hs73, -⟩, -⟩ := id LT1
  refine j_callV (q := (RX11, TX11, 8)) dL_law_2149 kX11_takeStep lL_253 inX11_takeStep seX11_takeStep hs73.m rfl (kx_takeStep hl w1 LT1 (z_sc G (i + 1)) (z_sc G (i + 2))) (Nat.le_of_ble_eq_true rfl) ⟨(by show _ ≤ 665722; omega), (by show _ ≤ 7105070; omega)⟩ rfl (Nat.le_of_ble_eq_true rfl) rfl rfl (fun _ _ h => h.elim) ?_
  rintro _ w2 ⟨r2, rfl, LT2, th2, hr2⟩
  refine j_istore (lo' := [(6, _), (5, _), (0, _), (1, _), (2, _), (3, _), (4, _)]) dL_law_2152 (by decide) rfl ?_
  refine j_aload_n dL_law_2154 rfl rfl ?_
  obtain ⟨st74, hst74, ht74⟩ := th2
  refine j_callV (q := (RX11, TX11, 8)) dL_law_2155 kX11_thrown lL_176 inX11_thrown seX11_thrown hst74.m rfl (cm_thrown hl w2 _ hst74) (Nat.le_of_ble_eq_true rfl) ⟨(by show _ ≤ 665722; omega), (by show _ ≤ 7105070; omega)⟩ rfl (Nat.le_of_ble_eq_true rfl) rfl rfl (fun _ _ h => h.elim) ?_
  rintro _ _ ⟨rfl, hw74⟩
  refine j_w w2 hw74 ?_
  refine j_iload dL_law_2158 rfl ?_
  refine j_icmp_eq (tgt := 2165) dL_law_2160 (by decide) (fun c_2160_41 => ?_) (fun c_2160_41 => ?_)
  · refine j_iload dL_law_2165 rfl ?_
    refine j_if_ne (tgt := 2183) dL_law_2167 (by decide) (fun c_2167_43 => ?_) (fun c_2167_43 => ?_)
    · refine j_goto (tgt := 3514) dL_law_2183 (by decide) ?_
      refine j_widen (kc' := kc + 200) (ks' := ks + 6000) (by omega) (by omega) ?_
      exact j_lo2 (KK _ _ _ LT2) (z_q1 rfl (z_q1 rfl (z_q1 rfl (z_q1 rfl (z_q1 rfl z_q0)))))
    · refine j_aload_n dL_law_2170 rfl rfl ?_
      obtain ⟨-, -, ⟨ov75, og75⟩, -⟩ := id LT2
      refine j_getf dL_law_2171 fL_13 og75 rfl ?_
      refine j_iload dL_law_2174 rfl ?_
      refine j_i2l dL_law_2176 ?_
      refine j_lcmp dL_law_2177 ?_
      refine j_if_eq (tgt := 2183) dL_law_2178 (by decide) (fun c_2178_53 => ?_) (fun c_2178_53 => ?_)
      · refine j_goto (tgt := 3514) dL_law_2183 (by decide) ?_
        refine j_widen (kc' := kc + 200) (ks' := ks + 6000) (by omega) (by omega) ?_
        exact j_lo2 (KK _ _ _ LT2) (z_q1 rfl (z_q1 rfl (z_q1 rfl (z_q1 rfl (z_q1 rfl z_q0)))))
      · exact absurd (q_cmp (by rw [hn1 c_2167_43, hr2 c_2167_43])) c_2178_53
  · exact absurd ht74 c_2160_41
set_option maxRecDepth 100000 in
set_option maxHeartbeats 4000000 in
theorem lc_24 (hl : l.stackTraces = false) {w : z_W} {x i kc ks : Nat} {S : sp_S} {n : Int64} (LT : z_LX x S S n w) (hi6 : i + 6 ≤ z_sn G) (hsn : z_sn G ≤ 3072) (hkc : kc + 200 ≤ 665722) (hks : ks + 6000 ≤ 7105070) (KK : ∀ (S9 : sp_S) (n9 : Int64) (w9 : z_W), z_LX x S9 S9 n9 w9 → z_J G l mL_law z_SL 3514 (z_lol x i) [] w9 (kc + 200) (ks + 6000)) : z_J G l mL_law z_SL 2186 (z_lol x i) [] w kc ks := by
  show z_J G l mL_law _ 2186 [(0, _), (1, _), (2, _), (3, _), (4, _)] [] _ _ _
  refine j_aload_n dL_law_2186 rfl rfl ?_
  refine j_aload_n dL_law_2187 rfl rfl ?_
  refine j_iload dL_law_2188 rfl ?_
  refine j_iconst (v := 1) dL_law_2190 (by decide) ?_
  refine j_iadd dL_law_2191 ?_
  refine j_top (congrArg Value.int (show nI i + (1 : Int32) = nI (i + 1) from nI_add i 1)) ?_
  refine j_sld dL_law_2192 (by omega) (by omega) ?_
  refine j_aload_n dL_law_2193 rfl rfl ?_
  refine j_iload dL_law_2194 rfl ?_
  refine j_iconst (v := 2) dL_law_2196 (by decide) ?_
  refine j_iadd dL_law_2197 ?_
  refine j_top (congrArg Value.int (show nI i + (2 : Int32) = nI (i + 2) from nI_add i 2)) ?_
  refine j_sld dL_law_2198 (by omega) (by omega) ?_
  refine j_aload_n dL_law_2199 rfl rfl ?_
  refine j_callSW dL_law_2200 kL_stop lL_254 stL_stop (lw_stop hl w _ _ _ _ LT (z_sc G (i + 1)) (z_sc G (i + 2))) (Nat.le_of_ble_eq_true rfl) ⟨(by show _ ≤ 665722; omega), (by show _ ≤ 7105070; omega)⟩ rfl (Nat.le_of_ble_eq_true rfl) rfl rfl (fun _ _ h => h.elim) ?_
  rintro _ w1 ⟨n1, rfl, LT1, hn1⟩
  refine j_istore (lo' := [(5, _), (0, _), (1, _), (2, _), (3, _), (4, _)]) dL_law_2203 (by decide) rfl ?_
  refine j_aload_n dL_law_2205 rfl rfl ?_
  refine j_aload_n dL_law_2206 rfl rfl ?_
  refine j_iload dL_law_2207 rfl ?_
  refine j_iconst (v := 1) dL_law_2209 (by decide) ?_
  refine j_iadd dL_law_2210 ?_
  refine j_top (congrArg Value.int (show nI i + (1 : Int32) = nI (i + 1) from nI_add i 1)) ?_
  refine j_sld dL_law_2211 (by omega) (by omega) ?_
  refine j_aload_n dL_law_2212 rfl rfl ?_
  refine j_iload dL_law_2213 rfl ?_
  refine j_iconst (v := 2) dL_law_2215 (by decide) ?_
  refine j_iadd dL_law_2216 ?_
  refine j_top (congrArg Value.int (show nI i + (2 : Int32) = nI (i + 2) from nI_add i 2)) ?_
  refine j_sld dL_law_2217 (by omega) (by omega) ?_
  obtain ⟨-, ⟨s76, hs76, -⟩, -⟩ := id LT1
  refine j_callV (q := (RX11, TX11, 8)) dL_law_2218 kX11_stop lL_256 inX11_stop seX11_stop hs76.m rfl (kx_stop hl w1 LT1 (z_sc G (i + 1)) (z_sc G (i + 2))) (Nat.le_of_ble_eq_true rfl) ⟨(by show _ ≤ 665722; omega), (by show _ ≤ 7105070; omega)⟩ rfl (Nat.le_of_ble_eq_true rfl) rfl rfl (fun _ _ h => h.elim) ?_
  rintro _ w2 ⟨r2, rfl, LT2, th2, hr2⟩
  refine j_istore (lo' := [(6, _), (5, _), (0, _), (1, _), (2, _), (3, _), (4, _)]) dL_law_2221 (by decide) rfl ?_
  refine j_aload_n dL_law_2223 rfl rfl ?_
  obtain ⟨st77, hst77, ht77⟩ := th2
  refine j_callV (q := (RX11, TX11, 8)) dL_law_2224 kX11_thrown lL_176 inX11_thrown seX11_thrown hst77.m rfl (cm_thrown hl w2 _ hst77) (Nat.le_of_ble_eq_true rfl) ⟨(by show _ ≤ 665722; omega), (by show _ ≤ 7105070; omega)⟩ rfl (Nat.le_of_ble_eq_true rfl) rfl rfl (fun _ _ h => h.elim) ?_
  rintro _ _ ⟨rfl, hw77⟩
  refine j_w w2 hw77 ?_
  refine j_iload dL_law_2227 rfl ?_
  refine j_icmp_eq (tgt := 2234) dL_law_2229 (by decide) (fun c_2229_41 => ?_) (fun c_2229_41 => ?_)
  · refine j_iload dL_law_2234 rfl ?_
    refine j_if_ne (tgt := 2252) dL_law_2236 (by decide) (fun c_2236_43 => ?_) (fun c_2236_43 => ?_)
    · refine j_goto (tgt := 3514) dL_law_2252 (by decide) ?_
      refine j_widen (kc' := kc + 200) (ks' := ks + 6000) (by omega) (by omega) ?_
      exact j_lo2 (KK _ _ _ LT2) (z_q1 rfl (z_q1 rfl (z_q1 rfl (z_q1 rfl (z_q1 rfl z_q0)))))
    · refine j_aload_n dL_law_2239 rfl rfl ?_
      obtain ⟨-, -, ⟨ov78, og78⟩, -⟩ := id LT2
      refine j_getf dL_law_2240 fL_13 og78 rfl ?_
      refine j_iload dL_law_2243 rfl ?_
      refine j_i2l dL_law_2245 ?_
      refine j_lcmp dL_law_2246 ?_
      refine j_if_eq (tgt := 2252) dL_law_2247 (by decide) (fun c_2247_53 => ?_) (fun c_2247_53 => ?_)
      · refine j_goto (tgt := 3514) dL_law_2252 (by decide) ?_
        refine j_widen (kc' := kc + 200) (ks' := ks + 6000) (by omega) (by omega) ?_
        exact j_lo2 (KK _ _ _ LT2) (z_q1 rfl (z_q1 rfl (z_q1 rfl (z_q1 rfl (z_q1 rfl z_q0)))))
      · exact absurd (q_cmp (by rw [hn1 c_2236_43, hr2 c_2236_43])) c_2247_53
  · exact absurd ht77 c_2229_41
set_option maxRecDepth 100000 in
set_option maxHeartbeats 4000000 in
theorem lc_25 (hl : l.stackTraces = false) {w : z_W} {x i kc ks : Nat} {S : sp_S} {n : Int64} (LT : z_LX x S S n w) (hi6 : i + 6 ≤ z_sn G) (hsn : z_sn G ≤ 3072) (hkc : kc + 200 ≤ 665722) (hks : ks + 6000 ≤ 7105070) (KK : ∀ (S9 : sp_S) (n9 : Int64) (w9 : z_W), z_LX x S9 S9 n9 w9 → z_J G l mL_law z_SL 3514 (z_lol x i) [] w9 (kc + 200) (ks + 6000)) : z_J G l mL_law z_SL 2255 (z_lol x i) [] w kc ks := by
  show z_J G l mL_law _ 2255 [(0, _), (1, _), (2, _), (3, _), (4, _)] [] _ _ _
  refine j_aload_n dL_law_2255 rfl rfl ?_
  refine j_aload_n dL_law_2256 rfl rfl ?_
  refine j_iload dL_law_2257 rfl ?_
  refine j_iconst (v := 1) dL_law_2259 (by decide) ?_
  refine j_iadd dL_law_2260 ?_
  refine j_top (congrArg Value.int (show nI i + (1 : Int32) = nI (i + 1) from nI_add i 1)) ?_
  refine j_sld dL_law_2261 (by omega) (by omega) ?_
  refine j_aload_n dL_law_2262 rfl rfl ?_
  refine j_callSW dL_law_2263 kL_forget lL_257 stL_forget (lw_forget hl w _ _ _ _ LT (z_sc G (i + 1))) (Nat.le_of_ble_eq_true rfl) ⟨(by show _ ≤ 665722; omega), (by show _ ≤ 7105070; omega)⟩ rfl (Nat.le_of_ble_eq_true rfl) rfl rfl (fun _ _ h => h.elim) ?_
  rintro _ w1 ⟨n1, rfl, LT1, hn1⟩
  refine j_istore (lo' := [(5, _), (0, _), (1, _), (2, _), (3, _), (4, _)]) dL_law_2266 (by decide) rfl ?_
  refine j_aload_n dL_law_2268 rfl rfl ?_
  refine j_aload_n dL_law_2269 rfl rfl ?_
  refine j_iload dL_law_2270 rfl ?_
  refine j_iconst (v := 1) dL_law_2272 (by decide) ?_
  refine j_iadd dL_law_2273 ?_
  refine j_top (congrArg Value.int (show nI i + (1 : Int32) = nI (i + 1) from nI_add i 1)) ?_
  refine j_sld dL_law_2274 (by omega) (by omega) ?_
  obtain ⟨-, ⟨s79, hs79, -⟩, -⟩ := id LT1
  refine j_callV (q := (RX11, TX11, 8)) dL_law_2275 kX11_forget lL_259 inX11_forget seX11_forget hs79.m rfl (kx_forget hl w1 LT1 (z_sc G (i + 1))) (Nat.le_of_ble_eq_true rfl) ⟨(by show _ ≤ 665722; omega), (by show _ ≤ 7105070; omega)⟩ rfl (Nat.le_of_ble_eq_true rfl) rfl rfl (fun _ _ h => h.elim) ?_
  rintro _ w2 ⟨r2, rfl, LT2, th2, hr2⟩
  refine j_istore (lo' := [(6, _), (5, _), (0, _), (1, _), (2, _), (3, _), (4, _)]) dL_law_2278 (by decide) rfl ?_
  refine j_aload_n dL_law_2280 rfl rfl ?_
  obtain ⟨st80, hst80, ht80⟩ := th2
  refine j_callV (q := (RX11, TX11, 8)) dL_law_2281 kX11_thrown lL_176 inX11_thrown seX11_thrown hst80.m rfl (cm_thrown hl w2 _ hst80) (Nat.le_of_ble_eq_true rfl) ⟨(by show _ ≤ 665722; omega), (by show _ ≤ 7105070; omega)⟩ rfl (Nat.le_of_ble_eq_true rfl) rfl rfl (fun _ _ h => h.elim) ?_
  rintro _ _ ⟨rfl, hw80⟩
  refine j_w w2 hw80 ?_
  refine j_iload dL_law_2284 rfl ?_
  refine j_icmp_eq (tgt := 2291) dL_law_2286 (by decide) (fun c_2286_29 => ?_) (fun c_2286_29 => ?_)
  · refine j_iload dL_law_2291 rfl ?_
    refine j_if_ne (tgt := 2309) dL_law_2293 (by decide) (fun c_2293_31 => ?_) (fun c_2293_31 => ?_)
    · refine j_goto (tgt := 3514) dL_law_2309 (by decide) ?_
      refine j_widen (kc' := kc + 200) (ks' := ks + 6000) (by omega) (by omega) ?_
      exact j_lo2 (KK _ _ _ LT2) (z_q1 rfl (z_q1 rfl (z_q1 rfl (z_q1 rfl (z_q1 rfl z_q0)))))
    · refine j_aload_n dL_law_2296 rfl rfl ?_
      obtain ⟨-, -, ⟨ov81, og81⟩, -⟩ := id LT2
      refine j_getf dL_law_2297 fL_13 og81 rfl ?_
      refine j_iload dL_law_2300 rfl ?_
      refine j_i2l dL_law_2302 ?_
      refine j_lcmp dL_law_2303 ?_
      refine j_if_eq (tgt := 2309) dL_law_2304 (by decide) (fun c_2304_41 => ?_) (fun c_2304_41 => ?_)
      · refine j_goto (tgt := 3514) dL_law_2309 (by decide) ?_
        refine j_widen (kc' := kc + 200) (ks' := ks + 6000) (by omega) (by omega) ?_
        exact j_lo2 (KK _ _ _ LT2) (z_q1 rfl (z_q1 rfl (z_q1 rfl (z_q1 rfl (z_q1 rfl z_q0)))))
      · exact absurd (q_cmp (by rw [hn1 c_2293_31, hr2 c_2293_31])) c_2304_41
  · exact absurd ht80 c_2286_29
set_option maxRecDepth 100000 in
set_option maxHeartbeats 4000000 in
theorem lc_26 (hl : l.stackTraces = false) {w : z_W} {x i kc ks : Nat} {S : sp_S} {n : Int64} (LT : z_LX x S S n w) (hi6 : i + 6 ≤ z_sn G) (hsn : z_sn G ≤ 3072) (hkc : kc + 200 ≤ 665722) (hks : ks + 6000 ≤ 7105070) (KK : ∀ (S9 : sp_S) (n9 : Int64) (w9 : z_W), z_LX x S9 S9 n9 w9 → z_J G l mL_law z_SL 3514 (z_lol x i) [] w9 (kc + 200) (ks + 6000)) : z_J G l mL_law z_SL 2312 (z_lol x i) [] w kc ks := by
  show z_J G l mL_law _ 2312 [(0, _), (1, _), (2, _), (3, _), (4, _)] [] _ _ _
  refine j_aload_n dL_law_2312 rfl rfl ?_
  refine j_aload_n dL_law_2313 rfl rfl ?_
  refine j_iload dL_law_2314 rfl ?_
  refine j_iconst (v := 1) dL_law_2316 (by decide) ?_
  refine j_iadd dL_law_2317 ?_
  refine j_top (congrArg Value.int (show nI i + (1 : Int32) = nI (i + 1) from nI_add i 1)) ?_
  refine j_sld dL_law_2318 (by omega) (by omega) ?_
  refine j_aload_n dL_law_2319 rfl rfl ?_
  refine j_iload dL_law_2320 rfl ?_
  refine j_iconst (v := 2) dL_law_2322 (by decide) ?_
  refine j_iadd dL_law_2323 ?_
  refine j_top (congrArg Value.int (show nI i + (2 : Int32) = nI (i + 2) from nI_add i 2)) ?_
  refine j_sld dL_law_2324 (by omega) (by omega) ?_
  refine j_aload_n dL_law_2325 rfl rfl ?_
  refine j_callSW dL_law_2326 kL_heard lL_260 stL_heard (lw_heard hl w _ _ _ _ LT (z_sc G (i + 1)) (z_sc G (i + 2))) (Nat.le_of_ble_eq_true rfl) ⟨(by show _ ≤ 665722; omega), (by show _ ≤ 7105070; omega)⟩ rfl (Nat.le_of_ble_eq_true rfl) rfl rfl (fun _ _ h => h.elim) ?_
  rintro _ w1 ⟨n1, rfl, LT1, hn1⟩
  refine j_istore (lo' := [(5, _), (0, _), (1, _), (2, _), (3, _), (4, _)]) dL_law_2329 (by decide) rfl ?_
  refine j_aload_n dL_law_2331 rfl rfl ?_
  refine j_aload_n dL_law_2332 rfl rfl ?_
  refine j_iload dL_law_2333 rfl ?_
  refine j_iconst (v := 1) dL_law_2335 (by decide) ?_
  refine j_iadd dL_law_2336 ?_
  refine j_top (congrArg Value.int (show nI i + (1 : Int32) = nI (i + 1) from nI_add i 1)) ?_
  refine j_sld dL_law_2337 (by omega) (by omega) ?_
  refine j_aload_n dL_law_2338 rfl rfl ?_
  refine j_iload dL_law_2339 rfl ?_
  refine j_iconst (v := 2) dL_law_2341 (by decide) ?_
  refine j_iadd dL_law_2342 ?_
  refine j_top (congrArg Value.int (show nI i + (2 : Int32) = nI (i + 2) from nI_add i 2)) ?_
  refine j_sld dL_law_2343 (by omega) (by omega) ?_
  obtain ⟨-, ⟨s82, hs82, -⟩, -⟩ := id LT1
  refine j_callV (q := (RX11, TX11, 8)) dL_law_2344 kX11_heard lL_262 inX11_heard seX11_heard hs82.m rfl (kx_heard hl w1 LT1 (z_sc G (i + 1)) (z_sc G (i + 2))) (Nat.le_of_ble_eq_true rfl) ⟨(by show _ ≤ 665722; omega), (by show _ ≤ 7105070; omega)⟩ rfl (Nat.le_of_ble_eq_true rfl) rfl rfl (fun _ _ h => h.elim) ?_
  rintro _ w2 ⟨r2, rfl, LT2, th2, hr2⟩
  refine j_istore (lo' := [(6, _), (5, _), (0, _), (1, _), (2, _), (3, _), (4, _)]) dL_law_2347 (by decide) rfl ?_
  refine j_aload_n dL_law_2349 rfl rfl ?_
  obtain ⟨st83, hst83, ht83⟩ := th2
  refine j_callV (q := (RX11, TX11, 8)) dL_law_2350 kX11_thrown lL_176 inX11_thrown seX11_thrown hst83.m rfl (cm_thrown hl w2 _ hst83) (Nat.le_of_ble_eq_true rfl) ⟨(by show _ ≤ 665722; omega), (by show _ ≤ 7105070; omega)⟩ rfl (Nat.le_of_ble_eq_true rfl) rfl rfl (fun _ _ h => h.elim) ?_
  rintro _ _ ⟨rfl, hw83⟩
  refine j_w w2 hw83 ?_
  refine j_iload dL_law_2353 rfl ?_
  refine j_icmp_eq (tgt := 2360) dL_law_2355 (by decide) (fun c_2355_41 => ?_) (fun c_2355_41 => ?_)
  · refine j_iload dL_law_2360 rfl ?_
    refine j_if_ne (tgt := 2378) dL_law_2362 (by decide) (fun c_2362_43 => ?_) (fun c_2362_43 => ?_)
    · refine j_goto (tgt := 3514) dL_law_2378 (by decide) ?_
      refine j_widen (kc' := kc + 200) (ks' := ks + 6000) (by omega) (by omega) ?_
      exact j_lo2 (KK _ _ _ LT2) (z_q1 rfl (z_q1 rfl (z_q1 rfl (z_q1 rfl (z_q1 rfl z_q0)))))
    · refine j_aload_n dL_law_2365 rfl rfl ?_
      obtain ⟨-, -, ⟨ov84, og84⟩, -⟩ := id LT2
      refine j_getf dL_law_2366 fL_13 og84 rfl ?_
      refine j_iload dL_law_2369 rfl ?_
      refine j_i2l dL_law_2371 ?_
      refine j_lcmp dL_law_2372 ?_
      refine j_if_eq (tgt := 2378) dL_law_2373 (by decide) (fun c_2373_53 => ?_) (fun c_2373_53 => ?_)
      · refine j_goto (tgt := 3514) dL_law_2378 (by decide) ?_
        refine j_widen (kc' := kc + 200) (ks' := ks + 6000) (by omega) (by omega) ?_
        exact j_lo2 (KK _ _ _ LT2) (z_q1 rfl (z_q1 rfl (z_q1 rfl (z_q1 rfl (z_q1 rfl z_q0)))))
      · exact absurd (q_cmp (by rw [hn1 c_2362_43, hr2 c_2362_43])) c_2373_53
  · exact absurd ht83 c_2355_41
set_option maxRecDepth 100000 in
set_option maxHeartbeats 4000000 in
theorem lc_27 (hl : l.stackTraces = false) {w : z_W} {x i kc ks : Nat} {S : sp_S} {n : Int64} (LT : z_LX x S S n w) (hi6 : i + 6 ≤ z_sn G) (hsn : z_sn G ≤ 3072) (hkc : kc + 200 ≤ 665722) (hks : ks + 6000 ≤ 7105070) (KK : ∀ (S9 : sp_S) (n9 : Int64) (w9 : z_W), z_LX x S9 S9 n9 w9 → z_J G l mL_law z_SL 3514 (z_lol x i) [] w9 (kc + 200) (ks + 6000)) : z_J G l mL_law z_SL 2381 (z_lol x i) [] w kc ks := by
  show z_J G l mL_law _ 2381 [(0, _), (1, _), (2, _), (3, _), (4, _)] [] _ _ _
  refine j_aload_n dL_law_2381 rfl rfl ?_
  refine j_aload_n dL_law_2382 rfl rfl ?_
  refine j_iload dL_law_2383 rfl ?_
  refine j_iconst (v := 1) dL_law_2385 (by decide) ?_
  refine j_iadd dL_law_2386 ?_
  refine j_top (congrArg Value.int (show nI i + (1 : Int32) = nI (i + 1) from nI_add i 1)) ?_
  refine j_sld dL_law_2387 (by omega) (by omega) ?_
  refine j_aload_n dL_law_2388 rfl rfl ?_
  refine j_callSW dL_law_2389 kL_heardText lL_263 stL_heardText (lw_heardText hl w _ _ _ _ LT (z_sc G (i + 1))) (Nat.le_of_ble_eq_true rfl) ⟨(by show _ ≤ 665722; omega), (by show _ ≤ 7105070; omega)⟩ rfl (Nat.le_of_ble_eq_true rfl) rfl rfl (fun _ _ h => h.elim) ?_
  rintro _ w1 ⟨n1, rfl, LT1, hT1⟩
  refine j_istore (lo' := [(5, _), (0, _), (1, _), (2, _), (3, _), (4, _)]) dL_law_2392 (by decide) rfl ?_
  refine j_aload_n dL_law_2394 rfl rfl ?_
  refine j_aload_n dL_law_2395 rfl rfl ?_
  refine j_iload dL_law_2396 rfl ?_
  refine j_iconst (v := 1) dL_law_2398 (by decide) ?_
  refine j_iadd dL_law_2399 ?_
  refine j_top (congrArg Value.int (show nI i + (1 : Int32) = nI (i + 1) from nI_add i 1)) ?_
  refine j_sld dL_law_2400 (by omega) (by omega) ?_
  obtain ⟨-, ⟨s85, hs85, -⟩, -⟩ := id LT1
  refine j_callV (q := (RX11, TX11, 8)) dL_law_2401 kX11_heardText lL_265 inX11_heardText seX11_heardText hs85.m rfl (kz_heardText hl w1 LT1 (z_sc G (i + 1))) (Nat.le_of_ble_eq_true rfl) ⟨(by show _ ≤ 665722; omega), (by show _ ≤ 7105070; omega)⟩ rfl (Nat.le_of_ble_eq_true rfl) rfl rfl (fun _ _ h => h.elim) ?_
  rintro _ w2 ⟨r2, rfl, hir2, LT2, th2, fm2, hq2⟩
  refine j_astore (lo' := [(6, _), (5, _), (0, _), (1, _), (2, _), (3, _), (4, _)]) dL_law_2404 hir2 (by decide) rfl ?_
  refine j_aload_n dL_law_2406 rfl rfl ?_
  obtain ⟨st86, hst86, ht86⟩ := th2
  refine j_callV (q := (RX11, TX11, 8)) dL_law_2407 kX11_thrown lL_176 inX11_thrown seX11_thrown hst86.m rfl (cm_thrown hl w2 _ hst86) (Nat.le_of_ble_eq_true rfl) ⟨(by show _ ≤ 665722; omega), (by show _ ≤ 7105070; omega)⟩ rfl (Nat.le_of_ble_eq_true rfl) rfl rfl (fun _ _ h => h.elim) ?_
  rintro _ _ ⟨rfl, hw86⟩
  refine j_w w2 hw86 ?_
  refine j_iload dL_law_2410 rfl ?_
  refine j_icmp_eq (tgt := 2417) dL_law_2412 (by decide) (fun c_2412_29 => ?_) (fun c_2412_29 => ?_)
  · refine j_iload dL_law_2417 rfl ?_
    refine j_if_ne (tgt := 2436) dL_law_2419 (by decide) (fun c_2419_31 => ?_) (fun c_2419_31 => ?_)
    · refine j_goto (tgt := 3514) dL_law_2436 (by decide) ?_
      refine j_widen (kc' := kc + 200) (ks' := ks + 6000) (by omega) (by omega) ?_
      exact j_lo2 (KK _ _ _ LT2) (z_q1 rfl (z_q1 rfl (z_q1 rfl (z_q1 rfl (z_q1 rfl z_q0)))))
    · obtain ⟨nq9, rq9, gq9, hxq9⟩ := z_LT.fm (hT1 c_2419_31) LT2.x1 LT2.x2 fm2
      obtain ⟨q9, hr9, hq9⟩ := hq2 c_2419_31
      subst hr9
      refine j_aload_n dL_law_2422 rfl rfl ?_
      refine j_getf dL_law_2423 fL_114 gq9 rfl ?_
      refine j_aload dL_law_2426 rfl rfl ?_
      obtain ⟨fs87, gs87⟩ := hxq9.tx.cell
      refine j_callV (q := (RJ0, TJ0, 4)) dL_law_2428 kJ0_equals_9ea2d lL_266 inJ0_equals_9ea2d seJ0_equals_9ea2d gs87 rfl (tq_eq hl w2 rq9 q9 _ hxq9 hq9) (Nat.le_of_ble_eq_true rfl) ⟨(by show _ ≤ 665722; omega), (by show _ ≤ 7105070; omega)⟩ rfl (Nat.le_of_ble_eq_true rfl) rfl rfl (fun _ _ h => h.elim) ?_
      rintro _ _ ⟨rfl, hw87⟩
      refine j_w w2 hw87 ?_
      refine j_if_ne (tgt := 2436) dL_law_2431 (by decide) (fun c_2431_45 => ?_) (fun c_2431_45 => ?_)
      · refine j_goto (tgt := 3514) dL_law_2436 (by decide) ?_
        refine j_widen (kc' := kc + 200) (ks' := ks + 6000) (by omega) (by omega) ?_
        exact j_lo2 (KK _ _ _ LT2) (z_q1 rfl (z_q1 rfl (z_q1 rfl (z_q1 rfl (z_q1 rfl z_q0)))))
      · exact absurd c_2431_45 (by decide)
  · exact absurd ht86 c_2412_29
set_option maxRecDepth 100000 in
set_option maxHeartbeats 4000000 in
theorem lc_28 (hl : l.stackTraces = false) {w : z_W} {x i kc ks : Nat} {S : sp_S} {n : Int64} (LT : z_LX x S S n w) (hi6 : i + 6 ≤ z_sn G) (hsn : z_sn G ≤ 3072) (hkc : kc + 200 ≤ 665722) (hks : ks + 6000 ≤ 7105070) (KK : ∀ (S9 : sp_S) (n9 : Int64) (w9 : z_W), z_LX x S9 S9 n9 w9 → z_J G l mL_law z_SL 3514 (z_lol x i) [] w9 (kc + 200) (ks + 6000)) : z_J G l mL_law z_SL 2439 (z_lol x i) [] w kc ks := by
  show z_J G l mL_law _ 2439 [(0, _), (1, _), (2, _), (3, _), (4, _)] [] _ _ _
  refine j_aload_n dL_law_2439 rfl rfl ?_
  refine j_aload_n dL_law_2440 rfl rfl ?_
  refine j_iload dL_law_2441 rfl ?_
  refine j_iconst (v := 1) dL_law_2443 (by decide) ?_
  refine j_iadd dL_law_2444 ?_
  refine j_top (congrArg Value.int (show nI i + (1 : Int32) = nI (i + 1) from nI_add i 1)) ?_
  refine j_sld dL_law_2445 (by omega) (by omega) ?_
  refine j_aload_n dL_law_2446 rfl rfl ?_
  refine j_callSW dL_law_2447 kL_length lL_272 stL_length (lw_length hl w _ _ _ _ LT (z_sc G (i + 1))) (Nat.le_of_ble_eq_true rfl) ⟨(by show _ ≤ 665722; omega), (by show _ ≤ 7105070; omega)⟩ rfl (Nat.le_of_ble_eq_true rfl) rfl rfl (fun _ _ h => h.elim) ?_
  rintro _ w1 ⟨n1, rfl, LT1, hn1⟩
  refine j_istore (lo' := [(5, _), (0, _), (1, _), (2, _), (3, _), (4, _)]) dL_law_2450 (by decide) rfl ?_
  refine j_aload_n dL_law_2452 rfl rfl ?_
  refine j_aload_n dL_law_2453 rfl rfl ?_
  refine j_iload dL_law_2454 rfl ?_
  refine j_iconst (v := 1) dL_law_2456 (by decide) ?_
  refine j_iadd dL_law_2457 ?_
  refine j_top (congrArg Value.int (show nI i + (1 : Int32) = nI (i + 1) from nI_add i 1)) ?_
  refine j_sld dL_law_2458 (by omega) (by omega) ?_
  obtain ⟨-, ⟨s88, hs88, -⟩, -⟩ := id LT1
  refine j_callV (q := (RX11, TX11, 8)) dL_law_2459 kX11_length lL_274 inX11_length seX11_length hs88.m rfl (kx_length hl w1 LT1 (z_sc G (i + 1))) (Nat.le_of_ble_eq_true rfl) ⟨(by show _ ≤ 665722; omega), (by show _ ≤ 7105070; omega)⟩ rfl (Nat.le_of_ble_eq_true rfl) rfl rfl (fun _ _ h => h.elim) ?_
  rintro _ w2 ⟨r2, rfl, LT2, th2, hr2⟩
  refine j_istore (lo' := [(6, _), (5, _), (0, _), (1, _), (2, _), (3, _), (4, _)]) dL_law_2462 (by decide) rfl ?_
  refine j_aload_n dL_law_2464 rfl rfl ?_
  obtain ⟨st89, hst89, ht89⟩ := th2
  refine j_callV (q := (RX11, TX11, 8)) dL_law_2465 kX11_thrown lL_176 inX11_thrown seX11_thrown hst89.m rfl (cm_thrown hl w2 _ hst89) (Nat.le_of_ble_eq_true rfl) ⟨(by show _ ≤ 665722; omega), (by show _ ≤ 7105070; omega)⟩ rfl (Nat.le_of_ble_eq_true rfl) rfl rfl (fun _ _ h => h.elim) ?_
  rintro _ _ ⟨rfl, hw89⟩
  refine j_w w2 hw89 ?_
  refine j_iload dL_law_2468 rfl ?_
  refine j_icmp_eq (tgt := 2475) dL_law_2470 (by decide) (fun c_2470_29 => ?_) (fun c_2470_29 => ?_)
  · refine j_iload dL_law_2475 rfl ?_
    refine j_if_ne (tgt := 2493) dL_law_2477 (by decide) (fun c_2477_31 => ?_) (fun c_2477_31 => ?_)
    · refine j_goto (tgt := 3514) dL_law_2493 (by decide) ?_
      refine j_widen (kc' := kc + 200) (ks' := ks + 6000) (by omega) (by omega) ?_
      exact j_lo2 (KK _ _ _ LT2) (z_q1 rfl (z_q1 rfl (z_q1 rfl (z_q1 rfl (z_q1 rfl z_q0)))))
    · refine j_aload_n dL_law_2480 rfl rfl ?_
      obtain ⟨-, -, ⟨ov90, og90⟩, -⟩ := id LT2
      refine j_getf dL_law_2481 fL_13 og90 rfl ?_
      refine j_iload dL_law_2484 rfl ?_
      refine j_i2l dL_law_2486 ?_
      refine j_lcmp dL_law_2487 ?_
      refine j_if_eq (tgt := 2493) dL_law_2488 (by decide) (fun c_2488_41 => ?_) (fun c_2488_41 => ?_)
      · refine j_goto (tgt := 3514) dL_law_2493 (by decide) ?_
        refine j_widen (kc' := kc + 200) (ks' := ks + 6000) (by omega) (by omega) ?_
        exact j_lo2 (KK _ _ _ LT2) (z_q1 rfl (z_q1 rfl (z_q1 rfl (z_q1 rfl (z_q1 rfl z_q0)))))
      · exact absurd (q_cmp (by rw [hn1 c_2477_31, hr2 c_2477_31])) c_2488_41
  · exact absurd ht89 c_2470_29
set_option maxRecDepth 100000 in
set_option maxHeartbeats 4000000 in
theorem lc_29 (hl : l.stackTraces = false) {w : z_W} {x i kc ks : Nat} {S : sp_S} {n : Int64} (LT : z_LX x S S n w) (hi6 : i + 6 ≤ z_sn G) (hsn : z_sn G ≤ 3072) (hkc : kc + 200 ≤ 665722) (hks : ks + 6000 ≤ 7105070) (KK : ∀ (S9 : sp_S) (n9 : Int64) (w9 : z_W), z_LX x S9 S9 n9 w9 → z_J G l mL_law z_SL 3514 (z_lol x i) [] w9 (kc + 200) (ks + 6000)) : z_J G l mL_law z_SL 2496 (z_lol x i) [] w kc ks := by
  show z_J G l mL_law _ 2496 [(0, _), (1, _), (2, _), (3, _), (4, _)] [] _ _ _
  refine j_aload_n dL_law_2496 rfl rfl ?_
  refine j_aload_n dL_law_2497 rfl rfl ?_
  refine j_iload dL_law_2498 rfl ?_
  refine j_iconst (v := 1) dL_law_2500 (by decide) ?_
  refine j_iadd dL_law_2501 ?_
  refine j_top (congrArg Value.int (show nI i + (1 : Int32) = nI (i + 1) from nI_add i 1)) ?_
  refine j_sld dL_law_2502 (by omega) (by omega) ?_
  refine j_aload_n dL_law_2503 rfl rfl ?_
  refine j_iload dL_law_2504 rfl ?_
  refine j_iconst (v := 2) dL_law_2506 (by decide) ?_
  refine j_iadd dL_law_2507 ?_
  refine j_top (congrArg Value.int (show nI i + (2 : Int32) = nI (i + 2) from nI_add i 2)) ?_
  refine j_sld dL_law_2508 (by omega) (by omega) ?_
  refine j_aload_n dL_law_2509 rfl rfl ?_
  refine j_callSW dL_law_2510 kL_at lL_275 stL_at (lw_at hl w _ _ _ _ LT (z_sc G (i + 1)) (z_sc G (i + 2))) (Nat.le_of_ble_eq_true rfl) ⟨(by show _ ≤ 665722; omega), (by show _ ≤ 7105070; omega)⟩ rfl (Nat.le_of_ble_eq_true rfl) rfl rfl (fun _ _ h => h.elim) ?_
  rintro _ w1 ⟨n1, rfl, LT1, hn1⟩
  refine j_istore (lo' := [(5, _), (0, _), (1, _), (2, _), (3, _), (4, _)]) dL_law_2513 (by decide) rfl ?_
  refine j_aload_n dL_law_2515 rfl rfl ?_
  refine j_aload_n dL_law_2516 rfl rfl ?_
  refine j_iload dL_law_2517 rfl ?_
  refine j_iconst (v := 1) dL_law_2519 (by decide) ?_
  refine j_iadd dL_law_2520 ?_
  refine j_top (congrArg Value.int (show nI i + (1 : Int32) = nI (i + 1) from nI_add i 1)) ?_
  refine j_sld dL_law_2521 (by omega) (by omega) ?_
  refine j_aload_n dL_law_2522 rfl rfl ?_
  refine j_iload dL_law_2523 rfl ?_
  refine j_iconst (v := 2) dL_law_2525 (by decide) ?_
  refine j_iadd dL_law_2526 ?_
  refine j_top (congrArg Value.int (show nI i + (2 : Int32) = nI (i + 2) from nI_add i 2)) ?_
  refine j_sld dL_law_2527 (by omega) (by omega) ?_
  obtain ⟨-, ⟨s91, hs91, -⟩, -⟩ := id LT1
  refine j_callV (q := (RX11, TX11, 8)) dL_law_2528 kX11_at lL_277 inX11_at seX11_at hs91.m rfl (kx_at hl w1 LT1 (z_sc G (i + 1)) (z_sc G (i + 2))) (Nat.le_of_ble_eq_true rfl) ⟨(by show _ ≤ 665722; omega), (by show _ ≤ 7105070; omega)⟩ rfl (Nat.le_of_ble_eq_true rfl) rfl rfl (fun _ _ h => h.elim) ?_
  rintro _ w2 ⟨r2, rfl, LT2, th2, hr2⟩
  refine j_istore (lo' := [(6, _), (5, _), (0, _), (1, _), (2, _), (3, _), (4, _)]) dL_law_2531 (by decide) rfl ?_
  refine j_aload_n dL_law_2533 rfl rfl ?_
  obtain ⟨st92, hst92, ht92⟩ := th2
  refine j_callV (q := (RX11, TX11, 8)) dL_law_2534 kX11_thrown lL_176 inX11_thrown seX11_thrown hst92.m rfl (cm_thrown hl w2 _ hst92) (Nat.le_of_ble_eq_true rfl) ⟨(by show _ ≤ 665722; omega), (by show _ ≤ 7105070; omega)⟩ rfl (Nat.le_of_ble_eq_true rfl) rfl rfl (fun _ _ h => h.elim) ?_
  rintro _ _ ⟨rfl, hw92⟩
  refine j_w w2 hw92 ?_
  refine j_iload dL_law_2537 rfl ?_
  refine j_icmp_eq (tgt := 2544) dL_law_2539 (by decide) (fun c_2539_41 => ?_) (fun c_2539_41 => ?_)
  · refine j_iload dL_law_2544 rfl ?_
    refine j_if_ne (tgt := 2562) dL_law_2546 (by decide) (fun c_2546_43 => ?_) (fun c_2546_43 => ?_)
    · refine j_goto (tgt := 3514) dL_law_2562 (by decide) ?_
      refine j_widen (kc' := kc + 200) (ks' := ks + 6000) (by omega) (by omega) ?_
      exact j_lo2 (KK _ _ _ LT2) (z_q1 rfl (z_q1 rfl (z_q1 rfl (z_q1 rfl (z_q1 rfl z_q0)))))
    · refine j_aload_n dL_law_2549 rfl rfl ?_
      obtain ⟨-, -, ⟨ov93, og93⟩, -⟩ := id LT2
      refine j_getf dL_law_2550 fL_13 og93 rfl ?_
      refine j_iload dL_law_2553 rfl ?_
      refine j_i2l dL_law_2555 ?_
      refine j_lcmp dL_law_2556 ?_
      refine j_if_eq (tgt := 2562) dL_law_2557 (by decide) (fun c_2557_53 => ?_) (fun c_2557_53 => ?_)
      · refine j_goto (tgt := 3514) dL_law_2562 (by decide) ?_
        refine j_widen (kc' := kc + 200) (ks' := ks + 6000) (by omega) (by omega) ?_
        exact j_lo2 (KK _ _ _ LT2) (z_q1 rfl (z_q1 rfl (z_q1 rfl (z_q1 rfl (z_q1 rfl z_q0)))))
      · exact absurd (q_cmp (by rw [hn1 c_2546_43, hr2 c_2546_43])) c_2557_53
  · exact absurd ht92 c_2539_41
set_option maxRecDepth 100000 in
set_option maxHeartbeats 4000000 in
theorem lc_30 (hl : l.stackTraces = false) {w : z_W} {x i kc ks : Nat} {S : sp_S} {n : Int64} (LT : z_LX x S S n w) (hi6 : i + 6 ≤ z_sn G) (hsn : z_sn G ≤ 3072) (hkc : kc + 200 ≤ 665722) (hks : ks + 6000 ≤ 7105070) (KK : ∀ (S9 : sp_S) (n9 : Int64) (w9 : z_W), z_LX x S9 S9 n9 w9 → z_J G l mL_law z_SL 3514 (z_lol x i) [] w9 (kc + 200) (ks + 6000)) : z_J G l mL_law z_SL 2565 (z_lol x i) [] w kc ks := by
  show z_J G l mL_law _ 2565 [(0, _), (1, _), (2, _), (3, _), (4, _)] [] _ _ _
  refine j_aload_n dL_law_2565 rfl rfl ?_
  refine j_aload_n dL_law_2566 rfl rfl ?_
  refine j_iload dL_law_2567 rfl ?_
  refine j_iconst (v := 1) dL_law_2569 (by decide) ?_
  refine j_iadd dL_law_2570 ?_
  refine j_top (congrArg Value.int (show nI i + (1 : Int32) = nI (i + 1) from nI_add i 1)) ?_
  refine j_sld dL_law_2571 (by omega) (by omega) ?_
  refine j_aload_n dL_law_2572 rfl rfl ?_
  refine j_callSW dL_law_2573 kL_rowText lL_278 stL_rowText (lw_rowText hl w _ _ _ _ LT (z_sc G (i + 1))) (Nat.le_of_ble_eq_true rfl) ⟨(by show _ ≤ 665722; omega), (by show _ ≤ 7105070; omega)⟩ rfl (Nat.le_of_ble_eq_true rfl) rfl rfl (fun _ _ h => h.elim) ?_
  rintro _ w1 ⟨n1, rfl, LT1, hT1⟩
  refine j_istore (lo' := [(5, _), (0, _), (1, _), (2, _), (3, _), (4, _)]) dL_law_2576 (by decide) rfl ?_
  refine j_aload_n dL_law_2578 rfl rfl ?_
  refine j_aload_n dL_law_2579 rfl rfl ?_
  refine j_iload dL_law_2580 rfl ?_
  refine j_iconst (v := 1) dL_law_2582 (by decide) ?_
  refine j_iadd dL_law_2583 ?_
  refine j_top (congrArg Value.int (show nI i + (1 : Int32) = nI (i + 1) from nI_add i 1)) ?_
  refine j_sld dL_law_2584 (by omega) (by omega) ?_
  obtain ⟨-, ⟨s94, hs94, -⟩, -⟩ := id LT1
  refine j_callV (q := (RX11, TX11, 8)) dL_law_2585 kX11_rowText lL_280 inX11_rowText seX11_rowText hs94.m rfl (kz_rowText hl w1 LT1 (z_sc G (i + 1))) (Nat.le_of_ble_eq_true rfl) ⟨(by show _ ≤ 665722; omega), (by show _ ≤ 7105070; omega)⟩ rfl (Nat.le_of_ble_eq_true rfl) rfl rfl (fun _ _ h => h.elim) ?_
  rintro _ w2 ⟨r2, rfl, hir2, LT2, th2, fm2, hq2⟩
  refine j_astore (lo' := [(6, _), (5, _), (0, _), (1, _), (2, _), (3, _), (4, _)]) dL_law_2588 hir2 (by decide) rfl ?_
  refine j_aload_n dL_law_2590 rfl rfl ?_
  obtain ⟨st95, hst95, ht95⟩ := th2
  refine j_callV (q := (RX11, TX11, 8)) dL_law_2591 kX11_thrown lL_176 inX11_thrown seX11_thrown hst95.m rfl (cm_thrown hl w2 _ hst95) (Nat.le_of_ble_eq_true rfl) ⟨(by show _ ≤ 665722; omega), (by show _ ≤ 7105070; omega)⟩ rfl (Nat.le_of_ble_eq_true rfl) rfl rfl (fun _ _ h => h.elim) ?_
  rintro _ _ ⟨rfl, hw95⟩
  refine j_w w2 hw95 ?_
  refine j_iload dL_law_2594 rfl ?_
  refine j_icmp_eq (tgt := 2601) dL_law_2596 (by decide) (fun c_2596_29 => ?_) (fun c_2596_29 => ?_)
  · refine j_iload dL_law_2601 rfl ?_
    refine j_if_ne (tgt := 2620) dL_law_2603 (by decide) (fun c_2603_31 => ?_) (fun c_2603_31 => ?_)
    · refine j_goto (tgt := 3514) dL_law_2620 (by decide) ?_
      refine j_widen (kc' := kc + 200) (ks' := ks + 6000) (by omega) (by omega) ?_
      exact j_lo2 (KK _ _ _ LT2) (z_q1 rfl (z_q1 rfl (z_q1 rfl (z_q1 rfl (z_q1 rfl z_q0)))))
    · obtain ⟨nq9, rq9, gq9, hxq9⟩ := z_LT.fm (hT1 c_2603_31) LT2.x1 LT2.x2 fm2
      obtain ⟨q9, hr9, hq9⟩ := hq2 c_2603_31
      subst hr9
      refine j_aload_n dL_law_2606 rfl rfl ?_
      refine j_getf dL_law_2607 fL_114 gq9 rfl ?_
      refine j_aload dL_law_2610 rfl rfl ?_
      obtain ⟨fs96, gs96⟩ := hxq9.tx.cell
      refine j_callV (q := (RJ0, TJ0, 4)) dL_law_2612 kJ0_equals_9ea2d lL_266 inJ0_equals_9ea2d seJ0_equals_9ea2d gs96 rfl (tq_eq hl w2 rq9 q9 _ hxq9 hq9) (Nat.le_of_ble_eq_true rfl) ⟨(by show _ ≤ 665722; omega), (by show _ ≤ 7105070; omega)⟩ rfl (Nat.le_of_ble_eq_true rfl) rfl rfl (fun _ _ h => h.elim) ?_
      rintro _ _ ⟨rfl, hw96⟩
      refine j_w w2 hw96 ?_
      refine j_if_ne (tgt := 2620) dL_law_2615 (by decide) (fun c_2615_45 => ?_) (fun c_2615_45 => ?_)
      · refine j_goto (tgt := 3514) dL_law_2620 (by decide) ?_
        refine j_widen (kc' := kc + 200) (ks' := ks + 6000) (by omega) (by omega) ?_
        exact j_lo2 (KK _ _ _ LT2) (z_q1 rfl (z_q1 rfl (z_q1 rfl (z_q1 rfl (z_q1 rfl z_q0)))))
      · exact absurd c_2615_45 (by decide)
  · exact absurd ht95 c_2596_29
set_option maxRecDepth 100000 in
set_option maxHeartbeats 4000000 in
theorem lc_31 (hl : l.stackTraces = false) {w : z_W} {x i kc ks : Nat} {S : sp_S} {n : Int64} (LT : z_LX x S S n w) (hi6 : i + 6 ≤ z_sn G) (hsn : z_sn G ≤ 3072) (hkc : kc + 200 ≤ 665722) (hks : ks + 6000 ≤ 7105070) (KK : ∀ (S9 : sp_S) (n9 : Int64) (w9 : z_W), z_LX x S9 S9 n9 w9 → z_J G l mL_law z_SL 3514 (z_lol x i) [] w9 (kc + 200) (ks + 6000)) : z_J G l mL_law z_SL 2623 (z_lol x i) [] w kc ks := by
  show z_J G l mL_law _ 2623 [(0, _), (1, _), (2, _), (3, _), (4, _)] [] _ _ _
  refine j_aload_n dL_law_2623 rfl rfl ?_
  refine j_aload_n dL_law_2624 rfl rfl ?_
  refine j_iload dL_law_2625 rfl ?_
  refine j_iconst (v := 1) dL_law_2627 (by decide) ?_
  refine j_iadd dL_law_2628 ?_
  refine j_top (congrArg Value.int (show nI i + (1 : Int32) = nI (i + 1) from nI_add i 1)) ?_
  refine j_sld dL_law_2629 (by omega) (by omega) ?_
  refine j_aload_n dL_law_2630 rfl rfl ?_
  refine j_callSW dL_law_2631 kL_isFixed lL_281 stL_isFixed (lw_isFixed hl w _ _ _ _ LT (z_sc G (i + 1))) (Nat.le_of_ble_eq_true rfl) ⟨(by show _ ≤ 665722; omega), (by show _ ≤ 7105070; omega)⟩ rfl (Nat.le_of_ble_eq_true rfl) rfl rfl (fun _ _ h => h.elim) ?_
  rintro _ w1 ⟨n1, rfl, LT1, hn1⟩
  refine j_istore (lo' := [(5, _), (0, _), (1, _), (2, _), (3, _), (4, _)]) dL_law_2634 (by decide) rfl ?_
  refine j_aload_n dL_law_2636 rfl rfl ?_
  refine j_aload_n dL_law_2637 rfl rfl ?_
  refine j_iload dL_law_2638 rfl ?_
  refine j_iconst (v := 1) dL_law_2640 (by decide) ?_
  refine j_iadd dL_law_2641 ?_
  refine j_top (congrArg Value.int (show nI i + (1 : Int32) = nI (i + 1) from nI_add i 1)) ?_
  refine j_sld dL_law_2642 (by omega) (by omega) ?_
  obtain ⟨-, ⟨s97, hs97, -⟩, -⟩ := id LT1
  refine j_callV (q := (RX11, TX11, 8)) dL_law_2643 kX11_isFixed lL_283 inX11_isFixed seX11_isFixed hs97.m rfl (kx_isFixed hl w1 LT1 (z_sc G (i + 1))) (Nat.le_of_ble_eq_true rfl) ⟨(by show _ ≤ 665722; omega), (by show _ ≤ 7105070; omega)⟩ rfl (Nat.le_of_ble_eq_true rfl) rfl rfl (fun _ _ h => h.elim) ?_
  rintro _ w2 ⟨r2, rfl, LT2, th2, hr2⟩
  refine j_istore (lo' := [(6, _), (5, _), (0, _), (1, _), (2, _), (3, _), (4, _)]) dL_law_2646 (by decide) rfl ?_
  refine j_aload_n dL_law_2648 rfl rfl ?_
  obtain ⟨st98, hst98, ht98⟩ := th2
  refine j_callV (q := (RX11, TX11, 8)) dL_law_2649 kX11_thrown lL_176 inX11_thrown seX11_thrown hst98.m rfl (cm_thrown hl w2 _ hst98) (Nat.le_of_ble_eq_true rfl) ⟨(by show _ ≤ 665722; omega), (by show _ ≤ 7105070; omega)⟩ rfl (Nat.le_of_ble_eq_true rfl) rfl rfl (fun _ _ h => h.elim) ?_
  rintro _ _ ⟨rfl, hw98⟩
  refine j_w w2 hw98 ?_
  refine j_iload dL_law_2652 rfl ?_
  refine j_icmp_eq (tgt := 2659) dL_law_2654 (by decide) (fun c_2654_29 => ?_) (fun c_2654_29 => ?_)
  · refine j_iload dL_law_2659 rfl ?_
    refine j_if_ne (tgt := 2684) dL_law_2661 (by decide) (fun c_2661_31 => ?_) (fun c_2661_31 => ?_)
    · refine j_goto (tgt := 3514) dL_law_2684 (by decide) ?_
      refine j_widen (kc' := kc + 200) (ks' := ks + 6000) (by omega) (by omega) ?_
      exact j_lo2 (KK _ _ _ LT2) (z_q1 rfl (z_q1 rfl (z_q1 rfl (z_q1 rfl (z_q1 rfl z_q0)))))
    · refine j_aload_n dL_law_2664 rfl rfl ?_
      obtain ⟨-, -, ⟨ov99, og99⟩, -⟩ := id LT2
      refine j_getf dL_law_2665 fL_13 og99 rfl ?_
      refine j_iload dL_law_2668 rfl ?_
      refine j_if_eq (tgt := 2677) dL_law_2670 (by decide) (fun c_2670_39 => ?_) (fun c_2670_39 => ?_)
      · refine j_lconst (v := 0) dL_law_2677 (by decide) ?_
        refine j_lcmp dL_law_2678 ?_
        refine j_if_eq (tgt := 2684) dL_law_2679 (by decide) (fun c_2679_42 => ?_) (fun c_2679_42 => ?_)
        · refine j_goto (tgt := 3514) dL_law_2684 (by decide) ?_
          refine j_widen (kc' := kc + 200) (ks' := ks + 6000) (by omega) (by omega) ?_
          exact j_lo2 (KK _ _ _ LT2) (z_q1 rfl (z_q1 rfl (z_q1 rfl (z_q1 rfl (z_q1 rfl z_q0)))))
        · exact absurd (q_cmp (by rw [hn1 c_2661_31]; have z9 := hr2 c_2661_31; have z8 := c_2670_39; rw [z9] at z8; first | (rw [z8]; rfl) | (rw [show a_isFixed S (z_sc G (i + 1)) = 1 from congrArg z_bi (z_bt z8)]; rfl))) c_2679_42
      · refine j_lconst (v := 1) dL_law_2673 (by decide) ?_
        refine j_goto (tgt := 2678) dL_law_2674 (by decide) ?_
        refine j_lcmp dL_law_2678 ?_
        refine j_if_eq (tgt := 2684) dL_law_2679 (by decide) (fun c_2679_50 => ?_) (fun c_2679_50 => ?_)
        · refine j_goto (tgt := 3514) dL_law_2684 (by decide) ?_
          refine j_widen (kc' := kc + 200) (ks' := ks + 6000) (by omega) (by omega) ?_
          exact j_lo2 (KK _ _ _ LT2) (z_q1 rfl (z_q1 rfl (z_q1 rfl (z_q1 rfl (z_q1 rfl z_q0)))))
        · exact absurd (q_cmp (by rw [hn1 c_2661_31]; have z9 := hr2 c_2661_31; have z8 := c_2670_39; rw [z9] at z8; first | (rw [z8]; rfl) | (rw [show a_isFixed S (z_sc G (i + 1)) = 1 from congrArg z_bi (z_bt z8)]; rfl))) c_2679_50
  · exact absurd ht98 c_2654_29
set_option maxRecDepth 100000 in
set_option maxHeartbeats 4000000 in
theorem lc_32 (hl : l.stackTraces = false) {w : z_W} {x i kc ks : Nat} {S : sp_S} {n : Int64} (LT : z_LX x S S n w) (hi6 : i + 6 ≤ z_sn G) (hsn : z_sn G ≤ 3072) (hkc : kc + 200 ≤ 665722) (hks : ks + 6000 ≤ 7105070) (KK : ∀ (S9 : sp_S) (n9 : Int64) (w9 : z_W), z_LX x S9 S9 n9 w9 → z_J G l mL_law z_SL 3514 (z_lol x i) [] w9 (kc + 200) (ks + 6000)) : z_J G l mL_law z_SL 2687 (z_lol x i) [] w kc ks := by
  show z_J G l mL_law _ 2687 [(0, _), (1, _), (2, _), (3, _), (4, _)] [] _ _ _
  refine j_aload_n dL_law_2687 rfl rfl ?_
  refine j_aload_n dL_law_2688 rfl rfl ?_
  refine j_iload dL_law_2689 rfl ?_
  refine j_iconst (v := 1) dL_law_2691 (by decide) ?_
  refine j_iadd dL_law_2692 ?_
  refine j_top (congrArg Value.int (show nI i + (1 : Int32) = nI (i + 1) from nI_add i 1)) ?_
  refine j_sld dL_law_2693 (by omega) (by omega) ?_
  refine j_aload_n dL_law_2694 rfl rfl ?_
  refine j_iload dL_law_2695 rfl ?_
  refine j_iconst (v := 2) dL_law_2697 (by decide) ?_
  refine j_iadd dL_law_2698 ?_
  refine j_top (congrArg Value.int (show nI i + (2 : Int32) = nI (i + 2) from nI_add i 2)) ?_
  refine j_sld dL_law_2699 (by omega) (by omega) ?_
  refine j_aload_n dL_law_2700 rfl rfl ?_
  refine j_callSW dL_law_2701 kL_counts lL_284 stL_counts (lw_counts hl w _ _ _ _ LT (z_sc G (i + 1)) (z_sc G (i + 2))) (Nat.le_of_ble_eq_true rfl) ⟨(by show _ ≤ 665722; omega), (by show _ ≤ 7105070; omega)⟩ rfl (Nat.le_of_ble_eq_true rfl) rfl rfl (fun _ _ h => h.elim) ?_
  rintro _ w1 ⟨n1, rfl, LT1, hn1⟩
  refine j_istore (lo' := [(5, _), (0, _), (1, _), (2, _), (3, _), (4, _)]) dL_law_2704 (by decide) rfl ?_
  refine j_aload_n dL_law_2706 rfl rfl ?_
  refine j_aload_n dL_law_2707 rfl rfl ?_
  refine j_iload dL_law_2708 rfl ?_
  refine j_iconst (v := 1) dL_law_2710 (by decide) ?_
  refine j_iadd dL_law_2711 ?_
  refine j_top (congrArg Value.int (show nI i + (1 : Int32) = nI (i + 1) from nI_add i 1)) ?_
  refine j_sld dL_law_2712 (by omega) (by omega) ?_
  refine j_aload_n dL_law_2713 rfl rfl ?_
  refine j_iload dL_law_2714 rfl ?_
  refine j_iconst (v := 2) dL_law_2716 (by decide) ?_
  refine j_iadd dL_law_2717 ?_
  refine j_top (congrArg Value.int (show nI i + (2 : Int32) = nI (i + 2) from nI_add i 2)) ?_
  refine j_sld dL_law_2718 (by omega) (by omega) ?_
  obtain ⟨-, ⟨s100, hs100, -⟩, -⟩ := id LT1
  refine j_callV (q := (RX11, TX11, 8)) dL_law_2719 kX11_counts lL_286 inX11_counts seX11_counts hs100.m rfl (kx_counts hl w1 LT1 (z_sc G (i + 1)) (z_sc G (i + 2))) (Nat.le_of_ble_eq_true rfl) ⟨(by show _ ≤ 665722; omega), (by show _ ≤ 7105070; omega)⟩ rfl (Nat.le_of_ble_eq_true rfl) rfl rfl (fun _ _ h => h.elim) ?_
  rintro _ w2 ⟨r2, rfl, LT2, th2, hr2⟩
  refine j_istore (lo' := [(6, _), (5, _), (0, _), (1, _), (2, _), (3, _), (4, _)]) dL_law_2722 (by decide) rfl ?_
  refine j_aload_n dL_law_2724 rfl rfl ?_
  obtain ⟨st101, hst101, ht101⟩ := th2
  refine j_callV (q := (RX11, TX11, 8)) dL_law_2725 kX11_thrown lL_176 inX11_thrown seX11_thrown hst101.m rfl (cm_thrown hl w2 _ hst101) (Nat.le_of_ble_eq_true rfl) ⟨(by show _ ≤ 665722; omega), (by show _ ≤ 7105070; omega)⟩ rfl (Nat.le_of_ble_eq_true rfl) rfl rfl (fun _ _ h => h.elim) ?_
  rintro _ _ ⟨rfl, hw101⟩
  refine j_w w2 hw101 ?_
  refine j_iload dL_law_2728 rfl ?_
  refine j_icmp_eq (tgt := 2735) dL_law_2730 (by decide) (fun c_2730_41 => ?_) (fun c_2730_41 => ?_)
  · refine j_iload dL_law_2735 rfl ?_
    refine j_if_ne (tgt := 2753) dL_law_2737 (by decide) (fun c_2737_43 => ?_) (fun c_2737_43 => ?_)
    · refine j_goto (tgt := 3514) dL_law_2753 (by decide) ?_
      refine j_widen (kc' := kc + 200) (ks' := ks + 6000) (by omega) (by omega) ?_
      exact j_lo2 (KK _ _ _ LT2) (z_q1 rfl (z_q1 rfl (z_q1 rfl (z_q1 rfl (z_q1 rfl z_q0)))))
    · refine j_aload_n dL_law_2740 rfl rfl ?_
      obtain ⟨-, -, ⟨ov102, og102⟩, -⟩ := id LT2
      refine j_getf dL_law_2741 fL_13 og102 rfl ?_
      refine j_iload dL_law_2744 rfl ?_
      refine j_i2l dL_law_2746 ?_
      refine j_lcmp dL_law_2747 ?_
      refine j_if_eq (tgt := 2753) dL_law_2748 (by decide) (fun c_2748_53 => ?_) (fun c_2748_53 => ?_)
      · refine j_goto (tgt := 3514) dL_law_2753 (by decide) ?_
        refine j_widen (kc' := kc + 200) (ks' := ks + 6000) (by omega) (by omega) ?_
        exact j_lo2 (KK _ _ _ LT2) (z_q1 rfl (z_q1 rfl (z_q1 rfl (z_q1 rfl (z_q1 rfl z_q0)))))
      · exact absurd (q_cmp (by rw [hn1 c_2737_43, hr2 c_2737_43])) c_2748_53
  · exact absurd ht101 c_2730_41
set_option maxRecDepth 100000 in
set_option maxHeartbeats 4000000 in
theorem lc_33 (hl : l.stackTraces = false) {w : z_W} {x i kc ks : Nat} {S : sp_S} {n : Int64} (LT : z_LX x S S n w) (hi6 : i + 6 ≤ z_sn G) (hsn : z_sn G ≤ 3072) (hkc : kc + 200 ≤ 665722) (hks : ks + 6000 ≤ 7105070) (KK : ∀ (S9 : sp_S) (n9 : Int64) (w9 : z_W), z_LX x S9 S9 n9 w9 → z_J G l mL_law z_SL 3514 (z_lol x i) [] w9 (kc + 200) (ks + 6000)) : z_J G l mL_law z_SL 2756 (z_lol x i) [] w kc ks := by
  show z_J G l mL_law _ 2756 [(0, _), (1, _), (2, _), (3, _), (4, _)] [] _ _ _
  refine j_aload_n dL_law_2756 rfl rfl ?_
  refine j_aload_n dL_law_2757 rfl rfl ?_
  refine j_iload dL_law_2758 rfl ?_
  refine j_iconst (v := 1) dL_law_2760 (by decide) ?_
  refine j_iadd dL_law_2761 ?_
  refine j_top (congrArg Value.int (show nI i + (1 : Int32) = nI (i + 1) from nI_add i 1)) ?_
  refine j_sld dL_law_2762 (by omega) (by omega) ?_
  refine j_aload_n dL_law_2763 rfl rfl ?_
  refine j_callSW dL_law_2764 kL_shelfCounts lL_287 stL_shelfCounts (lw_shelfCounts hl w _ _ _ _ LT (z_sc G (i + 1))) (Nat.le_of_ble_eq_true rfl) ⟨(by show _ ≤ 665722; omega), (by show _ ≤ 7105070; omega)⟩ rfl (Nat.le_of_ble_eq_true rfl) rfl rfl (fun _ _ h => h.elim) ?_
  rintro _ w1 ⟨n1, rfl, LT1, hn1⟩
  refine j_istore (lo' := [(5, _), (0, _), (1, _), (2, _), (3, _), (4, _)]) dL_law_2767 (by decide) rfl ?_
  refine j_aload_n dL_law_2769 rfl rfl ?_
  refine j_aload_n dL_law_2770 rfl rfl ?_
  refine j_iload dL_law_2771 rfl ?_
  refine j_iconst (v := 1) dL_law_2773 (by decide) ?_
  refine j_iadd dL_law_2774 ?_
  refine j_top (congrArg Value.int (show nI i + (1 : Int32) = nI (i + 1) from nI_add i 1)) ?_
  refine j_sld dL_law_2775 (by omega) (by omega) ?_
  obtain ⟨-, ⟨s103, hs103, -⟩, -⟩ := id LT1
  refine j_callV (q := (RX11, TX11, 8)) dL_law_2776 kX11_shelfCounts lL_289 inX11_shelfCounts seX11_shelfCounts hs103.m rfl (kx_shelfCounts hl w1 LT1 (z_sc G (i + 1))) (Nat.le_of_ble_eq_true rfl) ⟨(by show _ ≤ 665722; omega), (by show _ ≤ 7105070; omega)⟩ rfl (Nat.le_of_ble_eq_true rfl) rfl rfl (fun _ _ h => h.elim) ?_
  rintro _ w2 ⟨r2, rfl, LT2, th2, hr2⟩
  refine j_istore (lo' := [(6, _), (5, _), (0, _), (1, _), (2, _), (3, _), (4, _)]) dL_law_2779 (by decide) rfl ?_
  refine j_aload_n dL_law_2781 rfl rfl ?_
  obtain ⟨st104, hst104, ht104⟩ := th2
  refine j_callV (q := (RX11, TX11, 8)) dL_law_2782 kX11_thrown lL_176 inX11_thrown seX11_thrown hst104.m rfl (cm_thrown hl w2 _ hst104) (Nat.le_of_ble_eq_true rfl) ⟨(by show _ ≤ 665722; omega), (by show _ ≤ 7105070; omega)⟩ rfl (Nat.le_of_ble_eq_true rfl) rfl rfl (fun _ _ h => h.elim) ?_
  rintro _ _ ⟨rfl, hw104⟩
  refine j_w w2 hw104 ?_
  refine j_iload dL_law_2785 rfl ?_
  refine j_icmp_eq (tgt := 2792) dL_law_2787 (by decide) (fun c_2787_29 => ?_) (fun c_2787_29 => ?_)
  · refine j_iload dL_law_2792 rfl ?_
    refine j_if_ne (tgt := 2810) dL_law_2794 (by decide) (fun c_2794_31 => ?_) (fun c_2794_31 => ?_)
    · refine j_goto (tgt := 3514) dL_law_2810 (by decide) ?_
      refine j_widen (kc' := kc + 200) (ks' := ks + 6000) (by omega) (by omega) ?_
      exact j_lo2 (KK _ _ _ LT2) (z_q1 rfl (z_q1 rfl (z_q1 rfl (z_q1 rfl (z_q1 rfl z_q0)))))
    · refine j_aload_n dL_law_2797 rfl rfl ?_
      obtain ⟨-, -, ⟨ov105, og105⟩, -⟩ := id LT2
      refine j_getf dL_law_2798 fL_13 og105 rfl ?_
      refine j_iload dL_law_2801 rfl ?_
      refine j_i2l dL_law_2803 ?_
      refine j_lcmp dL_law_2804 ?_
      refine j_if_eq (tgt := 2810) dL_law_2805 (by decide) (fun c_2805_41 => ?_) (fun c_2805_41 => ?_)
      · refine j_goto (tgt := 3514) dL_law_2810 (by decide) ?_
        refine j_widen (kc' := kc + 200) (ks' := ks + 6000) (by omega) (by omega) ?_
        exact j_lo2 (KK _ _ _ LT2) (z_q1 rfl (z_q1 rfl (z_q1 rfl (z_q1 rfl (z_q1 rfl z_q0)))))
      · exact absurd (q_cmp (by rw [hn1 c_2794_31, hr2 c_2794_31])) c_2805_41
  · exact absurd ht104 c_2787_29
set_option maxRecDepth 100000 in
set_option maxHeartbeats 4000000 in
theorem lc_34 (hl : l.stackTraces = false) {w : z_W} {x i kc ks : Nat} {S : sp_S} {n : Int64} (LT : z_LX x S S n w) (hi6 : i + 6 ≤ z_sn G) (hsn : z_sn G ≤ 3072) (hkc : kc + 200 ≤ 665722) (hks : ks + 6000 ≤ 7105070) (KK : ∀ (S9 : sp_S) (n9 : Int64) (w9 : z_W), z_LX x S9 S9 n9 w9 → z_J G l mL_law z_SL 3514 (z_lol x i) [] w9 (kc + 200) (ks + 6000)) : z_J G l mL_law z_SL 2813 (z_lol x i) [] w kc ks := by
  show z_J G l mL_law _ 2813 [(0, _), (1, _), (2, _), (3, _), (4, _)] [] _ _ _
  refine j_aload_n dL_law_2813 rfl rfl ?_
  obtain ⟨fs106, gs106⟩ := LT.rc
  refine j_callV (q := (RX8, TX8, 9)) dL_law_2814 kX8_forgetCounts lL_290 inX8_forgetCounts seX8_forgetCounts gs106 rfl (px_forgetCounts hl w _ LT.1.1 LT.1.2) (Nat.le_of_ble_eq_true rfl) ⟨(by show _ ≤ 665722; omega), (by show _ ≤ 7105070; omega)⟩ rfl (Nat.le_of_ble_eq_true rfl) rfl rfl (fun _ _ h => h.elim) ?_
  rintro _ w1 ⟨rfl, hW1, hh1⟩
  have LT1 := LT.cls hW1 (okk_forgetCounts LT.1.2) hh1
  refine j_aload_n dL_law_2817 rfl rfl ?_
  obtain ⟨-, ⟨s107, hs107, -⟩, -⟩ := id LT1
  refine j_callV (q := (RX11, TX11, 8)) dL_law_2818 kX11_forgetCounts lL_293 inX11_forgetCounts seX11_forgetCounts hs107.m rfl (kx_forgetCounts hl w1 LT1) (Nat.le_of_ble_eq_true rfl) ⟨(by show _ ≤ 665722; omega), (by show _ ≤ 7105070; omega)⟩ rfl (Nat.le_of_ble_eq_true rfl) rfl rfl (fun _ _ h => h.elim) ?_
  rintro _ w2 ⟨r2, rfl, LT2, th2, hr2⟩
  refine j_icmp_eq (tgt := 3514) dL_law_2821 (by decide) (fun c_2821_10 => ?_) (fun c_2821_10 => ?_)
  · refine j_widen (kc' := kc + 200) (ks' := ks + 6000) (by omega) (by omega) ?_
    exact j_lo2 (KK _ _ _ LT2) (z_q1 rfl (z_q1 rfl (z_q1 rfl (z_q1 rfl (z_q1 rfl z_q0)))))
  · exact absurd hr2.symm c_2821_10
set_option maxRecDepth 100000 in
set_option maxHeartbeats 4000000 in
theorem lc_35 (hl : l.stackTraces = false) {w : z_W} {x i kc ks : Nat} {S : sp_S} {n : Int64} (LT : z_LX x S S n w) (hi6 : i + 6 ≤ z_sn G) (hsn : z_sn G ≤ 3072) (hkc : kc + 200 ≤ 665722) (hks : ks + 6000 ≤ 7105070) (KK : ∀ (S9 : sp_S) (n9 : Int64) (w9 : z_W), z_LX x S9 S9 n9 w9 → z_J G l mL_law z_SL 3514 (z_lol x i) [] w9 (kc + 200) (ks + 6000)) : z_J G l mL_law z_SL 2826 (z_lol x i) [] w kc ks := by
  show z_J G l mL_law _ 2826 [(0, _), (1, _), (2, _), (3, _), (4, _)] [] _ _ _
  refine j_aload_n dL_law_2826 rfl rfl ?_
  refine j_aload_n dL_law_2827 rfl rfl ?_
  refine j_iload dL_law_2828 rfl ?_
  refine j_iconst (v := 1) dL_law_2830 (by decide) ?_
  refine j_iadd dL_law_2831 ?_
  refine j_top (congrArg Value.int (show nI i + (1 : Int32) = nI (i + 1) from nI_add i 1)) ?_
  refine j_sld dL_law_2832 (by omega) (by omega) ?_
  refine j_aload_n dL_law_2833 rfl rfl ?_
  refine j_iload dL_law_2834 rfl ?_
  refine j_iconst (v := 2) dL_law_2836 (by decide) ?_
  refine j_iadd dL_law_2837 ?_
  refine j_top (congrArg Value.int (show nI i + (2 : Int32) = nI (i + 2) from nI_add i 2)) ?_
  refine j_sld dL_law_2838 (by omega) (by omega) ?_
  refine j_aload_n dL_law_2839 rfl rfl ?_
  refine j_callSW dL_law_2840 kL_get lL_294 stL_get (lw_get hl w _ _ _ _ LT (z_sc G (i + 1)) (z_sc G (i + 2))) (Nat.le_of_ble_eq_true rfl) ⟨(by show _ ≤ 665722; omega), (by show _ ≤ 7105070; omega)⟩ rfl (Nat.le_of_ble_eq_true rfl) rfl rfl (fun _ _ h => h.elim) ?_
  rintro _ w1 ⟨n1, rfl, LT1, hn1⟩
  refine j_istore (lo' := [(5, _), (0, _), (1, _), (2, _), (3, _), (4, _)]) dL_law_2843 (by decide) rfl ?_
  refine j_aload_n dL_law_2845 rfl rfl ?_
  refine j_aload_n dL_law_2846 rfl rfl ?_
  refine j_iload dL_law_2847 rfl ?_
  refine j_iconst (v := 1) dL_law_2849 (by decide) ?_
  refine j_iadd dL_law_2850 ?_
  refine j_top (congrArg Value.int (show nI i + (1 : Int32) = nI (i + 1) from nI_add i 1)) ?_
  refine j_sld dL_law_2851 (by omega) (by omega) ?_
  refine j_aload_n dL_law_2852 rfl rfl ?_
  refine j_iload dL_law_2853 rfl ?_
  refine j_iconst (v := 2) dL_law_2855 (by decide) ?_
  refine j_iadd dL_law_2856 ?_
  refine j_top (congrArg Value.int (show nI i + (2 : Int32) = nI (i + 2) from nI_add i 2)) ?_
  refine j_sld dL_law_2857 (by omega) (by omega) ?_
  obtain ⟨-, ⟨s108, hs108, -⟩, -⟩ := id LT1
  refine j_callV (q := (RX11, TX11, 8)) dL_law_2858 kX11_get lL_296 inX11_get seX11_get hs108.m rfl (kx_get hl w1 LT1 (z_sc G (i + 1)) (z_sc G (i + 2))) (Nat.le_of_ble_eq_true rfl) ⟨(by show _ ≤ 665722; omega), (by show _ ≤ 7105070; omega)⟩ rfl (Nat.le_of_ble_eq_true rfl) rfl rfl (fun _ _ h => h.elim) ?_
  rintro _ w2 ⟨r2, rfl, LT2, th2, hr2⟩
  refine j_istore (lo' := [(6, _), (5, _), (0, _), (1, _), (2, _), (3, _), (4, _)]) dL_law_2861 (by decide) rfl ?_
  refine j_aload_n dL_law_2863 rfl rfl ?_
  obtain ⟨st109, hst109, ht109⟩ := th2
  refine j_callV (q := (RX11, TX11, 8)) dL_law_2864 kX11_thrown lL_176 inX11_thrown seX11_thrown hst109.m rfl (cm_thrown hl w2 _ hst109) (Nat.le_of_ble_eq_true rfl) ⟨(by show _ ≤ 665722; omega), (by show _ ≤ 7105070; omega)⟩ rfl (Nat.le_of_ble_eq_true rfl) rfl rfl (fun _ _ h => h.elim) ?_
  rintro _ _ ⟨rfl, hw109⟩
  refine j_w w2 hw109 ?_
  refine j_iload dL_law_2867 rfl ?_
  refine j_icmp_eq (tgt := 2874) dL_law_2869 (by decide) (fun c_2869_41 => ?_) (fun c_2869_41 => ?_)
  · refine j_iload dL_law_2874 rfl ?_
    refine j_if_ne (tgt := 2892) dL_law_2876 (by decide) (fun c_2876_43 => ?_) (fun c_2876_43 => ?_)
    · refine j_goto (tgt := 3514) dL_law_2892 (by decide) ?_
      refine j_widen (kc' := kc + 200) (ks' := ks + 6000) (by omega) (by omega) ?_
      exact j_lo2 (KK _ _ _ LT2) (z_q1 rfl (z_q1 rfl (z_q1 rfl (z_q1 rfl (z_q1 rfl z_q0)))))
    · refine j_aload_n dL_law_2879 rfl rfl ?_
      obtain ⟨-, -, ⟨ov110, og110⟩, -⟩ := id LT2
      refine j_getf dL_law_2880 fL_13 og110 rfl ?_
      refine j_iload dL_law_2883 rfl ?_
      refine j_i2l dL_law_2885 ?_
      refine j_lcmp dL_law_2886 ?_
      refine j_if_eq (tgt := 2892) dL_law_2887 (by decide) (fun c_2887_53 => ?_) (fun c_2887_53 => ?_)
      · refine j_goto (tgt := 3514) dL_law_2892 (by decide) ?_
        refine j_widen (kc' := kc + 200) (ks' := ks + 6000) (by omega) (by omega) ?_
        exact j_lo2 (KK _ _ _ LT2) (z_q1 rfl (z_q1 rfl (z_q1 rfl (z_q1 rfl (z_q1 rfl z_q0)))))
      · exact absurd (q_cmp (by rw [hn1 c_2876_43, hr2 c_2876_43])) c_2887_53
  · exact absurd ht109 c_2869_41
set_option maxRecDepth 100000 in
set_option maxHeartbeats 4000000 in
theorem lc_36 (hl : l.stackTraces = false) {w : z_W} {x i kc ks : Nat} {S : sp_S} {n : Int64} (LT : z_LX x S S n w) (hi6 : i + 6 ≤ z_sn G) (hsn : z_sn G ≤ 3072) (hkc : kc + 200 ≤ 665722) (hks : ks + 6000 ≤ 7105070) (KK : ∀ (S9 : sp_S) (n9 : Int64) (w9 : z_W), z_LX x S9 S9 n9 w9 → z_J G l mL_law z_SL 3514 (z_lol x i) [] w9 (kc + 200) (ks + 6000)) : z_J G l mL_law z_SL 2895 (z_lol x i) [] w kc ks := by
  show z_J G l mL_law _ 2895 [(0, _), (1, _), (2, _), (3, _), (4, _)] [] _ _ _
  refine j_aload_n dL_law_2895 rfl rfl ?_
  refine j_aload_n dL_law_2896 rfl rfl ?_
  refine j_iload dL_law_2897 rfl ?_
  refine j_iconst (v := 1) dL_law_2899 (by decide) ?_
  refine j_iadd dL_law_2900 ?_
  refine j_top (congrArg Value.int (show nI i + (1 : Int32) = nI (i + 1) from nI_add i 1)) ?_
  refine j_sld dL_law_2901 (by omega) (by omega) ?_
  refine j_aload_n dL_law_2902 rfl rfl ?_
  refine j_iload dL_law_2903 rfl ?_
  refine j_iconst (v := 2) dL_law_2905 (by decide) ?_
  refine j_iadd dL_law_2906 ?_
  refine j_top (congrArg Value.int (show nI i + (2 : Int32) = nI (i + 2) from nI_add i 2)) ?_
  refine j_sld dL_law_2907 (by omega) (by omega) ?_
  refine j_aload_n dL_law_2908 rfl rfl ?_
  refine j_iload dL_law_2909 rfl ?_
  refine j_iconst (v := 3) dL_law_2911 (by decide) ?_
  refine j_iadd dL_law_2912 ?_
  refine j_top (congrArg Value.int (show nI i + (3 : Int32) = nI (i + 3) from nI_add i 3)) ?_
  refine j_sld dL_law_2913 (by omega) (by omega) ?_
  refine j_aload_n dL_law_2914 rfl rfl ?_
  refine j_callSW dL_law_2915 kL_getOr lL_297 stL_getOr (lw_getOr hl w _ _ _ _ LT (z_sc G (i + 1)) (z_sc G (i + 2)) (z_sc G (i + 3))) (Nat.le_of_ble_eq_true rfl) ⟨(by show _ ≤ 665722; omega), (by show _ ≤ 7105070; omega)⟩ rfl (Nat.le_of_ble_eq_true rfl) rfl rfl (fun _ _ h => h.elim) ?_
  rintro _ w1 ⟨n1, rfl, LT1, hn1⟩
  refine j_istore (lo' := [(5, _), (0, _), (1, _), (2, _), (3, _), (4, _)]) dL_law_2918 (by decide) rfl ?_
  refine j_aload_n dL_law_2920 rfl rfl ?_
  refine j_aload_n dL_law_2921 rfl rfl ?_
  refine j_iload dL_law_2922 rfl ?_
  refine j_iconst (v := 1) dL_law_2924 (by decide) ?_
  refine j_iadd dL_law_2925 ?_
  refine j_top (congrArg Value.int (show nI i + (1 : Int32) = nI (i + 1) from nI_add i 1)) ?_
  refine j_sld dL_law_2926 (by omega) (by omega) ?_
  refine j_aload_n dL_law_2927 rfl rfl ?_
  refine j_iload dL_law_2928 rfl ?_
  refine j_iconst (v := 2) dL_law_2930 (by decide) ?_
  refine j_iadd dL_law_2931 ?_
  refine j_top (congrArg Value.int (show nI i + (2 : Int32) = nI (i + 2) from nI_add i 2)) ?_
  refine j_sld dL_law_2932 (by omega) (by omega) ?_
  refine j_aload_n dL_law_2933 rfl rfl ?_
  refine j_iload dL_law_2934 rfl ?_
  refine j_iconst (v := 3) dL_law_2936 (by decide) ?_
  refine j_iadd dL_law_2937 ?_
  refine j_top (congrArg Value.int (show nI i + (3 : Int32) = nI (i + 3) from nI_add i 3)) ?_
  refine j_sld dL_law_2938 (by omega) (by omega) ?_
  obtain ⟨-, ⟨s111, hs111, -⟩, -⟩ := id LT1
  refine j_callV (q := (RX11, TX11, 8)) dL_law_2939 kX11_getOr lL_299 inX11_getOr seX11_getOr hs111.m rfl (kx_getOr hl w1 LT1 (z_sc G (i + 1)) (z_sc G (i + 2)) (z_sc G (i + 3))) (Nat.le_of_ble_eq_true rfl) ⟨(by show _ ≤ 665722; omega), (by show _ ≤ 7105070; omega)⟩ rfl (Nat.le_of_ble_eq_true rfl) rfl rfl (fun _ _ h => h.elim) ?_
  rintro _ w2 ⟨r2, rfl, LT2, th2, hr2⟩
  refine j_istore (lo' := [(6, _), (5, _), (0, _), (1, _), (2, _), (3, _), (4, _)]) dL_law_2942 (by decide) rfl ?_
  refine j_aload_n dL_law_2944 rfl rfl ?_
  obtain ⟨st112, hst112, ht112⟩ := th2
  refine j_callV (q := (RX11, TX11, 8)) dL_law_2945 kX11_thrown lL_176 inX11_thrown seX11_thrown hst112.m rfl (cm_thrown hl w2 _ hst112) (Nat.le_of_ble_eq_true rfl) ⟨(by show _ ≤ 665722; omega), (by show _ ≤ 7105070; omega)⟩ rfl (Nat.le_of_ble_eq_true rfl) rfl rfl (fun _ _ h => h.elim) ?_
  rintro _ _ ⟨rfl, hw112⟩
  refine j_w w2 hw112 ?_
  refine j_iload dL_law_2948 rfl ?_
  refine j_icmp_eq (tgt := 2955) dL_law_2950 (by decide) (fun c_2950_53 => ?_) (fun c_2950_53 => ?_)
  · refine j_iload dL_law_2955 rfl ?_
    refine j_if_ne (tgt := 2973) dL_law_2957 (by decide) (fun c_2957_55 => ?_) (fun c_2957_55 => ?_)
    · refine j_goto (tgt := 3514) dL_law_2973 (by decide) ?_
      refine j_widen (kc' := kc + 200) (ks' := ks + 6000) (by omega) (by omega) ?_
      exact j_lo2 (KK _ _ _ LT2) (z_q1 rfl (z_q1 rfl (z_q1 rfl (z_q1 rfl (z_q1 rfl z_q0)))))
    · refine j_aload_n dL_law_2960 rfl rfl ?_
      obtain ⟨-, -, ⟨ov113, og113⟩, -⟩ := id LT2
      refine j_getf dL_law_2961 fL_13 og113 rfl ?_
      refine j_iload dL_law_2964 rfl ?_
      refine j_i2l dL_law_2966 ?_
      refine j_lcmp dL_law_2967 ?_
      refine j_if_eq (tgt := 2973) dL_law_2968 (by decide) (fun c_2968_65 => ?_) (fun c_2968_65 => ?_)
      · refine j_goto (tgt := 3514) dL_law_2973 (by decide) ?_
        refine j_widen (kc' := kc + 200) (ks' := ks + 6000) (by omega) (by omega) ?_
        exact j_lo2 (KK _ _ _ LT2) (z_q1 rfl (z_q1 rfl (z_q1 rfl (z_q1 rfl (z_q1 rfl z_q0)))))
      · exact absurd (q_cmp (by rw [hn1 c_2957_55, hr2 c_2957_55])) c_2968_65
  · exact absurd ht112 c_2950_53
set_option maxRecDepth 100000 in
set_option maxHeartbeats 4000000 in
theorem lc_37 (hl : l.stackTraces = false) {w : z_W} {x i kc ks : Nat} {S : sp_S} {n : Int64} (LT : z_LX x S S n w) (hi6 : i + 6 ≤ z_sn G) (hsn : z_sn G ≤ 3072) (hkc : kc + 200 ≤ 665722) (hks : ks + 6000 ≤ 7105070) (KK : ∀ (S9 : sp_S) (n9 : Int64) (w9 : z_W), z_LX x S9 S9 n9 w9 → z_J G l mL_law z_SL 3514 (z_lol x i) [] w9 (kc + 200) (ks + 6000)) : z_J G l mL_law z_SL 2976 (z_lol x i) [] w kc ks := by
  show z_J G l mL_law _ 2976 [(0, _), (1, _), (2, _), (3, _), (4, _)] [] _ _ _
  refine j_aload_n dL_law_2976 rfl rfl ?_
  refine j_aload_n dL_law_2977 rfl rfl ?_
  refine j_iload dL_law_2978 rfl ?_
  refine j_iconst (v := 1) dL_law_2980 (by decide) ?_
  refine j_iadd dL_law_2981 ?_
  refine j_top (congrArg Value.int (show nI i + (1 : Int32) = nI (i + 1) from nI_add i 1)) ?_
  refine j_sld dL_law_2982 (by omega) (by omega) ?_
  refine j_aload_n dL_law_2983 rfl rfl ?_
  refine j_iload dL_law_2984 rfl ?_
  refine j_iconst (v := 2) dL_law_2986 (by decide) ?_
  refine j_iadd dL_law_2987 ?_
  refine j_top (congrArg Value.int (show nI i + (2 : Int32) = nI (i + 2) from nI_add i 2)) ?_
  refine j_sld dL_law_2988 (by omega) (by omega) ?_
  refine j_aload_n dL_law_2989 rfl rfl ?_
  refine j_callSW dL_law_2990 kL_has lL_300 stL_has (lw_has hl w _ _ _ _ LT (z_sc G (i + 1)) (z_sc G (i + 2))) (Nat.le_of_ble_eq_true rfl) ⟨(by show _ ≤ 665722; omega), (by show _ ≤ 7105070; omega)⟩ rfl (Nat.le_of_ble_eq_true rfl) rfl rfl (fun _ _ h => h.elim) ?_
  rintro _ w1 ⟨n1, rfl, LT1, hn1⟩
  refine j_istore (lo' := [(5, _), (0, _), (1, _), (2, _), (3, _), (4, _)]) dL_law_2993 (by decide) rfl ?_
  refine j_aload_n dL_law_2995 rfl rfl ?_
  refine j_aload_n dL_law_2996 rfl rfl ?_
  refine j_iload dL_law_2997 rfl ?_
  refine j_iconst (v := 1) dL_law_2999 (by decide) ?_
  refine j_iadd dL_law_3000 ?_
  refine j_top (congrArg Value.int (show nI i + (1 : Int32) = nI (i + 1) from nI_add i 1)) ?_
  refine j_sld dL_law_3001 (by omega) (by omega) ?_
  refine j_aload_n dL_law_3002 rfl rfl ?_
  refine j_iload dL_law_3003 rfl ?_
  refine j_iconst (v := 2) dL_law_3005 (by decide) ?_
  refine j_iadd dL_law_3006 ?_
  refine j_top (congrArg Value.int (show nI i + (2 : Int32) = nI (i + 2) from nI_add i 2)) ?_
  refine j_sld dL_law_3007 (by omega) (by omega) ?_
  obtain ⟨-, ⟨s114, hs114, -⟩, -⟩ := id LT1
  refine j_callV (q := (RX11, TX11, 8)) dL_law_3008 kX11_has lL_302 inX11_has seX11_has hs114.m rfl (kx_has hl w1 LT1 (z_sc G (i + 1)) (z_sc G (i + 2))) (Nat.le_of_ble_eq_true rfl) ⟨(by show _ ≤ 665722; omega), (by show _ ≤ 7105070; omega)⟩ rfl (Nat.le_of_ble_eq_true rfl) rfl rfl (fun _ _ h => h.elim) ?_
  rintro _ w2 ⟨r2, rfl, LT2, th2, hr2⟩
  refine j_istore (lo' := [(6, _), (5, _), (0, _), (1, _), (2, _), (3, _), (4, _)]) dL_law_3011 (by decide) rfl ?_
  refine j_aload_n dL_law_3013 rfl rfl ?_
  obtain ⟨st115, hst115, ht115⟩ := th2
  refine j_callV (q := (RX11, TX11, 8)) dL_law_3014 kX11_thrown lL_176 inX11_thrown seX11_thrown hst115.m rfl (cm_thrown hl w2 _ hst115) (Nat.le_of_ble_eq_true rfl) ⟨(by show _ ≤ 665722; omega), (by show _ ≤ 7105070; omega)⟩ rfl (Nat.le_of_ble_eq_true rfl) rfl rfl (fun _ _ h => h.elim) ?_
  rintro _ _ ⟨rfl, hw115⟩
  refine j_w w2 hw115 ?_
  refine j_iload dL_law_3017 rfl ?_
  refine j_icmp_eq (tgt := 3024) dL_law_3019 (by decide) (fun c_3019_41 => ?_) (fun c_3019_41 => ?_)
  · refine j_iload dL_law_3024 rfl ?_
    refine j_if_ne (tgt := 3049) dL_law_3026 (by decide) (fun c_3026_43 => ?_) (fun c_3026_43 => ?_)
    · refine j_goto (tgt := 3514) dL_law_3049 (by decide) ?_
      refine j_widen (kc' := kc + 200) (ks' := ks + 6000) (by omega) (by omega) ?_
      exact j_lo2 (KK _ _ _ LT2) (z_q1 rfl (z_q1 rfl (z_q1 rfl (z_q1 rfl (z_q1 rfl z_q0)))))
    · refine j_aload_n dL_law_3029 rfl rfl ?_
      obtain ⟨-, -, ⟨ov116, og116⟩, -⟩ := id LT2
      refine j_getf dL_law_3030 fL_13 og116 rfl ?_
      refine j_iload dL_law_3033 rfl ?_
      refine j_if_eq (tgt := 3042) dL_law_3035 (by decide) (fun c_3035_51 => ?_) (fun c_3035_51 => ?_)
      · refine j_lconst (v := 0) dL_law_3042 (by decide) ?_
        refine j_lcmp dL_law_3043 ?_
        refine j_if_eq (tgt := 3049) dL_law_3044 (by decide) (fun c_3044_54 => ?_) (fun c_3044_54 => ?_)
        · refine j_goto (tgt := 3514) dL_law_3049 (by decide) ?_
          refine j_widen (kc' := kc + 200) (ks' := ks + 6000) (by omega) (by omega) ?_
          exact j_lo2 (KK _ _ _ LT2) (z_q1 rfl (z_q1 rfl (z_q1 rfl (z_q1 rfl (z_q1 rfl z_q0)))))
        · exact absurd (q_cmp (by rw [hn1 c_3026_43]; have z9 := hr2 c_3026_43; have z8 := c_3035_51; rw [z9] at z8; first | (rw [z8]; rfl) | (rw [show a_has S (z_sc G (i + 1)) (z_sc G (i + 2)) = 1 from congrArg z_bi (z_bt z8)]; rfl))) c_3044_54
      · refine j_lconst (v := 1) dL_law_3038 (by decide) ?_
        refine j_goto (tgt := 3043) dL_law_3039 (by decide) ?_
        refine j_lcmp dL_law_3043 ?_
        refine j_if_eq (tgt := 3049) dL_law_3044 (by decide) (fun c_3044_62 => ?_) (fun c_3044_62 => ?_)
        · refine j_goto (tgt := 3514) dL_law_3049 (by decide) ?_
          refine j_widen (kc' := kc + 200) (ks' := ks + 6000) (by omega) (by omega) ?_
          exact j_lo2 (KK _ _ _ LT2) (z_q1 rfl (z_q1 rfl (z_q1 rfl (z_q1 rfl (z_q1 rfl z_q0)))))
        · exact absurd (q_cmp (by rw [hn1 c_3026_43]; have z9 := hr2 c_3026_43; have z8 := c_3035_51; rw [z9] at z8; first | (rw [z8]; rfl) | (rw [show a_has S (z_sc G (i + 1)) (z_sc G (i + 2)) = 1 from congrArg z_bi (z_bt z8)]; rfl))) c_3044_62
  · exact absurd ht115 c_3019_41
set_option maxRecDepth 100000 in
set_option maxHeartbeats 4000000 in
theorem lc_38 (hl : l.stackTraces = false) {w : z_W} {x i kc ks : Nat} {S : sp_S} {n : Int64} (LT : z_LX x S S n w) (hi6 : i + 6 ≤ z_sn G) (hsn : z_sn G ≤ 3072) (hkc : kc + 200 ≤ 665722) (hks : ks + 6000 ≤ 7105070) (KK : ∀ (S9 : sp_S) (n9 : Int64) (w9 : z_W), z_LX x S9 S9 n9 w9 → z_J G l mL_law z_SL 3514 (z_lol x i) [] w9 (kc + 200) (ks + 6000)) : z_J G l mL_law z_SL 3052 (z_lol x i) [] w kc ks := by
  show z_J G l mL_law _ 3052 [(0, _), (1, _), (2, _), (3, _), (4, _)] [] _ _ _
  refine j_aload_n dL_law_3052 rfl rfl ?_
  refine j_aload_n dL_law_3053 rfl rfl ?_
  refine j_iload dL_law_3054 rfl ?_
  refine j_iconst (v := 1) dL_law_3056 (by decide) ?_
  refine j_iadd dL_law_3057 ?_
  refine j_top (congrArg Value.int (show nI i + (1 : Int32) = nI (i + 1) from nI_add i 1)) ?_
  refine j_sld dL_law_3058 (by omega) (by omega) ?_
  refine j_aload_n dL_law_3059 rfl rfl ?_
  refine j_callSW dL_law_3060 kL_size lL_303 stL_size (lw_size hl w _ _ _ _ LT (z_sc G (i + 1))) (Nat.le_of_ble_eq_true rfl) ⟨(by show _ ≤ 665722; omega), (by show _ ≤ 7105070; omega)⟩ rfl (Nat.le_of_ble_eq_true rfl) rfl rfl (fun _ _ h => h.elim) ?_
  rintro _ w1 ⟨n1, rfl, LT1, hn1⟩
  refine j_istore (lo' := [(5, _), (0, _), (1, _), (2, _), (3, _), (4, _)]) dL_law_3063 (by decide) rfl ?_
  refine j_aload_n dL_law_3065 rfl rfl ?_
  refine j_aload_n dL_law_3066 rfl rfl ?_
  refine j_iload dL_law_3067 rfl ?_
  refine j_iconst (v := 1) dL_law_3069 (by decide) ?_
  refine j_iadd dL_law_3070 ?_
  refine j_top (congrArg Value.int (show nI i + (1 : Int32) = nI (i + 1) from nI_add i 1)) ?_
  refine j_sld dL_law_3071 (by omega) (by omega) ?_
  obtain ⟨-, ⟨s117, hs117, -⟩, -⟩ := id LT1
  refine j_callV (q := (RX11, TX11, 8)) dL_law_3072 kX11_size lL_305 inX11_size seX11_size hs117.m rfl (kx_size hl w1 LT1 (z_sc G (i + 1))) (Nat.le_of_ble_eq_true rfl) ⟨(by show _ ≤ 665722; omega), (by show _ ≤ 7105070; omega)⟩ rfl (Nat.le_of_ble_eq_true rfl) rfl rfl (fun _ _ h => h.elim) ?_
  rintro _ w2 ⟨r2, rfl, LT2, th2, hr2⟩
  refine j_istore (lo' := [(6, _), (5, _), (0, _), (1, _), (2, _), (3, _), (4, _)]) dL_law_3075 (by decide) rfl ?_
  refine j_aload_n dL_law_3077 rfl rfl ?_
  obtain ⟨st118, hst118, ht118⟩ := th2
  refine j_callV (q := (RX11, TX11, 8)) dL_law_3078 kX11_thrown lL_176 inX11_thrown seX11_thrown hst118.m rfl (cm_thrown hl w2 _ hst118) (Nat.le_of_ble_eq_true rfl) ⟨(by show _ ≤ 665722; omega), (by show _ ≤ 7105070; omega)⟩ rfl (Nat.le_of_ble_eq_true rfl) rfl rfl (fun _ _ h => h.elim) ?_
  rintro _ _ ⟨rfl, hw118⟩
  refine j_w w2 hw118 ?_
  refine j_iload dL_law_3081 rfl ?_
  refine j_icmp_eq (tgt := 3088) dL_law_3083 (by decide) (fun c_3083_29 => ?_) (fun c_3083_29 => ?_)
  · refine j_iload dL_law_3088 rfl ?_
    refine j_if_ne (tgt := 3106) dL_law_3090 (by decide) (fun c_3090_31 => ?_) (fun c_3090_31 => ?_)
    · refine j_goto (tgt := 3514) dL_law_3106 (by decide) ?_
      refine j_widen (kc' := kc + 200) (ks' := ks + 6000) (by omega) (by omega) ?_
      exact j_lo2 (KK _ _ _ LT2) (z_q1 rfl (z_q1 rfl (z_q1 rfl (z_q1 rfl (z_q1 rfl z_q0)))))
    · refine j_aload_n dL_law_3093 rfl rfl ?_
      obtain ⟨-, -, ⟨ov119, og119⟩, -⟩ := id LT2
      refine j_getf dL_law_3094 fL_13 og119 rfl ?_
      refine j_iload dL_law_3097 rfl ?_
      refine j_i2l dL_law_3099 ?_
      refine j_lcmp dL_law_3100 ?_
      refine j_if_eq (tgt := 3106) dL_law_3101 (by decide) (fun c_3101_41 => ?_) (fun c_3101_41 => ?_)
      · refine j_goto (tgt := 3514) dL_law_3106 (by decide) ?_
        refine j_widen (kc' := kc + 200) (ks' := ks + 6000) (by omega) (by omega) ?_
        exact j_lo2 (KK _ _ _ LT2) (z_q1 rfl (z_q1 rfl (z_q1 rfl (z_q1 rfl (z_q1 rfl z_q0)))))
      · exact absurd (q_cmp (by rw [hn1 c_3090_31, hr2 c_3090_31])) c_3101_41
  · exact absurd ht118 c_3083_29
set_option maxRecDepth 100000 in
set_option maxHeartbeats 4000000 in
theorem lc_39 (hl : l.stackTraces = false) {w : z_W} {x i kc ks : Nat} {S : sp_S} {n : Int64} (LT : z_LX x S S n w) (hi6 : i + 6 ≤ z_sn G) (hsn : z_sn G ≤ 3072) (hkc : kc + 200 ≤ 665722) (hks : ks + 6000 ≤ 7105070) (KK : ∀ (S9 : sp_S) (n9 : Int64) (w9 : z_W), z_LX x S9 S9 n9 w9 → z_J G l mL_law z_SL 3514 (z_lol x i) [] w9 (kc + 200) (ks + 6000)) : z_J G l mL_law z_SL 3109 (z_lol x i) [] w kc ks := by
  show z_J G l mL_law _ 3109 [(0, _), (1, _), (2, _), (3, _), (4, _)] [] _ _ _
  refine j_aload_n dL_law_3109 rfl rfl ?_
  refine j_aload_n dL_law_3110 rfl rfl ?_
  refine j_iload dL_law_3111 rfl ?_
  refine j_iconst (v := 1) dL_law_3113 (by decide) ?_
  refine j_iadd dL_law_3114 ?_
  refine j_top (congrArg Value.int (show nI i + (1 : Int32) = nI (i + 1) from nI_add i 1)) ?_
  refine j_sld dL_law_3115 (by omega) (by omega) ?_
  refine j_aload_n dL_law_3116 rfl rfl ?_
  refine j_callSW dL_law_3117 kL_text lL_306 stL_text (lw_text hl w _ _ _ _ LT (z_sc G (i + 1))) (Nat.le_of_ble_eq_true rfl) ⟨(by show _ ≤ 665722; omega), (by show _ ≤ 7105070; omega)⟩ rfl (Nat.le_of_ble_eq_true rfl) rfl rfl (fun _ _ h => h.elim) ?_
  rintro _ w1 ⟨n1, rfl, LT1, hT1⟩
  refine j_istore (lo' := [(5, _), (0, _), (1, _), (2, _), (3, _), (4, _)]) dL_law_3120 (by decide) rfl ?_
  refine j_aload_n dL_law_3122 rfl rfl ?_
  refine j_aload_n dL_law_3123 rfl rfl ?_
  refine j_iload dL_law_3124 rfl ?_
  refine j_iconst (v := 1) dL_law_3126 (by decide) ?_
  refine j_iadd dL_law_3127 ?_
  refine j_top (congrArg Value.int (show nI i + (1 : Int32) = nI (i + 1) from nI_add i 1)) ?_
  refine j_sld dL_law_3128 (by omega) (by omega) ?_
  obtain ⟨-, ⟨s120, hs120, -⟩, -⟩ := id LT1
  refine j_callV (q := (RX11, TX11, 8)) dL_law_3129 kX11_text lL_308 inX11_text seX11_text hs120.m rfl (kz_text hl w1 LT1 (z_sc G (i + 1))) (Nat.le_of_ble_eq_true rfl) ⟨(by show _ ≤ 665722; omega), (by show _ ≤ 7105070; omega)⟩ rfl (Nat.le_of_ble_eq_true rfl) rfl rfl (fun _ _ h => h.elim) ?_
  rintro _ w2 ⟨r2, rfl, hir2, LT2, th2, fm2, hq2⟩
  refine j_astore (lo' := [(6, _), (5, _), (0, _), (1, _), (2, _), (3, _), (4, _)]) dL_law_3132 hir2 (by decide) rfl ?_
  refine j_aload_n dL_law_3134 rfl rfl ?_
  obtain ⟨st121, hst121, ht121⟩ := th2
  refine j_callV (q := (RX11, TX11, 8)) dL_law_3135 kX11_thrown lL_176 inX11_thrown seX11_thrown hst121.m rfl (cm_thrown hl w2 _ hst121) (Nat.le_of_ble_eq_true rfl) ⟨(by show _ ≤ 665722; omega), (by show _ ≤ 7105070; omega)⟩ rfl (Nat.le_of_ble_eq_true rfl) rfl rfl (fun _ _ h => h.elim) ?_
  rintro _ _ ⟨rfl, hw121⟩
  refine j_w w2 hw121 ?_
  refine j_iload dL_law_3138 rfl ?_
  refine j_icmp_eq (tgt := 3145) dL_law_3140 (by decide) (fun c_3140_29 => ?_) (fun c_3140_29 => ?_)
  · refine j_iload dL_law_3145 rfl ?_
    refine j_if_ne (tgt := 3164) dL_law_3147 (by decide) (fun c_3147_31 => ?_) (fun c_3147_31 => ?_)
    · refine j_goto (tgt := 3514) dL_law_3164 (by decide) ?_
      refine j_widen (kc' := kc + 200) (ks' := ks + 6000) (by omega) (by omega) ?_
      exact j_lo2 (KK _ _ _ LT2) (z_q1 rfl (z_q1 rfl (z_q1 rfl (z_q1 rfl (z_q1 rfl z_q0)))))
    · obtain ⟨nq9, rq9, gq9, hxq9⟩ := z_LT.fm (hT1 c_3147_31) LT2.x1 LT2.x2 fm2
      obtain ⟨q9, hr9, hq9⟩ := hq2 c_3147_31
      subst hr9
      refine j_aload_n dL_law_3150 rfl rfl ?_
      refine j_getf dL_law_3151 fL_114 gq9 rfl ?_
      refine j_aload dL_law_3154 rfl rfl ?_
      obtain ⟨fs122, gs122⟩ := hxq9.tx.cell
      refine j_callV (q := (RJ0, TJ0, 4)) dL_law_3156 kJ0_equals_9ea2d lL_266 inJ0_equals_9ea2d seJ0_equals_9ea2d gs122 rfl (tq_eq hl w2 rq9 q9 _ hxq9 hq9) (Nat.le_of_ble_eq_true rfl) ⟨(by show _ ≤ 665722; omega), (by show _ ≤ 7105070; omega)⟩ rfl (Nat.le_of_ble_eq_true rfl) rfl rfl (fun _ _ h => h.elim) ?_
      rintro _ _ ⟨rfl, hw122⟩
      refine j_w w2 hw122 ?_
      refine j_if_ne (tgt := 3164) dL_law_3159 (by decide) (fun c_3159_45 => ?_) (fun c_3159_45 => ?_)
      · refine j_goto (tgt := 3514) dL_law_3164 (by decide) ?_
        refine j_widen (kc' := kc + 200) (ks' := ks + 6000) (by omega) (by omega) ?_
        exact j_lo2 (KK _ _ _ LT2) (z_q1 rfl (z_q1 rfl (z_q1 rfl (z_q1 rfl (z_q1 rfl z_q0)))))
      · exact absurd c_3159_45 (by decide)
  · exact absurd ht121 c_3140_29
set_option maxRecDepth 100000 in
set_option maxHeartbeats 4000000 in
theorem lc_40 (hl : l.stackTraces = false) {w : z_W} {x i kc ks : Nat} {S : sp_S} {n : Int64} (LT : z_LX x S S n w) (hi6 : i + 6 ≤ z_sn G) (hsn : z_sn G ≤ 3072) (hkc : kc + 200 ≤ 665722) (hks : ks + 6000 ≤ 7105070) (KK : ∀ (S9 : sp_S) (n9 : Int64) (w9 : z_W), z_LX x S9 S9 n9 w9 → z_J G l mL_law z_SL 3514 (z_lol x i) [] w9 (kc + 200) (ks + 6000)) : z_J G l mL_law z_SL 3167 (z_lol x i) [] w kc ks := by
  show z_J G l mL_law _ 3167 [(0, _), (1, _), (2, _), (3, _), (4, _)] [] _ _ _
  refine j_aload_n dL_law_3167 rfl rfl ?_
  refine j_aload_n dL_law_3168 rfl rfl ?_
  refine j_iload dL_law_3169 rfl ?_
  refine j_iconst (v := 1) dL_law_3171 (by decide) ?_
  refine j_iadd dL_law_3172 ?_
  refine j_top (congrArg Value.int (show nI i + (1 : Int32) = nI (i + 1) from nI_add i 1)) ?_
  refine j_sld dL_law_3173 (by omega) (by omega) ?_
  refine j_aload_n dL_law_3174 rfl rfl ?_
  refine j_iload dL_law_3175 rfl ?_
  refine j_iconst (v := 2) dL_law_3177 (by decide) ?_
  refine j_iadd dL_law_3178 ?_
  refine j_top (congrArg Value.int (show nI i + (2 : Int32) = nI (i + 2) from nI_add i 2)) ?_
  refine j_sld dL_law_3179 (by omega) (by omega) ?_
  refine j_aload_n dL_law_3180 rfl rfl ?_
  refine j_callSW dL_law_3181 kL_areLike lL_309 stL_areLike (lw_areLike hl w _ _ _ _ LT (z_sc G (i + 1)) (z_sc G (i + 2))) (Nat.le_of_ble_eq_true rfl) ⟨(by show _ ≤ 665722; omega), (by show _ ≤ 7105070; omega)⟩ rfl (Nat.le_of_ble_eq_true rfl) rfl rfl (fun _ _ h => h.elim) ?_
  rintro _ w1 ⟨n1, rfl, LT1, hn1⟩
  refine j_istore (lo' := [(5, _), (0, _), (1, _), (2, _), (3, _), (4, _)]) dL_law_3184 (by decide) rfl ?_
  refine j_aload_n dL_law_3186 rfl rfl ?_
  refine j_aload_n dL_law_3187 rfl rfl ?_
  refine j_iload dL_law_3188 rfl ?_
  refine j_iconst (v := 1) dL_law_3190 (by decide) ?_
  refine j_iadd dL_law_3191 ?_
  refine j_top (congrArg Value.int (show nI i + (1 : Int32) = nI (i + 1) from nI_add i 1)) ?_
  refine j_sld dL_law_3192 (by omega) (by omega) ?_
  refine j_aload_n dL_law_3193 rfl rfl ?_
  refine j_iload dL_law_3194 rfl ?_
  refine j_iconst (v := 2) dL_law_3196 (by decide) ?_
  refine j_iadd dL_law_3197 ?_
  refine j_top (congrArg Value.int (show nI i + (2 : Int32) = nI (i + 2) from nI_add i 2)) ?_
  refine j_sld dL_law_3198 (by omega) (by omega) ?_
  obtain ⟨-, ⟨s123, hs123, -⟩, -⟩ := id LT1
  refine j_callV (q := (RX11, TX11, 8)) dL_law_3199 kX11_areLike lL_311 inX11_areLike seX11_areLike hs123.m rfl (kx_areLike hl w1 LT1 (z_sc G (i + 1)) (z_sc G (i + 2))) (Nat.le_of_ble_eq_true rfl) ⟨(by show _ ≤ 665722; omega), (by show _ ≤ 7105070; omega)⟩ rfl (Nat.le_of_ble_eq_true rfl) rfl rfl (fun _ _ h => h.elim) ?_
  rintro _ w2 ⟨r2, rfl, LT2, th2, hr2⟩
  refine j_istore (lo' := [(6, _), (5, _), (0, _), (1, _), (2, _), (3, _), (4, _)]) dL_law_3202 (by decide) rfl ?_
  refine j_aload_n dL_law_3204 rfl rfl ?_
  obtain ⟨st124, hst124, ht124⟩ := th2
  refine j_callV (q := (RX11, TX11, 8)) dL_law_3205 kX11_thrown lL_176 inX11_thrown seX11_thrown hst124.m rfl (cm_thrown hl w2 _ hst124) (Nat.le_of_ble_eq_true rfl) ⟨(by show _ ≤ 665722; omega), (by show _ ≤ 7105070; omega)⟩ rfl (Nat.le_of_ble_eq_true rfl) rfl rfl (fun _ _ h => h.elim) ?_
  rintro _ _ ⟨rfl, hw124⟩
  refine j_w w2 hw124 ?_
  refine j_iload dL_law_3208 rfl ?_
  refine j_icmp_eq (tgt := 3215) dL_law_3210 (by decide) (fun c_3210_41 => ?_) (fun c_3210_41 => ?_)
  · refine j_iload dL_law_3215 rfl ?_
    refine j_if_ne (tgt := 3240) dL_law_3217 (by decide) (fun c_3217_43 => ?_) (fun c_3217_43 => ?_)
    · refine j_goto (tgt := 3514) dL_law_3240 (by decide) ?_
      refine j_widen (kc' := kc + 200) (ks' := ks + 6000) (by omega) (by omega) ?_
      exact j_lo2 (KK _ _ _ LT2) (z_q1 rfl (z_q1 rfl (z_q1 rfl (z_q1 rfl (z_q1 rfl z_q0)))))
    · refine j_aload_n dL_law_3220 rfl rfl ?_
      obtain ⟨-, -, ⟨ov125, og125⟩, -⟩ := id LT2
      refine j_getf dL_law_3221 fL_13 og125 rfl ?_
      refine j_iload dL_law_3224 rfl ?_
      refine j_if_eq (tgt := 3233) dL_law_3226 (by decide) (fun c_3226_51 => ?_) (fun c_3226_51 => ?_)
      · refine j_lconst (v := 0) dL_law_3233 (by decide) ?_
        refine j_lcmp dL_law_3234 ?_
        refine j_if_eq (tgt := 3240) dL_law_3235 (by decide) (fun c_3235_54 => ?_) (fun c_3235_54 => ?_)
        · refine j_goto (tgt := 3514) dL_law_3240 (by decide) ?_
          refine j_widen (kc' := kc + 200) (ks' := ks + 6000) (by omega) (by omega) ?_
          exact j_lo2 (KK _ _ _ LT2) (z_q1 rfl (z_q1 rfl (z_q1 rfl (z_q1 rfl (z_q1 rfl z_q0)))))
        · exact absurd (q_cmp (by rw [hn1 c_3217_43]; have z9 := hr2 c_3217_43; have z8 := c_3226_51; rw [z9] at z8; first | (rw [z8]; rfl) | (rw [show a_areLike S (z_sc G (i + 1)) (z_sc G (i + 2)) = 1 from congrArg z_bi (z_bt z8)]; rfl))) c_3235_54
      · refine j_lconst (v := 1) dL_law_3229 (by decide) ?_
        refine j_goto (tgt := 3234) dL_law_3230 (by decide) ?_
        refine j_lcmp dL_law_3234 ?_
        refine j_if_eq (tgt := 3240) dL_law_3235 (by decide) (fun c_3235_62 => ?_) (fun c_3235_62 => ?_)
        · refine j_goto (tgt := 3514) dL_law_3240 (by decide) ?_
          refine j_widen (kc' := kc + 200) (ks' := ks + 6000) (by omega) (by omega) ?_
          exact j_lo2 (KK _ _ _ LT2) (z_q1 rfl (z_q1 rfl (z_q1 rfl (z_q1 rfl (z_q1 rfl z_q0)))))
        · exact absurd (q_cmp (by rw [hn1 c_3217_43]; have z9 := hr2 c_3217_43; have z8 := c_3226_51; rw [z9] at z8; first | (rw [z8]; rfl) | (rw [show a_areLike S (z_sc G (i + 1)) (z_sc G (i + 2)) = 1 from congrArg z_bi (z_bt z8)]; rfl))) c_3235_62
  · exact absurd ht124 c_3210_41
set_option maxRecDepth 100000 in
set_option maxHeartbeats 4000000 in
theorem lc_41 (hl : l.stackTraces = false) {w : z_W} {x i kc ks : Nat} {S : sp_S} {n : Int64} (LT : z_LX x S S n w) (hi6 : i + 6 ≤ z_sn G) (hsn : z_sn G ≤ 3072) (hkc : kc + 200 ≤ 665722) (hks : ks + 6000 ≤ 7105070) (KK : ∀ (S9 : sp_S) (n9 : Int64) (w9 : z_W), z_LX x S9 S9 n9 w9 → z_J G l mL_law z_SL 3514 (z_lol x i) [] w9 (kc + 200) (ks + 6000)) : z_J G l mL_law z_SL 3243 (z_lol x i) [] w kc ks := by
  show z_J G l mL_law _ 3243 [(0, _), (1, _), (2, _), (3, _), (4, _)] [] _ _ _
  refine j_aload_n dL_law_3243 rfl rfl ?_
  refine j_aload_n dL_law_3244 rfl rfl ?_
  refine j_iload dL_law_3245 rfl ?_
  refine j_iconst (v := 1) dL_law_3247 (by decide) ?_
  refine j_iadd dL_law_3248 ?_
  refine j_top (congrArg Value.int (show nI i + (1 : Int32) = nI (i + 1) from nI_add i 1)) ?_
  refine j_sld dL_law_3249 (by omega) (by omega) ?_
  refine j_aload_n dL_law_3250 rfl rfl ?_
  refine j_iload dL_law_3251 rfl ?_
  refine j_iconst (v := 2) dL_law_3253 (by decide) ?_
  refine j_iadd dL_law_3254 ?_
  refine j_top (congrArg Value.int (show nI i + (2 : Int32) = nI (i + 2) from nI_add i 2)) ?_
  refine j_sld dL_law_3255 (by omega) (by omega) ?_
  refine j_aload_n dL_law_3256 rfl rfl ?_
  refine j_iload dL_law_3257 rfl ?_
  refine j_iconst (v := 3) dL_law_3259 (by decide) ?_
  refine j_iadd dL_law_3260 ?_
  refine j_top (congrArg Value.int (show nI i + (3 : Int32) = nI (i + 3) from nI_add i 3)) ?_
  refine j_sld dL_law_3261 (by omega) (by omega) ?_
  refine j_aload_n dL_law_3262 rfl rfl ?_
  refine j_iload dL_law_3263 rfl ?_
  refine j_iconst (v := 4) dL_law_3265 (by decide) ?_
  refine j_iadd dL_law_3266 ?_
  refine j_top (congrArg Value.int (show nI i + (4 : Int32) = nI (i + 4) from nI_add i 4)) ?_
  refine j_sld dL_law_3267 (by omega) (by omega) ?_
  refine j_aload_n dL_law_3268 rfl rfl ?_
  refine j_callSW dL_law_3269 kL_given lL_312 stL_given (lw_given hl w _ _ _ _ LT (z_sc G (i + 1)) (z_sc G (i + 2)) (z_sc G (i + 3)) (z_sc G (i + 4))) (Nat.le_of_ble_eq_true rfl) ⟨(by show _ ≤ 665722; omega), (by show _ ≤ 7105070; omega)⟩ rfl (Nat.le_of_ble_eq_true rfl) rfl rfl (fun _ _ h => h.elim) ?_
  rintro _ w1 ⟨n1, rfl, LT1, hn1⟩
  refine j_istore (lo' := [(5, _), (0, _), (1, _), (2, _), (3, _), (4, _)]) dL_law_3272 (by decide) rfl ?_
  refine j_aload_n dL_law_3274 rfl rfl ?_
  refine j_aload_n dL_law_3275 rfl rfl ?_
  refine j_iload dL_law_3276 rfl ?_
  refine j_iconst (v := 1) dL_law_3278 (by decide) ?_
  refine j_iadd dL_law_3279 ?_
  refine j_top (congrArg Value.int (show nI i + (1 : Int32) = nI (i + 1) from nI_add i 1)) ?_
  refine j_sld dL_law_3280 (by omega) (by omega) ?_
  refine j_aload_n dL_law_3281 rfl rfl ?_
  refine j_iload dL_law_3282 rfl ?_
  refine j_iconst (v := 2) dL_law_3284 (by decide) ?_
  refine j_iadd dL_law_3285 ?_
  refine j_top (congrArg Value.int (show nI i + (2 : Int32) = nI (i + 2) from nI_add i 2)) ?_
  refine j_sld dL_law_3286 (by omega) (by omega) ?_
  refine j_aload_n dL_law_3287 rfl rfl ?_
  refine j_iload dL_law_3288 rfl ?_
  refine j_iconst (v := 3) dL_law_3290 (by decide) ?_
  refine j_iadd dL_law_3291 ?_
  refine j_top (congrArg Value.int (show nI i + (3 : Int32) = nI (i + 3) from nI_add i 3)) ?_
  refine j_sld dL_law_3292 (by omega) (by omega) ?_
  refine j_aload_n dL_law_3293 rfl rfl ?_
  refine j_iload dL_law_3294 rfl ?_
  refine j_iconst (v := 4) dL_law_3296 (by decide) ?_
  refine j_iadd dL_law_3297 ?_
  refine j_top (congrArg Value.int (show nI i + (4 : Int32) = nI (i + 4) from nI_add i 4)) ?_
  refine j_sld dL_law_3298 (by omega) (by omega) ?_
  obtain ⟨-, ⟨s126, hs126, -⟩, -⟩ := id LT1
  refine j_callV (q := (RX11, TX11, 8)) dL_law_3299 kX11_given lL_314 inX11_given seX11_given hs126.m rfl (kx_given hl w1 LT1 (z_sc G (i + 1)) (z_sc G (i + 2)) (z_sc G (i + 3)) (z_sc G (i + 4))) (Nat.le_of_ble_eq_true rfl) ⟨(by show _ ≤ 665722; omega), (by show _ ≤ 7105070; omega)⟩ rfl (Nat.le_of_ble_eq_true rfl) rfl rfl (fun _ _ h => h.elim) ?_
  rintro _ w2 ⟨r2, rfl, LT2, th2, hr2⟩
  refine j_istore (lo' := [(6, _), (5, _), (0, _), (1, _), (2, _), (3, _), (4, _)]) dL_law_3302 (by decide) rfl ?_
  refine j_aload_n dL_law_3304 rfl rfl ?_
  obtain ⟨st127, hst127, ht127⟩ := th2
  refine j_callV (q := (RX11, TX11, 8)) dL_law_3305 kX11_thrown lL_176 inX11_thrown seX11_thrown hst127.m rfl (cm_thrown hl w2 _ hst127) (Nat.le_of_ble_eq_true rfl) ⟨(by show _ ≤ 665722; omega), (by show _ ≤ 7105070; omega)⟩ rfl (Nat.le_of_ble_eq_true rfl) rfl rfl (fun _ _ h => h.elim) ?_
  rintro _ _ ⟨rfl, hw127⟩
  refine j_w w2 hw127 ?_
  refine j_iload dL_law_3308 rfl ?_
  refine j_icmp_eq (tgt := 3315) dL_law_3310 (by decide) (fun c_3310_65 => ?_) (fun c_3310_65 => ?_)
  · refine j_iload dL_law_3315 rfl ?_
    refine j_if_ne (tgt := 3333) dL_law_3317 (by decide) (fun c_3317_67 => ?_) (fun c_3317_67 => ?_)
    · refine j_goto (tgt := 3514) dL_law_3333 (by decide) ?_
      refine j_widen (kc' := kc + 200) (ks' := ks + 6000) (by omega) (by omega) ?_
      exact j_lo2 (KK _ _ _ LT2) (z_q1 rfl (z_q1 rfl (z_q1 rfl (z_q1 rfl (z_q1 rfl z_q0)))))
    · refine j_aload_n dL_law_3320 rfl rfl ?_
      obtain ⟨-, -, ⟨ov128, og128⟩, -⟩ := id LT2
      refine j_getf dL_law_3321 fL_13 og128 rfl ?_
      refine j_iload dL_law_3324 rfl ?_
      refine j_i2l dL_law_3326 ?_
      refine j_lcmp dL_law_3327 ?_
      refine j_if_eq (tgt := 3333) dL_law_3328 (by decide) (fun c_3328_77 => ?_) (fun c_3328_77 => ?_)
      · refine j_goto (tgt := 3514) dL_law_3333 (by decide) ?_
        refine j_widen (kc' := kc + 200) (ks' := ks + 6000) (by omega) (by omega) ?_
        exact j_lo2 (KK _ _ _ LT2) (z_q1 rfl (z_q1 rfl (z_q1 rfl (z_q1 rfl (z_q1 rfl z_q0)))))
      · exact absurd (q_cmp (by rw [hn1 c_3317_67, hr2 c_3317_67])) c_3328_77
  · exact absurd ht127 c_3310_65
set_option maxRecDepth 100000 in
set_option maxHeartbeats 4000000 in
theorem lc_42 (hl : l.stackTraces = false) {w : z_W} {x i kc ks : Nat} {S : sp_S} {n : Int64} (LT : z_LX x S S n w) (hi6 : i + 6 ≤ z_sn G) (hsn : z_sn G ≤ 3072) (hkc : kc + 200 ≤ 665722) (hks : ks + 6000 ≤ 7105070) (KK : ∀ (S9 : sp_S) (n9 : Int64) (w9 : z_W), z_LX x S9 S9 n9 w9 → z_J G l mL_law z_SL 3514 (z_lol x i) [] w9 (kc + 200) (ks + 6000)) : z_J G l mL_law z_SL 3336 (z_lol x i) [] w kc ks := by
  show z_J G l mL_law _ 3336 [(0, _), (1, _), (2, _), (3, _), (4, _)] [] _ _ _
  refine j_aload_n dL_law_3336 rfl rfl ?_
  refine j_aload_n dL_law_3337 rfl rfl ?_
  refine j_iload dL_law_3338 rfl ?_
  refine j_iconst (v := 1) dL_law_3340 (by decide) ?_
  refine j_iadd dL_law_3341 ?_
  refine j_top (congrArg Value.int (show nI i + (1 : Int32) = nI (i + 1) from nI_add i 1)) ?_
  refine j_sld dL_law_3342 (by omega) (by omega) ?_
  refine j_aload_n dL_law_3343 rfl rfl ?_
  refine j_iload dL_law_3344 rfl ?_
  refine j_iconst (v := 2) dL_law_3346 (by decide) ?_
  refine j_iadd dL_law_3347 ?_
  refine j_top (congrArg Value.int (show nI i + (2 : Int32) = nI (i + 2) from nI_add i 2)) ?_
  refine j_sld dL_law_3348 (by omega) (by omega) ?_
  refine j_aload_n dL_law_3349 rfl rfl ?_
  refine j_iload dL_law_3350 rfl ?_
  refine j_iconst (v := 3) dL_law_3352 (by decide) ?_
  refine j_iadd dL_law_3353 ?_
  refine j_top (congrArg Value.int (show nI i + (3 : Int32) = nI (i + 3) from nI_add i 3)) ?_
  refine j_sld dL_law_3354 (by omega) (by omega) ?_
  refine j_aload_n dL_law_3355 rfl rfl ?_
  refine j_callSW dL_law_3356 kL_tested lL_315 stL_tested (lw_tested hl w _ _ _ _ LT (z_sc G (i + 1)) (z_sc G (i + 2)) (z_sc G (i + 3))) (Nat.le_of_ble_eq_true rfl) ⟨(by show _ ≤ 665722; omega), (by show _ ≤ 7105070; omega)⟩ rfl (Nat.le_of_ble_eq_true rfl) rfl rfl (fun _ _ h => h.elim) ?_
  rintro _ w1 ⟨n1, rfl, LT1, hn1⟩
  refine j_istore (lo' := [(5, _), (0, _), (1, _), (2, _), (3, _), (4, _)]) dL_law_3359 (by decide) rfl ?_
  refine j_aload_n dL_law_3361 rfl rfl ?_
  refine j_aload_n dL_law_3362 rfl rfl ?_
  refine j_iload dL_law_3363 rfl ?_
  refine j_iconst (v := 1) dL_law_3365 (by decide) ?_
  refine j_iadd dL_law_3366 ?_
  refine j_top (congrArg Value.int (show nI i + (1 : Int32) = nI (i + 1) from nI_add i 1)) ?_
  refine j_sld dL_law_3367 (by omega) (by omega) ?_
  refine j_aload_n dL_law_3368 rfl rfl ?_
  refine j_iload dL_law_3369 rfl ?_
  refine j_iconst (v := 2) dL_law_3371 (by decide) ?_
  refine j_iadd dL_law_3372 ?_
  refine j_top (congrArg Value.int (show nI i + (2 : Int32) = nI (i + 2) from nI_add i 2)) ?_
  refine j_sld dL_law_3373 (by omega) (by omega) ?_
  refine j_aload_n dL_law_3374 rfl rfl ?_
  refine j_iload dL_law_3375 rfl ?_
  refine j_iconst (v := 3) dL_law_3377 (by decide) ?_
  refine j_iadd dL_law_3378 ?_
  refine j_top (congrArg Value.int (show nI i + (3 : Int32) = nI (i + 3) from nI_add i 3)) ?_
  refine j_sld dL_law_3379 (by omega) (by omega) ?_
  obtain ⟨-, ⟨s129, hs129, -⟩, -⟩ := id LT1
  refine j_callV (q := (RX11, TX11, 8)) dL_law_3380 kX11_tested lL_317 inX11_tested seX11_tested hs129.m rfl (kx_tested hl w1 LT1 (z_sc G (i + 1)) (z_sc G (i + 2)) (z_sc G (i + 3))) (Nat.le_of_ble_eq_true rfl) ⟨(by show _ ≤ 665722; omega), (by show _ ≤ 7105070; omega)⟩ rfl (Nat.le_of_ble_eq_true rfl) rfl rfl (fun _ _ h => h.elim) ?_
  rintro _ w2 ⟨r2, rfl, LT2, th2, hr2⟩
  refine j_istore (lo' := [(6, _), (5, _), (0, _), (1, _), (2, _), (3, _), (4, _)]) dL_law_3383 (by decide) rfl ?_
  refine j_aload_n dL_law_3385 rfl rfl ?_
  obtain ⟨st130, hst130, ht130⟩ := th2
  refine j_callV (q := (RX11, TX11, 8)) dL_law_3386 kX11_thrown lL_176 inX11_thrown seX11_thrown hst130.m rfl (cm_thrown hl w2 _ hst130) (Nat.le_of_ble_eq_true rfl) ⟨(by show _ ≤ 665722; omega), (by show _ ≤ 7105070; omega)⟩ rfl (Nat.le_of_ble_eq_true rfl) rfl rfl (fun _ _ h => h.elim) ?_
  rintro _ _ ⟨rfl, hw130⟩
  refine j_w w2 hw130 ?_
  refine j_iload dL_law_3389 rfl ?_
  refine j_icmp_eq (tgt := 3396) dL_law_3391 (by decide) (fun c_3391_53 => ?_) (fun c_3391_53 => ?_)
  · refine j_iload dL_law_3396 rfl ?_
    refine j_if_ne (tgt := 3414) dL_law_3398 (by decide) (fun c_3398_55 => ?_) (fun c_3398_55 => ?_)
    · refine j_goto (tgt := 3514) dL_law_3414 (by decide) ?_
      refine j_widen (kc' := kc + 200) (ks' := ks + 6000) (by omega) (by omega) ?_
      exact j_lo2 (KK _ _ _ LT2) (z_q1 rfl (z_q1 rfl (z_q1 rfl (z_q1 rfl (z_q1 rfl z_q0)))))
    · refine j_aload_n dL_law_3401 rfl rfl ?_
      obtain ⟨-, -, ⟨ov131, og131⟩, -⟩ := id LT2
      refine j_getf dL_law_3402 fL_13 og131 rfl ?_
      refine j_iload dL_law_3405 rfl ?_
      refine j_i2l dL_law_3407 ?_
      refine j_lcmp dL_law_3408 ?_
      refine j_if_eq (tgt := 3414) dL_law_3409 (by decide) (fun c_3409_65 => ?_) (fun c_3409_65 => ?_)
      · refine j_goto (tgt := 3514) dL_law_3414 (by decide) ?_
        refine j_widen (kc' := kc + 200) (ks' := ks + 6000) (by omega) (by omega) ?_
        exact j_lo2 (KK _ _ _ LT2) (z_q1 rfl (z_q1 rfl (z_q1 rfl (z_q1 rfl (z_q1 rfl z_q0)))))
      · exact absurd (q_cmp (by rw [hn1 c_3398_55, hr2 c_3398_55])) c_3409_65
  · exact absurd ht130 c_3391_53
set_option maxRecDepth 100000 in
set_option maxHeartbeats 4000000 in
theorem lc_43 (hl : l.stackTraces = false) {w : z_W} {x i kc ks : Nat} {S : sp_S} {n : Int64} (LT : z_LX x S S n w) (hi6 : i + 6 ≤ z_sn G) (hsn : z_sn G ≤ 3072) (hkc : kc + 200 ≤ 665722) (hks : ks + 6000 ≤ 7105070) (KK : ∀ (S9 : sp_S) (n9 : Int64) (w9 : z_W), z_LX x S9 S9 n9 w9 → z_J G l mL_law z_SL 3514 (z_lol x i) [] w9 (kc + 200) (ks + 6000)) : z_J G l mL_law z_SL 3417 (z_lol x i) [] w kc ks := by
  show z_J G l mL_law _ 3417 [(0, _), (1, _), (2, _), (3, _), (4, _)] [] _ _ _
  refine j_aload_n dL_law_3417 rfl rfl ?_
  obtain ⟨fs132, gs132⟩ := LT.rc
  refine j_callV (q := (RX8, TX8, 9)) dL_law_3418 kX8_knock lL_318 inX8_knock seX8_knock gs132 rfl (px_knock hl w _ LT.1.1 LT.1.2) (Nat.le_of_ble_eq_true rfl) ⟨(by show _ ≤ 665722; omega), (by show _ ≤ 7105070; omega)⟩ rfl (Nat.le_of_ble_eq_true rfl) rfl rfl (fun _ _ h => h.elim) ?_
  rintro _ w1 ⟨rfl, hW1, hh1⟩
  have LT1 := LT.cls hW1 (okk_knock LT.1.2) hh1
  refine j_aload_n dL_law_3421 rfl rfl ?_
  obtain ⟨-, ⟨s133, hs133, -⟩, -⟩ := id LT1
  refine j_callV (q := (RX11, TX11, 8)) dL_law_3422 kX11_knock lL_321 inX11_knock seX11_knock hs133.m rfl (kx_knock hl w1 LT1) (Nat.le_of_ble_eq_true rfl) ⟨(by show _ ≤ 665722; omega), (by show _ ≤ 7105070; omega)⟩ rfl (Nat.le_of_ble_eq_true rfl) rfl rfl (fun _ _ h => h.elim) ?_
  rintro _ w2 ⟨r2, rfl, LT2, th2, hr2⟩
  refine j_icmp_eq (tgt := 3514) dL_law_3425 (by decide) (fun c_3425_10 => ?_) (fun c_3425_10 => ?_)
  · refine j_widen (kc' := kc + 200) (ks' := ks + 6000) (by omega) (by omega) ?_
    exact j_lo2 (KK _ _ _ LT2) (z_q1 rfl (z_q1 rfl (z_q1 rfl (z_q1 rfl (z_q1 rfl z_q0)))))
  · exact absurd hr2.symm c_3425_10
set_option maxRecDepth 100000 in
set_option maxHeartbeats 4000000 in
theorem lc_44 (hl : l.stackTraces = false) {w : z_W} {x i kc ks : Nat} {S : sp_S} {n : Int64} (LT : z_LX x S S n w) (hi6 : i + 6 ≤ z_sn G) (hsn : z_sn G ≤ 3072) (hkc : kc + 200 ≤ 665722) (hks : ks + 6000 ≤ 7105070) (KK : ∀ (S9 : sp_S) (n9 : Int64) (w9 : z_W), z_LX x S9 S9 n9 w9 → z_J G l mL_law z_SL 3514 (z_lol x i) [] w9 (kc + 200) (ks + 6000)) : z_J G l mL_law z_SL 3430 (z_lol x i) [] w kc ks := by
  show z_J G l mL_law _ 3430 [(0, _), (1, _), (2, _), (3, _), (4, _)] [] _ _ _
  refine j_aload_n dL_law_3430 rfl rfl ?_
  refine j_aload_n dL_law_3431 rfl rfl ?_
  refine j_iload dL_law_3432 rfl ?_
  refine j_iconst (v := 1) dL_law_3434 (by decide) ?_
  refine j_iadd dL_law_3435 ?_
  refine j_top (congrArg Value.int (show nI i + (1 : Int32) = nI (i + 1) from nI_add i 1)) ?_
  refine j_sld dL_law_3436 (by omega) (by omega) ?_
  refine j_aload_n dL_law_3437 rfl rfl ?_
  refine j_callSW dL_law_3438 kL_house lL_322 stL_house (lw_house hl w _ _ _ _ LT (z_sc G (i + 1))) (Nat.le_of_ble_eq_true rfl) ⟨(by show _ ≤ 665722; omega), (by show _ ≤ 7105070; omega)⟩ rfl (Nat.le_of_ble_eq_true rfl) rfl rfl (fun _ _ h => h.elim) ?_
  rintro _ w1 ⟨n1, rfl, LT1, hn1⟩
  refine j_istore (lo' := [(5, _), (0, _), (1, _), (2, _), (3, _), (4, _)]) dL_law_3441 (by decide) rfl ?_
  refine j_aload_n dL_law_3443 rfl rfl ?_
  refine j_aload_n dL_law_3444 rfl rfl ?_
  refine j_iload dL_law_3445 rfl ?_
  refine j_iconst (v := 1) dL_law_3447 (by decide) ?_
  refine j_iadd dL_law_3448 ?_
  refine j_top (congrArg Value.int (show nI i + (1 : Int32) = nI (i + 1) from nI_add i 1)) ?_
  refine j_sld dL_law_3449 (by omega) (by omega) ?_
  obtain ⟨-, ⟨s134, hs134, -⟩, -⟩ := id LT1
  refine j_callV (q := (RX11, TX11, 8)) dL_law_3450 kX11_house lL_324 inX11_house seX11_house hs134.m rfl (kx_house hl w1 LT1 (z_sc G (i + 1))) (Nat.le_of_ble_eq_true rfl) ⟨(by show _ ≤ 665722; omega), (by show _ ≤ 7105070; omega)⟩ rfl (Nat.le_of_ble_eq_true rfl) rfl rfl (fun _ _ h => h.elim) ?_
  rintro _ w2 ⟨r2, rfl, LT2, th2, hr2⟩
  refine j_istore (lo' := [(6, _), (5, _), (0, _), (1, _), (2, _), (3, _), (4, _)]) dL_law_3453 (by decide) rfl ?_
  refine j_aload_n dL_law_3455 rfl rfl ?_
  obtain ⟨st135, hst135, ht135⟩ := th2
  refine j_callV (q := (RX11, TX11, 8)) dL_law_3456 kX11_thrown lL_176 inX11_thrown seX11_thrown hst135.m rfl (cm_thrown hl w2 _ hst135) (Nat.le_of_ble_eq_true rfl) ⟨(by show _ ≤ 665722; omega), (by show _ ≤ 7105070; omega)⟩ rfl (Nat.le_of_ble_eq_true rfl) rfl rfl (fun _ _ h => h.elim) ?_
  rintro _ _ ⟨rfl, hw135⟩
  refine j_w w2 hw135 ?_
  refine j_iload dL_law_3459 rfl ?_
  refine j_icmp_eq (tgt := 3466) dL_law_3461 (by decide) (fun c_3461_29 => ?_) (fun c_3461_29 => ?_)
  · refine j_iload dL_law_3466 rfl ?_
    refine j_if_ne (tgt := 3484) dL_law_3468 (by decide) (fun c_3468_31 => ?_) (fun c_3468_31 => ?_)
    · refine j_goto (tgt := 3514) dL_law_3484 (by decide) ?_
      refine j_widen (kc' := kc + 200) (ks' := ks + 6000) (by omega) (by omega) ?_
      exact j_lo2 (KK _ _ _ LT2) (z_q1 rfl (z_q1 rfl (z_q1 rfl (z_q1 rfl (z_q1 rfl z_q0)))))
    · refine j_aload_n dL_law_3471 rfl rfl ?_
      obtain ⟨-, -, ⟨ov136, og136⟩, -⟩ := id LT2
      refine j_getf dL_law_3472 fL_13 og136 rfl ?_
      refine j_iload dL_law_3475 rfl ?_
      refine j_i2l dL_law_3477 ?_
      refine j_lcmp dL_law_3478 ?_
      refine j_if_eq (tgt := 3484) dL_law_3479 (by decide) (fun c_3479_41 => ?_) (fun c_3479_41 => ?_)
      · refine j_goto (tgt := 3514) dL_law_3484 (by decide) ?_
        refine j_widen (kc' := kc + 200) (ks' := ks + 6000) (by omega) (by omega) ?_
        exact j_lo2 (KK _ _ _ LT2) (z_q1 rfl (z_q1 rfl (z_q1 rfl (z_q1 rfl (z_q1 rfl z_q0)))))
      · exact absurd (q_cmp (by rw [hn1 c_3468_31, hr2 c_3468_31])) c_3479_41
  · exact absurd ht135 c_3461_29
set_option maxRecDepth 100000 in
set_option maxHeartbeats 4000000 in
theorem lc_45 (hl : l.stackTraces = false) {w : z_W} {x i kc ks : Nat} {S : sp_S} {n : Int64} (LT : z_LX x S S n w) (hi6 : i + 6 ≤ z_sn G) (hsn : z_sn G ≤ 3072) (hkc : kc + 200 ≤ 665722) (hks : ks + 6000 ≤ 7105070) (KK : ∀ (S9 : sp_S) (n9 : Int64) (w9 : z_W), z_LX x S9 S9 n9 w9 → z_J G l mL_law z_SL 3514 (z_lol x i) [] w9 (kc + 200) (ks + 6000)) : z_J G l mL_law z_SL 3487 (z_lol x i) [] w kc ks := by
  show z_J G l mL_law _ 3487 [(0, _), (1, _), (2, _), (3, _), (4, _)] [] _ _ _
  refine j_aload_n dL_law_3487 rfl rfl ?_
  obtain ⟨fs137, gs137⟩ := LT.rc
  refine j_callV (q := (RX8, TX8, 9)) dL_law_3488 kX8_isSound lL_325 inX8_isSound seX8_isSound gs137 rfl (px_isSound hl w _ LT.1.1) (Nat.le_of_ble_eq_true rfl) ⟨(by show _ ≤ 665722; omega), (by show _ ≤ 7105070; omega)⟩ rfl (Nat.le_of_ble_eq_true rfl) rfl rfl (fun _ _ h => h.elim) ?_
  rintro _ w1 ⟨rfl, hW1, hh1⟩
  have LT1 := LT.cls hW1 LT.1.2 hh1
  refine j_aload_n dL_law_3491 rfl rfl ?_
  obtain ⟨-, ⟨s138, hs138, -⟩, -⟩ := id LT1
  refine j_callV (q := (RX11, TX11, 8)) dL_law_3492 kX11_isSound lL_329 inX11_isSound seX11_isSound hs138.m rfl (kx_isSound hl w1 LT1) (Nat.le_of_ble_eq_true rfl) ⟨(by show _ ≤ 665722; omega), (by show _ ≤ 7105070; omega)⟩ rfl (Nat.le_of_ble_eq_true rfl) rfl rfl (fun _ _ h => h.elim) ?_
  rintro _ w2 ⟨r2, rfl, LT2, th2, hr2⟩
  refine j_icmp_eq (tgt := 3514) dL_law_3495 (by decide) (fun c_3495_10 => ?_) (fun c_3495_10 => ?_)
  · refine j_widen (kc' := kc + 200) (ks' := ks + 6000) (by omega) (by omega) ?_
    exact j_lo2 (KK _ _ _ LT2) (z_q1 rfl (z_q1 rfl (z_q1 rfl (z_q1 rfl (z_q1 rfl z_q0)))))
  · exact absurd hr2.symm c_3495_10
set_option maxRecDepth 100000 in
set_option maxHeartbeats 4000000 in
theorem lc_46 (hl : l.stackTraces = false) {w : z_W} {x i kc ks : Nat} {S : sp_S} {n : Int64} (LT : z_LX x S S n w) (hi6 : i + 6 ≤ z_sn G) (hsn : z_sn G ≤ 3072) (hkc : kc + 200 ≤ 665722) (hks : ks + 6000 ≤ 7105070) (KK : ∀ (S9 : sp_S) (n9 : Int64) (w9 : z_W), z_LX x S9 S9 n9 w9 → z_J G l mL_law z_SL 3514 (z_lol x i) [] w9 (kc + 200) (ks + 6000)) : z_J G l mL_law z_SL 3500 (z_lol x i) [] w kc ks := by
  show z_J G l mL_law _ 3500 [(0, _), (1, _), (2, _), (3, _), (4, _)] [] _ _ _
  refine j_aload_n dL_law_3500 rfl rfl ?_
  obtain ⟨fs139, gs139⟩ := LT.rc
  refine j_callV (q := (RX8, TX8, 9)) dL_law_3501 kX8_digest lL_330 inX8_digest seX8_digest gs139 rfl (px_digest hl w _ LT.1.1 LT.fn) (Nat.le_of_ble_eq_true rfl) ⟨(by show _ ≤ 665722; omega), (by show _ ≤ 7105070; omega)⟩ rfl (Nat.le_of_ble_eq_true rfl) rfl rfl (fun _ _ h => h.elim) ?_
  rintro _ w1 ⟨rfl, hW1, hh1⟩
  have LT1 := LT.cls hW1 LT.1.2 hh1
  refine j_aload_n dL_law_3504 rfl rfl ?_
  obtain ⟨-, ⟨s140, hs140, -⟩, -⟩ := id LT1
  refine j_callV (q := (RX11, TX11, 8)) dL_law_3505 kX11_digest lL_334 inX11_digest seX11_digest hs140.m rfl (ky_digest hl w1 LT1) (Nat.le_of_ble_eq_true rfl) ⟨(by show _ ≤ 665722; omega), (by show _ ≤ 7105070; omega)⟩ rfl (Nat.le_of_ble_eq_true rfl) rfl rfl (fun _ _ h => h.elim) ?_
  rintro _ w2 ⟨rfl, LT2⟩
  refine j_lcmp dL_law_3508 ?_
  refine j_if_eq (tgt := 3514) dL_law_3509 (by decide) (fun c_3509_11 => ?_) (fun c_3509_11 => ?_)
  · refine j_widen (kc' := kc + 200) (ks' := ks + 6000) (by omega) (by omega) ?_
    exact j_lo2 (KK _ _ _ LT2) (z_q1 rfl (z_q1 rfl (z_q1 rfl (z_q1 rfl (z_q1 rfl z_q0)))))
  · exact absurd (q_cmp rfl) c_3509_11
end ZLaw
end ZM1
section ZM2
section ZLawB
variable {G : z_G} {l : Launch}
set_option maxRecDepth 100000 in
theorem c_X9_init (hl : l.stackTraces = false) (w : z_W) (x : Nat) : z_Con G l mX9_init 10 0 0 w [.ref x] (fun v w9 => v = none ∧ w9 = w) (fun _ _ => False) := by
  refine z_body hl (by decide) rfl (Nat.le_of_ble_eq_true rfl) ?_
  show z_J G l mX9_init _ 0 [(0, _)] [] _ 0 0
  refine j_aload_n dX9_init_0 rfl rfl ?_
  refine j_objI dX9_init_1 oX9_1 z_oi1 z_oi2 (Nat.le_of_ble_eq_true rfl) (Nat.le_of_ble_eq_true rfl) ?_
  refine j_vret dX9_init_4 rfl ?_ (Nat.le_of_ble_eq_true rfl) (Nat.le_of_ble_eq_true rfl)
  exact ⟨rfl, rfl⟩
theorem z_gt6 {a b : Nat} (ha : a < 2 ^ 30) (hb : b < 2 ^ 30) (h : ¬ nI b - 6 < nI a) : a + 6 ≤ b := by
  have h2 : ¬ (nI b - nI 6).toInt < (nI a).toInt := fun z => h (Int32.lt_iff_toInt_lt.mpr z)
  rw [pk_sub_toInt hb (by decide), nI_toInt (by omega)] at h2
  omega
set_option maxRecDepth 100000 in
set_option maxHeartbeats 8000000 in
theorem law_turn (hl : l.stackTraces = false) {w : z_W} {x i kc ks : Nat} {S : sp_S} {n : Int64} (LT : z_LX x S S n w) (hi6 : i + 6 ≤ z_sn G) (hsn : z_sn G ≤ 3072) (hkc : kc + 200 ≤ 665722) (hks : ks + 6000 ≤ 7105070) (KK : ∀ (S9 : sp_S) (n9 : Int64) (w9 : z_W), z_LX x S9 S9 n9 w9 → z_J G l mL_law z_SL 3514 (z_lol x i) [] w9 (kc + 200) (ks + 6000)) : z_J G l mL_law z_SL 37 (z_lol x i) [] w kc ks := by
  show z_J G l mL_law _ 37 [(0, _), (1, _), (2, _), (3, _), (4, _)] [] _ _ _
  refine j_aload_n dL_law_37 rfl rfl ?_
  refine j_iload dL_law_38 rfl ?_
  refine j_sld dL_law_40 (by omega) (by omega) ?_
  refine j_bipush (v := 63) dL_law_41 (by decide) ?_
  refine j_iand dL_law_43 ?_
  refine z_genV ?_
  intro xv
  rcases z_sw47 xv with rfl | rfl | rfl | rfl | rfl | rfl | rfl | rfl | rfl | rfl | rfl | rfl | rfl | rfl | rfl | rfl | rfl | rfl | rfl | rfl | rfl | rfl | rfl | rfl | rfl | rfl | rfl | rfl | rfl | rfl | rfl | rfl | rfl | rfl | rfl | rfl | rfl | rfl | rfl | rfl | rfl | rfl | rfl | rfl | rfl | rfl | rfl | hp
  · exact j_tsIn (tgt := 248) dL_law_44 (by decide) (by decide) rfl (by decide) (lc_0 hl LT hi6 hsn hkc hks KK)
  · exact j_tsIn (tgt := 317) dL_law_44 (by decide) (by decide) rfl (by decide) (lc_1 hl LT hi6 hsn hkc hks KK)
  · exact j_tsIn (tgt := 386) dL_law_44 (by decide) (by decide) rfl (by decide) (lc_2 hl LT hi6 hsn hkc hks KK)
  · exact j_tsIn (tgt := 471) dL_law_44 (by decide) (by decide) rfl (by decide) (lc_3 hl LT hi6 hsn hkc hks KK)
  · exact j_tsIn (tgt := 540) dL_law_44 (by decide) (by decide) rfl (by decide) (lc_4 hl LT hi6 hsn hkc hks KK)
  · exact j_tsIn (tgt := 621) dL_law_44 (by decide) (by decide) rfl (by decide) (lc_5 hl LT hi6 hsn hkc hks KK)
  · exact j_tsIn (tgt := 702) dL_law_44 (by decide) (by decide) rfl (by decide) (lc_6 hl LT hi6 hsn hkc hks KK)
  · exact j_tsIn (tgt := 783) dL_law_44 (by decide) (by decide) rfl (by decide) (lc_7 hl LT hi6 hsn hkc hks KK)
  · exact j_tsIn (tgt := 840) dL_law_44 (by decide) (by decide) rfl (by decide) (lc_8 hl LT hi6 hsn hkc hks KK)
  · exact j_tsIn (tgt := 921) dL_law_44 (by decide) (by decide) rfl (by decide) (lc_9 hl LT hi6 hsn hkc hks KK)
  · exact j_tsIn (tgt := 990) dL_law_44 (by decide) (by decide) rfl (by decide) (lc_10 hl LT hi6 hsn hkc hks KK)
  · exact j_tsIn (tgt := 1071) dL_law_44 (by decide) (by decide) rfl (by decide) (lc_11 hl LT hi6 hsn hkc hks KK)
  · exact j_tsIn (tgt := 1152) dL_law_44 (by decide) (by decide) rfl (by decide) (lc_12 hl LT hi6 hsn hkc hks KK)
  · exact j_tsIn (tgt := 1252) dL_law_44 (by decide) (by decide) rfl (by decide) (lc_13 hl LT hi6 hsn hkc hks KK)
  · exact j_tsIn (tgt := 1340) dL_law_44 (by decide) (by decide) rfl (by decide) (lc_14 hl LT hi6 hsn hkc hks KK)
  · exact j_tsIn (tgt := 1433) dL_law_44 (by decide) (by decide) rfl (by decide) (lc_15 hl LT hi6 hsn hkc hks KK)
  · exact j_tsIn (tgt := 1526) dL_law_44 (by decide) (by decide) rfl (by decide) (lc_16 hl LT hi6 hsn hkc hks KK)
  · exact j_tsIn (tgt := 1619) dL_law_44 (by decide) (by decide) rfl (by decide) (lc_17 hl LT hi6 hsn hkc hks KK)
  · exact j_tsIn (tgt := 1712) dL_law_44 (by decide) (by decide) rfl (by decide) (lc_18 hl LT hi6 hsn hkc hks KK)
  · exact j_tsIn (tgt := 1781) dL_law_44 (by decide) (by decide) rfl (by decide) (lc_19 hl LT hi6 hsn hkc hks KK)
  · exact j_tsIn (tgt := 1862) dL_law_44 (by decide) (by decide) rfl (by decide) (lc_20 hl LT hi6 hsn hkc hks KK)
  · exact j_tsIn (tgt := 1919) dL_law_44 (by decide) (by decide) rfl (by decide) (lc_21 hl LT hi6 hsn hkc hks KK)
  · exact j_tsIn (tgt := 2012) dL_law_44 (by decide) (by decide) rfl (by decide) (lc_22 hl LT hi6 hsn hkc hks KK)
  · exact j_tsIn (tgt := 2117) dL_law_44 (by decide) (by decide) rfl (by decide) (lc_23 hl LT hi6 hsn hkc hks KK)
  · exact j_tsIn (tgt := 2186) dL_law_44 (by decide) (by decide) rfl (by decide) (lc_24 hl LT hi6 hsn hkc hks KK)
  · exact j_tsIn (tgt := 2255) dL_law_44 (by decide) (by decide) rfl (by decide) (lc_25 hl LT hi6 hsn hkc hks KK)
  · exact j_tsIn (tgt := 2312) dL_law_44 (by decide) (by decide) rfl (by decide) (lc_26 hl LT hi6 hsn hkc hks KK)
  · exact j_tsIn (tgt := 2381) dL_law_44 (by decide) (by decide) rfl (by decide) (lc_27 hl LT hi6 hsn hkc hks KK)
  · exact j_tsIn (tgt := 2439) dL_law_44 (by decide) (by decide) rfl (by decide) (lc_28 hl LT hi6 hsn hkc hks KK)
  · exact j_tsIn (tgt := 2496) dL_law_44 (by decide) (by decide) rfl (by decide) (lc_29 hl LT hi6 hsn hkc hks KK)
  · exact j_tsIn (tgt := 2565) dL_law_44 (by decide) (by decide) rfl (by decide) (lc_30 hl LT hi6 hsn hkc hks KK)
  · exact j_tsIn (tgt := 2623) dL_law_44 (by decide) (by decide) rfl (by decide) (lc_31 hl LT hi6 hsn hkc hks KK)
  · exact j_tsIn (tgt := 2687) dL_law_44 (by decide) (by decide) rfl (by decide) (lc_32 hl LT hi6 hsn hkc hks KK)
  · exact j_tsIn (tgt := 2756) dL_law_44 (by decide) (by decide) rfl (by decide) (lc_33 hl LT hi6 hsn hkc hks KK)
  · exact j_tsIn (tgt := 2813) dL_law_44 (by decide) (by decide) rfl (by decide) (lc_34 hl LT hi6 hsn hkc hks KK)
  · exact j_tsIn (tgt := 2826) dL_law_44 (by decide) (by decide) rfl (by decide) (lc_35 hl LT hi6 hsn hkc hks KK)
  · exact j_tsIn (tgt := 2895) dL_law_44 (by decide) (by decide) rfl (by decide) (lc_36 hl LT hi6 hsn hkc hks KK)
  · exact j_tsIn (tgt := 2976) dL_law_44 (by decide) (by decide) rfl (by decide) (lc_37 hl LT hi6 hsn hkc hks KK)
  · exact j_tsIn (tgt := 3052) dL_law_44 (by decide) (by decide) rfl (by decide) (lc_38 hl LT hi6 hsn hkc hks KK)
  · exact j_tsIn (tgt := 3109) dL_law_44 (by decide) (by decide) rfl (by decide) (lc_39 hl LT hi6 hsn hkc hks KK)
  · exact j_tsIn (tgt := 3167) dL_law_44 (by decide) (by decide) rfl (by decide) (lc_40 hl LT hi6 hsn hkc hks KK)
  · exact j_tsIn (tgt := 3243) dL_law_44 (by decide) (by decide) rfl (by decide) (lc_41 hl LT hi6 hsn hkc hks KK)
  · exact j_tsIn (tgt := 3336) dL_law_44 (by decide) (by decide) rfl (by decide) (lc_42 hl LT hi6 hsn hkc hks KK)
  · exact j_tsIn (tgt := 3417) dL_law_44 (by decide) (by decide) rfl (by decide) (lc_43 hl LT hi6 hsn hkc hks KK)
  · exact j_tsIn (tgt := 3430) dL_law_44 (by decide) (by decide) rfl (by decide) (lc_44 hl LT hi6 hsn hkc hks KK)
  · exact j_tsIn (tgt := 3487) dL_law_44 (by decide) (by decide) rfl (by decide) (lc_45 hl LT hi6 hsn hkc hks KK)
  · exact j_tsIn (tgt := 3500) dL_law_44 (by decide) (by decide) rfl (by decide) (lc_46 hl LT hi6 hsn hkc hks KK)
  · exact j_tsOut (tgt := 3514) dL_law_44 hp (by decide) (j_widen (kc' := kc + 200) (ks' := ks + 6000) (by omega) (by omega) (KK _ _ _ LT))
set_option maxRecDepth 100000 in
set_option maxHeartbeats 8000000 in
theorem law_loop (hl : l.stackTraces = false) (hsn : z_sn G ≤ 3072) {x : Nat} : ∀ (n j : Nat) (S : sp_S) (a : Int64) (w : z_W), 6 * j ≤ z_sn G → 513 ≤ j + n → z_LX x S S a w → z_J G l mL_law z_SL 27 (z_lol x (6 * j)) [] w (100 + 200 * j) (800 + 6000 * j) := by
  intro n
  induction n with
  | zero => intro j S a w h1 h2; exact absurd h2 (by omega)
  | succ n ih =>
    intro j S a w h1 h2 LT
    show z_J G l mL_law _ 27 [(0, _), (1, _), (2, _), (3, _), (4, _)] [] _ _ _
    refine j_iload dL_law_27 rfl ?_
    refine j_aload_n dL_law_29 rfl rfl ?_
    refine j_slen dL_law_30 ?_
    refine j_bipush (v := 6) dL_law_31 (by decide) ?_
    refine j_isub dL_law_33 ?_
    refine j_icmp_gt (tgt := 3520) dL_law_34 (by decide) (fun c => ?_) (fun c => ?_)
    · refine j_iconst (v := 1) dL_law_3520 (by decide) ?_
      refine j_iret dL_law_3521 rfl rfl ?_ (by show _ ≤ 665722; omega) (by show _ ≤ 7105070; omega)
      exact rfl
    · have h6 := z_gt6 (a := 6 * j) (b := z_sn G) (by omega) (by omega) c
      refine law_turn hl LT h6 hsn (by omega) (by omega) (fun S9 n9 w9 LT9 => ?_)
      show z_J G l mL_law _ 3514 [(0, _), (1, _), (2, _), (3, _), (4, _)] [] _ _ _
      refine j_iinc (lo' := [(4, _), (0, _), (1, _), (2, _), (3, _)]) dL_law_3514 rfl (show nI (6 * j) + Int32.ofInt 6 = nI (6 * (j + 1)) from nI_add (6 * j) 6) (by decide) rfl ?_
      refine j_goto (tgt := 27) dL_law_3517 (by decide) ?_
      refine j_widen (kc' := 100 + 200 * (j + 1)) (ks' := 800 + 6000 * (j + 1)) (by omega) (by omega) ?_
      exact j_lo2 (ih (j + 1) S9 n9 w9 (by omega) (by omega) LT9) (z_q1 rfl (z_q1 rfl (z_q1 rfl (z_q1 rfl (z_q1 rfl z_q0)))))
set_option maxRecDepth 100000 in
set_option maxHeartbeats 8000000 in
theorem law_J (hl : l.stackTraces = false) (hsn : z_sn G ≤ 3072) : z_J G l mL_law z_SL 0 [(0, .retAddr 8)] [] ([], z_no) 0 0 := by
  show z_J G l mL_law _ 0 [(0, _)] [] _ 0 0
  refine j_new (N := 9) (w' := ([.inr (12, [.null, .null, .null, .null, .null, .null, .null, .int 0, .int 0])], z_no)) (n := 0) dL_law_0 nL_8 rfl (z_al_l rfl rfl) (Nat.le_of_ble_eq_true rfl) (Nat.le_of_ble_eq_true rfl) ?_
  refine j_dup dL_law_3 rfl ?_
  refine j_callI dL_law_4 kX8_init rfl lL_165 inX8_init rfl (z_dirN (c_X8_init_z hl)) (Nat.le_of_ble_eq_true rfl) ⟨(Nat.le_of_ble_eq_true rfl), (Nat.le_of_ble_eq_true rfl)⟩ rfl (Nat.le_of_ble_eq_true rfl) rfl rfl (fun _ _ h => h.elim) ?_
  rintro _ _ ⟨L1, ⟨rfl, hWk⟩, rfl⟩
  have hlen := (sp_CWc hWk).1
  have hno : ∀ k, 1000 ≤ k → z_g (L1, z_no) k = none := fun k hk => by
    have hb : Nat.blt k 1000 = false := z_bltF hk
    simp only [z_g, hb, cond]
    rfl
  have hfn0 : z_fn (L1, z_no) := ⟨by show L1.length ≤ 1000; omega, 0, fun _ _ => rfl⟩
  refine j_astore_n (lo' := [(1, _), (0, _)]) dL_law_7 rfl (by decide) rfl ?_
  refine j_new (N := 8) (w' := _) (n := 1000) dL_law_8 nL_166 rfl (z_alW (hno 1000 (Nat.le_refl _)) (by decide)) (Nat.le_of_ble_eq_true rfl) (Nat.le_of_ble_eq_true rfl) ?_
  refine j_seal (n := 1000) (by decide) ?_
  intro w1 u1
  have hfn1 := u1.2.2.2 hfn0
  refine j_dup dL_law_11 rfl ?_
  refine j_callI dL_law_12 kX11_init rfl lL_168 inX11_init rfl (cx_init hl w1 hfn1 (fun k hk => (u1.2.1 k (by omega)).trans (hno k (by omega))) u1.1) (Nat.le_of_ble_eq_true rfl) ⟨(Nat.le_of_ble_eq_true rfl), (Nat.le_of_ble_eq_true rfl)⟩ rfl (Nat.le_of_ble_eq_true rfl) rfl rfl (fun _ _ h => h.elim) ?_
  rintro _ w2 ⟨rfl, hb2, s2, h2, hk2⟩
  refine j_astore_n (lo' := [(2, _), (1, _), (0, _)]) dL_law_15 rfl (by decide) rfl ?_
  obtain ⟨x, hx1, hx2, hx3⟩ := z_fresh 60 (by decide) h2.fn
  refine j_new (N := 2) (w' := _) (n := x) dL_law_16 nL_14 rfl (z_alW hx3 hx1) (Nat.le_of_ble_eq_true rfl) (Nat.le_of_ble_eq_true rfl) ?_
  refine j_seal (n := x) hx1 ?_
  intro w3 u3
  have h3 := h2.gar (u3.fw hx1 hx2) (by omega)
  refine j_dup dL_law_19 rfl ?_
  refine j_callIN dL_law_20 kX9_init rfl lL_169 inX9_init rfl (c_X9_init hl w3 x) (Nat.le_of_ble_eq_true rfl) ⟨(Nat.le_of_ble_eq_true rfl), (Nat.le_of_ble_eq_true rfl)⟩ rfl (Nat.le_of_ble_eq_true rfl) rfl rfl (fun _ _ h => h.elim) ?_
  rintro _ _ ⟨rfl, hw9⟩
  refine j_w w3 hw9 ?_
  refine j_astore_n (lo' := [(3, _), (2, _), (1, _), (0, _)]) dL_law_23 rfl (by decide) rfl ?_
  refine j_iconst (v := 0) dL_law_24 (by decide) ?_
  refine j_istore (lo' := [(4, _), (3, _), (2, _), (1, _), (0, _)]) dL_law_25 (by decide) rfl ?_
  have LT : z_LX x sp_S0 sp_S0 0 w3 := ⟨⟨by rw [u3.2.2.1, hb2, u1.2.2.1]; exact hWk, ok_S0⟩, ⟨s2, h3, hk2, ok_S0⟩, ⟨_, u3.1⟩, hx1, hx2⟩
  refine j_widen (kc' := 100 + 200 * 0) (ks' := 800 + 6000 * 0) (Nat.le_of_ble_eq_true rfl) (Nat.le_of_ble_eq_true rfl) ?_
  exact j_lo2 (law_loop hl hsn 513 0 _ _ w3 (by omega) (by omega) LT) (z_q1 rfl (z_q1 rfl (z_q1 rfl (z_q1 rfl (z_q1 rfl z_q0)))))
end ZLawB
end ZM2
