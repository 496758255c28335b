section ZM0
section ZLw
variable {G : z_G} {l : Launch}
set_option maxRecDepth 100000 in
set_option maxHeartbeats 4000000 in
theorem lw_type (hl : l.stackTraces = false) (w : z_W) (x : Nat) (C M : sp_S) (n : Int64) (LT : z_LX x C M n w) (a0 : Int32) (a1 : Int32) : z_Con G l mL_type 27 14 120 w [.ref 0, .int a0, .int a1, .ref x] (fun v w9 => ∃ n9 : Int64, v = some (.int (t_type C a0 a1)) ∧ z_LX x (k_type C a0 a1) M n9 w9 ∧ (t_type C a0 a1 = 0 → n9 = (a_type C a0 a1).toInt64)) (fun _ _ => False) := by
  refine z_bodyW hl (by decide) (by decide) (Nat.le_of_ble_eq_true rfl) ?_
  show z_J G l mL_type _ 0 [(0, _), (1, _), (2, _), (3, _)] [] _ 0 0
  refine j_aload_n dL_type_0 rfl rfl ?_
  refine j_aload_n dL_type_1 rfl rfl ?_
  refine j_iload_n dL_type_2 rfl ?_
  refine j_iload_n dL_type_3 rfl ?_
  obtain ⟨fs1, gs1⟩ := LT.rc
  refine j_tryV (q := (RX8, TX8, 9)) dL_type_4 kX8_type lL_7 inX8_type seX8_type gs1 rfl (px_type hl w C LT.1.1 LT.1.2 a0 a1) (Nat.le_of_ble_eq_true rfl) ⟨(Nat.le_of_ble_eq_true rfl), (Nat.le_of_ble_eq_true rfl)⟩ rfl (Nat.le_of_ble_eq_true rfl) rfl ?_ ?_
  · rintro E _ ⟨hE, rfl⟩
    rcases hE with hE | hE
    · obtain ⟨hE, hk⟩ := hE
      have hk : t_type C a0 a1 = 1 := hk
      have hE : E = "java/lang/IndexOutOfBoundsException" := hE
      subst hE
      refine ⟨14, 16, ⟨[], (⟨0, 11, 14, 19⟩ : ExceptionTableEntry), _, "java/lang/IndexOutOfBoundsException", rfl, (fun z hz => by cases hz), by decide, by decide, (z_w 847 ((lwt_4_2 22).trans rfl) (by decide +kernel)), (z_wn 860 ((lwt_4_3 5).trans rfl) (by decide +kernel)), rfl⟩, Or.inl ⟨4, dL_type_14, by decide, rfl⟩, ?_⟩
      refine j_iconst (v := 1) dL_type_16 (by decide) ?_
      refine j_iret dL_type_17 rfl rfl ?_ (Nat.le_of_ble_eq_true rfl) (Nat.le_of_ble_eq_true rfl)
      exact ⟨_, by rw [hk], by unfold k_type; rw [if_neg (by rw [hk]; decide)]; exact LT, fun z => absurd (hk.symm.trans z) (by decide)⟩
    · rcases hE with hE | hE
      · obtain ⟨hE, hk⟩ := hE
        have hk : t_type C a0 a1 = 2 := hk
        have hE : E = "java/lang/IllegalArgumentException" := hE
        subst hE
        refine ⟨18, 20, ⟨[(⟨0, 11, 14, 19⟩ : ExceptionTableEntry)], (⟨0, 11, 18, 21⟩ : ExceptionTableEntry), _, "java/lang/IllegalArgumentException", rfl, (fun z hz => by
            simp only [List.mem_cons, List.not_mem_nil, or_false] at hz
            rcases hz with rfl
            · exact Or.inr ⟨by decide, "java/lang/IndexOutOfBoundsException", (z_w 847 ((lwt_4_2 22).trans rfl) (by decide +kernel)), by decide⟩), by decide, by decide, (z_w 848 ((lwt_4_2 23).trans rfl) (by decide +kernel)), (z_wn 460 ((lwt_2_5 25).trans rfl) (by decide +kernel)), rfl⟩, Or.inl ⟨4, dL_type_18, by decide, rfl⟩, ?_⟩
        refine j_iconst (v := 2) dL_type_20 (by decide) ?_
        refine j_iret dL_type_21 rfl rfl ?_ (Nat.le_of_ble_eq_true rfl) (Nat.le_of_ble_eq_true rfl)
        exact ⟨_, by rw [hk], by unfold k_type; rw [if_neg (by rw [hk]; decide)]; exact LT, fun z => absurd (hk.symm.trans z) (by decide)⟩
      · obtain ⟨hE, hk⟩ := hE
        have hk : t_type C a0 a1 = 3 := hk
        have hE : E = "java/lang/IllegalStateException" := hE
        subst hE
        refine ⟨22, 24, ⟨[(⟨0, 11, 14, 19⟩ : ExceptionTableEntry), (⟨0, 11, 18, 21⟩ : ExceptionTableEntry)], (⟨0, 11, 22, 23⟩ : ExceptionTableEntry), _, "java/lang/IllegalStateException", rfl, (fun z hz => by
            simp only [List.mem_cons, List.not_mem_nil, or_false] at hz
            rcases hz with rfl | rfl
            · exact Or.inr ⟨by decide, "java/lang/IndexOutOfBoundsException", (z_w 847 ((lwt_4_2 22).trans rfl) (by decide +kernel)), by decide⟩
            · exact Or.inr ⟨by decide, "java/lang/IllegalArgumentException", (z_w 848 ((lwt_4_2 23).trans rfl) (by decide +kernel)), by decide⟩), by decide, by decide, (z_w 849 ((lwt_4_2 24).trans rfl) (by decide +kernel)), (z_wn 883 ((lwt_4_3 28).trans rfl) (by decide +kernel)), rfl⟩, Or.inl ⟨4, dL_type_22, by decide, rfl⟩, ?_⟩
        refine j_iconst (v := 3) dL_type_24 (by decide) ?_
        refine j_iret dL_type_25 rfl rfl ?_ (Nat.le_of_ble_eq_true rfl) (Nat.le_of_ble_eq_true rfl)
        exact ⟨_, by rw [hk], by unfold k_type; rw [if_neg (by rw [hk]; decide)]; exact LT, fun z => absurd (hk.symm.trans z) (by decide)⟩
  · rintro _ w1 ⟨hk, rfl, hW1, hh1⟩
    have hk : t_type C a0 a1 = 0 := hk
    have LT1 : z_LX x (k_type C a0 a1) M n w1 := LT.cls (by unfold k_type; rw [if_pos hk]; exact hW1) (okk_type _ _ LT.1.2) hh1
    refine j_i2l dL_type_7 ?_
    obtain ⟨-, -, ⟨ov2, og2⟩, -⟩ := id LT1
    refine j_put (w' := _) dL_type_8 fL_13 tX9_0 og2 ⟨rfl, rfl⟩ rfl ?_
    refine j_seal (n := x) LT1.x1 ?_
    intro w2 u2
    have LT2 := LT1.out u2
    refine j_goto (tgt := 26) dL_type_11 (by decide) ?_
    refine j_iconst (v := 0) dL_type_26 (by decide) ?_
    refine j_iret dL_type_27 rfl rfl ?_ (Nat.le_of_ble_eq_true rfl) (Nat.le_of_ble_eq_true rfl)
    exact ⟨_, by rw [hk], LT2, fun _ => rfl⟩
set_option maxRecDepth 100000 in
set_option maxHeartbeats 4000000 in
theorem lw_drop (hl : l.stackTraces = false) (w : z_W) (x : Nat) (C M : sp_S) (n : Int64) (LT : z_LX x C M n w) (a0 : Int32) (a1 : Int32) : z_Con G l mL_drop 27 14 120 w [.ref 0, .int a0, .int a1, .ref x] (fun v w9 => ∃ n9 : Int64, v = some (.int (t_drop C a0 a1)) ∧ z_LX x (k_drop C a0 a1) M n9 w9 ∧ (t_drop C a0 a1 = 0 → n9 = (a_drop C a0 a1).toInt64)) (fun _ _ => False) := by
  refine z_bodyW hl (by decide) (by decide) (Nat.le_of_ble_eq_true rfl) ?_
  show z_J G l mL_drop _ 0 [(0, _), (1, _), (2, _), (3, _)] [] _ 0 0
  refine j_aload_n dL_drop_0 rfl rfl ?_
  refine j_aload_n dL_drop_1 rfl rfl ?_
  refine j_iload_n dL_drop_2 rfl ?_
  refine j_iload_n dL_drop_3 rfl ?_
  obtain ⟨fs3, gs3⟩ := LT.rc
  refine j_tryV (q := (RX8, TX8, 9)) dL_drop_4 kX8_drop lL_25 inX8_drop seX8_drop gs3 rfl (px_drop hl w C LT.1.1 LT.1.2 a0 a1) (Nat.le_of_ble_eq_true rfl) ⟨(Nat.le_of_ble_eq_true rfl), (Nat.le_of_ble_eq_true rfl)⟩ rfl (Nat.le_of_ble_eq_true rfl) rfl ?_ ?_
  · rintro E _ ⟨hE, rfl⟩
    rcases hE with hE | hE
    · obtain ⟨hE, hk⟩ := hE
      have hk : t_drop C a0 a1 = 1 := hk
      have hE : E = "java/lang/IndexOutOfBoundsException" := hE
      subst hE
      refine ⟨14, 16, ⟨[], (⟨0, 11, 14, 19⟩ : ExceptionTableEntry), _, "java/lang/IndexOutOfBoundsException", rfl, (fun z hz => by cases hz), by decide, by decide, (z_w 847 ((lwt_4_2 22).trans rfl) (by decide +kernel)), (z_wn 860 ((lwt_4_3 5).trans rfl) (by decide +kernel)), rfl⟩, Or.inl ⟨4, dL_drop_14, by decide, rfl⟩, ?_⟩
      refine j_iconst (v := 1) dL_drop_16 (by decide) ?_
      refine j_iret dL_drop_17 rfl rfl ?_ (Nat.le_of_ble_eq_true rfl) (Nat.le_of_ble_eq_true rfl)
      exact ⟨_, by rw [hk], by unfold k_drop; rw [if_neg (by rw [hk]; decide)]; exact LT, fun z => absurd (hk.symm.trans z) (by decide)⟩
    · obtain ⟨hE, hk⟩ := hE
      have hk : t_drop C a0 a1 = 2 := hk
      have hE : E = "java/lang/IllegalArgumentException" := hE
      subst hE
      refine ⟨18, 20, ⟨[(⟨0, 11, 14, 19⟩ : ExceptionTableEntry)], (⟨0, 11, 18, 21⟩ : ExceptionTableEntry), _, "java/lang/IllegalArgumentException", rfl, (fun z hz => by
          simp only [List.mem_cons, List.not_mem_nil, or_false] at hz
          rcases hz with rfl
          · exact Or.inr ⟨by decide, "java/lang/IndexOutOfBoundsException", (z_w 847 ((lwt_4_2 22).trans rfl) (by decide +kernel)), by decide⟩), by decide, by decide, (z_w 848 ((lwt_4_2 23).trans rfl) (by decide +kernel)), (z_wn 460 ((lwt_2_5 25).trans rfl) (by decide +kernel)), rfl⟩, Or.inl ⟨4, dL_drop_18, by decide, rfl⟩, ?_⟩
      refine j_iconst (v := 2) dL_drop_20 (by decide) ?_
      refine j_iret dL_drop_21 rfl rfl ?_ (Nat.le_of_ble_eq_true rfl) (Nat.le_of_ble_eq_true rfl)
      exact ⟨_, by rw [hk], by unfold k_drop; rw [if_neg (by rw [hk]; decide)]; exact LT, fun z => absurd (hk.symm.trans z) (by decide)⟩
  · rintro _ w1 ⟨hk, rfl, hW1, hh1⟩
    have hk : t_drop C a0 a1 = 0 := hk
    have LT1 : z_LX x (k_drop C a0 a1) M n w1 := LT.cls (by unfold k_drop; rw [if_pos hk]; exact hW1) (okk_drop _ _ LT.1.2) hh1
    refine j_i2l dL_drop_7 ?_
    obtain ⟨-, -, ⟨ov4, og4⟩, -⟩ := id LT1
    refine j_put (w' := _) dL_drop_8 fL_13 tX9_0 og4 ⟨rfl, rfl⟩ rfl ?_
    refine j_seal (n := x) LT1.x1 ?_
    intro w2 u2
    have LT2 := LT1.out u2
    refine j_goto (tgt := 22) dL_drop_11 (by decide) ?_
    refine j_iconst (v := 0) dL_drop_22 (by decide) ?_
    refine j_iret dL_drop_23 rfl rfl ?_ (Nat.le_of_ble_eq_true rfl) (Nat.le_of_ble_eq_true rfl)
    exact ⟨_, by rw [hk], LT2, fun _ => rfl⟩
set_option maxRecDepth 100000 in
set_option maxHeartbeats 4000000 in
theorem lw_fix (hl : l.stackTraces = false) (w : z_W) (x : Nat) (C M : sp_S) (n : Int64) (LT : z_LX x C M n w) (a0 : Int32) (a1 : Bool) : z_Con G l mL_fix 27 14 120 w [.ref 0, .int a0, .int (z_bi a1), .ref x] (fun v w9 => ∃ n9 : Int64, v = some (.int (t_fix C a0 a1)) ∧ z_LX x (k_fix C a0 a1) M n9 w9 ∧ (t_fix C a0 a1 = 0 → n9 = (a_fix C a0 a1).toInt64)) (fun _ _ => False) := by
  refine z_bodyW hl (by decide) (by decide) (Nat.le_of_ble_eq_true rfl) ?_
  show z_J G l mL_fix _ 0 [(0, _), (1, _), (2, _), (3, _)] [] _ 0 0
  refine j_aload_n dL_fix_0 rfl rfl ?_
  refine j_aload_n dL_fix_1 rfl rfl ?_
  refine j_iload_n dL_fix_2 rfl ?_
  refine j_iload_n dL_fix_3 rfl ?_
  obtain ⟨fs5, gs5⟩ := LT.rc
  refine j_tryV (q := (RX8, TX8, 9)) dL_fix_4 kX8_fix lL_28 inX8_fix seX8_fix gs5 rfl (px_fix hl w C LT.1.1 LT.1.2 a0 a1) (Nat.le_of_ble_eq_true rfl) ⟨(Nat.le_of_ble_eq_true rfl), (Nat.le_of_ble_eq_true rfl)⟩ rfl (Nat.le_of_ble_eq_true rfl) rfl ?_ ?_
  · rintro E _ ⟨hE, rfl⟩
    obtain ⟨hE, hk⟩ := hE
    have hk : t_fix C a0 a1 = 1 := hk
    have hE : E = "java/lang/IndexOutOfBoundsException" := hE
    subst hE
    refine ⟨14, 16, ⟨[], (⟨0, 11, 14, 19⟩ : ExceptionTableEntry), _, "java/lang/IndexOutOfBoundsException", rfl, (fun z hz => by cases hz), by decide, by decide, (z_w 847 ((lwt_4_2 22).trans rfl) (by decide +kernel)), (z_wn 860 ((lwt_4_3 5).trans rfl) (by decide +kernel)), rfl⟩, Or.inl ⟨4, dL_fix_14, by decide, rfl⟩, ?_⟩
    refine j_iconst (v := 1) dL_fix_16 (by decide) ?_
    refine j_iret dL_fix_17 rfl rfl ?_ (Nat.le_of_ble_eq_true rfl) (Nat.le_of_ble_eq_true rfl)
    exact ⟨_, by rw [hk], by unfold k_fix; rw [if_neg (by rw [hk]; decide)]; exact LT, fun z => absurd (hk.symm.trans z) (by decide)⟩
  · rintro _ w1 ⟨hk, rfl, hW1, hh1⟩
    have hk : t_fix C a0 a1 = 0 := hk
    have LT1 : z_LX x (k_fix C a0 a1) M n w1 := LT.cls (by unfold k_fix; rw [if_pos hk]; exact hW1) (okk_fix _ _ LT.1.2) hh1
    refine j_i2l dL_fix_7 ?_
    obtain ⟨-, -, ⟨ov6, og6⟩, -⟩ := id LT1
    refine j_put (w' := _) dL_fix_8 fL_13 tX9_0 og6 ⟨rfl, rfl⟩ rfl ?_
    refine j_seal (n := x) LT1.x1 ?_
    intro w2 u2
    have LT2 := LT1.out u2
    refine j_goto (tgt := 18) dL_fix_11 (by decide) ?_
    refine j_iconst (v := 0) dL_fix_18 (by decide) ?_
    refine j_iret dL_fix_19 rfl rfl ?_ (Nat.le_of_ble_eq_true rfl) (Nat.le_of_ble_eq_true rfl)
    exact ⟨_, by rw [hk], LT2, fun _ => rfl⟩
set_option maxRecDepth 100000 in
set_option maxHeartbeats 4000000 in
theorem lw_hear (hl : l.stackTraces = false) (w : z_W) (x : Nat) (C M : sp_S) (n : Int64) (LT : z_LX x C M n w) (a0 : Int32) (a1 : Int32) : z_Con G l mL_hear 27 14 120 w [.ref 0, .int a0, .int a1, .ref x] (fun v w9 => ∃ n9 : Int64, v = some (.int (t_hear C a0 a1)) ∧ z_LX x (k_hear C a0 a1) M n9 w9 ∧ (t_hear C a0 a1 = 0 → n9 = (a_hear C a0 a1).toInt64)) (fun _ _ => False) := by
  refine z_bodyW hl (by decide) (by decide) (Nat.le_of_ble_eq_true rfl) ?_
  show z_J G l mL_hear _ 0 [(0, _), (1, _), (2, _), (3, _)] [] _ 0 0
  refine j_aload_n dL_hear_0 rfl rfl ?_
  refine j_aload_n dL_hear_1 rfl rfl ?_
  refine j_iload_n dL_hear_2 rfl ?_
  refine j_iload_n dL_hear_3 rfl ?_
  obtain ⟨fs7, gs7⟩ := LT.rc
  refine j_tryV (q := (RX8, TX8, 9)) dL_hear_4 kX8_hear lL_32 inX8_hear seX8_hear gs7 rfl (px_hear hl w C LT.1.1 LT.1.2 a0 a1) (Nat.le_of_ble_eq_true rfl) ⟨(Nat.le_of_ble_eq_true rfl), (Nat.le_of_ble_eq_true rfl)⟩ rfl (Nat.le_of_ble_eq_true rfl) rfl ?_ ?_
  · rintro E _ ⟨hE, rfl⟩
    obtain ⟨hE, hk⟩ := hE
    have hk : t_hear C a0 a1 = 1 := hk
    have hE : E = "java/lang/IndexOutOfBoundsException" := hE
    subst hE
    refine ⟨14, 16, ⟨[], (⟨0, 11, 14, 19⟩ : ExceptionTableEntry), _, "java/lang/IndexOutOfBoundsException", rfl, (fun z hz => by cases hz), by decide, by decide, (z_w 847 ((lwt_4_2 22).trans rfl) (by decide +kernel)), (z_wn 860 ((lwt_4_3 5).trans rfl) (by decide +kernel)), rfl⟩, Or.inl ⟨4, dL_hear_14, by decide, rfl⟩, ?_⟩
    refine j_iconst (v := 1) dL_hear_16 (by decide) ?_
    refine j_iret dL_hear_17 rfl rfl ?_ (Nat.le_of_ble_eq_true rfl) (Nat.le_of_ble_eq_true rfl)
    exact ⟨_, by rw [hk], by unfold k_hear; rw [if_neg (by rw [hk]; decide)]; exact LT, fun z => absurd (hk.symm.trans z) (by decide)⟩
  · rintro _ w1 ⟨hk, rfl, hW1, hh1⟩
    have hk : t_hear C a0 a1 = 0 := hk
    have LT1 : z_LX x (k_hear C a0 a1) M n w1 := LT.cls (by unfold k_hear; rw [if_pos hk]; exact hW1) (okk_hear _ _ LT.1.2) hh1
    refine j_i2l dL_hear_7 ?_
    obtain ⟨-, -, ⟨ov8, og8⟩, -⟩ := id LT1
    refine j_put (w' := _) dL_hear_8 fL_13 tX9_0 og8 ⟨rfl, rfl⟩ rfl ?_
    refine j_seal (n := x) LT1.x1 ?_
    intro w2 u2
    have LT2 := LT1.out u2
    refine j_goto (tgt := 18) dL_hear_11 (by decide) ?_
    refine j_iconst (v := 0) dL_hear_18 (by decide) ?_
    refine j_iret dL_hear_19 rfl rfl ?_ (Nat.le_of_ble_eq_true rfl) (Nat.le_of_ble_eq_true rfl)
    exact ⟨_, by rw [hk], LT2, fun _ => rfl⟩
set_option maxRecDepth 100000 in
set_option maxHeartbeats 4000000 in
theorem lw_rest (hl : l.stackTraces = false) (w : z_W) (x : Nat) (C M : sp_S) (n : Int64) (LT : z_LX x C M n w) (a0 : Int32) (a1 : Int32) (a2 : Int32) : z_Con G l mL_rest 27 14 120 w [.ref 0, .int a0, .int a1, .int a2, .ref x] (fun v w9 => ∃ n9 : Int64, v = some (.int (t_rest C a0 a1 a2)) ∧ z_LX x (k_rest C a0 a1 a2) M n9 w9 ∧ (t_rest C a0 a1 a2 = 0 → n9 = (a_rest C a0 a1 a2).toInt64)) (fun _ _ => False) := by
  refine z_bodyW hl (by decide) (by decide) (Nat.le_of_ble_eq_true rfl) ?_
  show z_J G l mL_rest _ 0 [(0, _), (1, _), (2, _), (3, _), (4, _)] [] _ 0 0
  refine j_aload dL_rest_0 rfl rfl ?_
  refine j_aload_n dL_rest_2 rfl rfl ?_
  refine j_iload_n dL_rest_3 rfl ?_
  refine j_iload_n dL_rest_4 rfl ?_
  refine j_iload_n dL_rest_5 rfl ?_
  obtain ⟨fs9, gs9⟩ := LT.rc
  refine j_tryV (q := (RX8, TX8, 9)) dL_rest_6 kX8_rest lL_35 inX8_rest seX8_rest gs9 rfl (px_rest hl w C LT.1.1 LT.1.2 a0 a1 a2) (Nat.le_of_ble_eq_true rfl) ⟨(Nat.le_of_ble_eq_true rfl), (Nat.le_of_ble_eq_true rfl)⟩ rfl (Nat.le_of_ble_eq_true rfl) rfl ?_ ?_
  · rintro E _ ⟨hE, rfl⟩
    rcases hE with hE | hE
    · obtain ⟨hE, hk⟩ := hE
      have hk : t_rest C a0 a1 a2 = 1 := hk
      have hE : E = "java/lang/IndexOutOfBoundsException" := hE
      subst hE
      refine ⟨16, 18, ⟨[], (⟨0, 13, 16, 19⟩ : ExceptionTableEntry), _, "java/lang/IndexOutOfBoundsException", rfl, (fun z hz => by cases hz), by decide, by decide, (z_w 847 ((lwt_4_2 22).trans rfl) (by decide +kernel)), (z_wn 860 ((lwt_4_3 5).trans rfl) (by decide +kernel)), rfl⟩, Or.inl ⟨5, dL_rest_16, by decide, rfl⟩, ?_⟩
      refine j_iconst (v := 1) dL_rest_18 (by decide) ?_
      refine j_iret dL_rest_19 rfl rfl ?_ (Nat.le_of_ble_eq_true rfl) (Nat.le_of_ble_eq_true rfl)
      exact ⟨_, by rw [hk], by unfold k_rest; rw [if_neg (by rw [hk]; decide)]; exact LT, fun z => absurd (hk.symm.trans z) (by decide)⟩
    · obtain ⟨hE, hk⟩ := hE
      have hk : t_rest C a0 a1 a2 = 2 := hk
      have hE : E = "java/lang/IllegalArgumentException" := hE
      subst hE
      refine ⟨20, 22, ⟨[(⟨0, 13, 16, 19⟩ : ExceptionTableEntry)], (⟨0, 13, 20, 21⟩ : ExceptionTableEntry), _, "java/lang/IllegalArgumentException", rfl, (fun z hz => by
          simp only [List.mem_cons, List.not_mem_nil, or_false] at hz
          rcases hz with rfl
          · exact Or.inr ⟨by decide, "java/lang/IndexOutOfBoundsException", (z_w 847 ((lwt_4_2 22).trans rfl) (by decide +kernel)), by decide⟩), by decide, by decide, (z_w 848 ((lwt_4_2 23).trans rfl) (by decide +kernel)), (z_wn 460 ((lwt_2_5 25).trans rfl) (by decide +kernel)), rfl⟩, Or.inl ⟨5, dL_rest_20, by decide, rfl⟩, ?_⟩
      refine j_iconst (v := 2) dL_rest_22 (by decide) ?_
      refine j_iret dL_rest_23 rfl rfl ?_ (Nat.le_of_ble_eq_true rfl) (Nat.le_of_ble_eq_true rfl)
      exact ⟨_, by rw [hk], by unfold k_rest; rw [if_neg (by rw [hk]; decide)]; exact LT, fun z => absurd (hk.symm.trans z) (by decide)⟩
  · rintro _ w1 ⟨hk, rfl, hW1, hh1⟩
    have hk : t_rest C a0 a1 a2 = 0 := hk
    have LT1 : z_LX x (k_rest C a0 a1 a2) M n w1 := LT.cls (by unfold k_rest; rw [if_pos hk]; exact hW1) (okk_rest _ _ _ LT.1.2) hh1
    refine j_i2l dL_rest_9 ?_
    obtain ⟨-, -, ⟨ov10, og10⟩, -⟩ := id LT1
    refine j_put (w' := _) dL_rest_10 fL_13 tX9_0 og10 ⟨rfl, rfl⟩ rfl ?_
    refine j_seal (n := x) LT1.x1 ?_
    intro w2 u2
    have LT2 := LT1.out u2
    refine j_goto (tgt := 24) dL_rest_13 (by decide) ?_
    refine j_iconst (v := 0) dL_rest_24 (by decide) ?_
    refine j_iret dL_rest_25 rfl rfl ?_ (Nat.le_of_ble_eq_true rfl) (Nat.le_of_ble_eq_true rfl)
    exact ⟨_, by rw [hk], LT2, fun _ => rfl⟩
set_option maxRecDepth 100000 in
set_option maxHeartbeats 4000000 in
theorem lw_removeIf (hl : l.stackTraces = false) (w : z_W) (x : Nat) (C M : sp_S) (n : Int64) (LT : z_LX x C M n w) (a0 : Int32) (a1 : Int32) (a2 : Int32) : z_Con G l mL_removeIf 27 14 120 w [.ref 0, .int a0, .int a1, .int a2, .ref x] (fun v w9 => ∃ n9 : Int64, v = some (.int (t_removeIf C a0 a1 a2)) ∧ z_LX x (k_removeIf C a0 a1 a2) M n9 w9 ∧ (t_removeIf C a0 a1 a2 = 0 → n9 = (a_removeIf C a0 a1 a2).toInt64)) (fun _ _ => False) := by
  refine z_bodyW hl (by decide) (by decide) (Nat.le_of_ble_eq_true rfl) ?_
  show z_J G l mL_removeIf _ 0 [(0, _), (1, _), (2, _), (3, _), (4, _)] [] _ 0 0
  refine j_aload dL_removeIf_0 rfl rfl ?_
  refine j_aload_n dL_removeIf_2 rfl rfl ?_
  refine j_iload_n dL_removeIf_3 rfl ?_
  refine j_iload_n dL_removeIf_4 rfl ?_
  refine j_iload_n dL_removeIf_5 rfl ?_
  obtain ⟨fs11, gs11⟩ := LT.rc
  refine j_tryV (q := (RX8, TX8, 9)) dL_removeIf_6 kX8_removeIf lL_39 inX8_removeIf seX8_removeIf gs11 rfl (px_removeIf hl w C LT.1.1 LT.1.2 a0 a1 a2) (Nat.le_of_ble_eq_true rfl) ⟨(Nat.le_of_ble_eq_true rfl), (Nat.le_of_ble_eq_true rfl)⟩ rfl (Nat.le_of_ble_eq_true rfl) rfl ?_ ?_
  · rintro E _ ⟨hE, rfl⟩
    rcases hE with hE | hE
    · obtain ⟨hE, hk⟩ := hE
      have hk : t_removeIf C a0 a1 a2 = 1 := hk
      have hE : E = "java/lang/IndexOutOfBoundsException" := hE
      subst hE
      refine ⟨16, 18, ⟨[], (⟨0, 13, 16, 19⟩ : ExceptionTableEntry), _, "java/lang/IndexOutOfBoundsException", rfl, (fun z hz => by cases hz), by decide, by decide, (z_w 847 ((lwt_4_2 22).trans rfl) (by decide +kernel)), (z_wn 860 ((lwt_4_3 5).trans rfl) (by decide +kernel)), rfl⟩, Or.inl ⟨5, dL_removeIf_16, by decide, rfl⟩, ?_⟩
      refine j_iconst (v := 1) dL_removeIf_18 (by decide) ?_
      refine j_iret dL_removeIf_19 rfl rfl ?_ (Nat.le_of_ble_eq_true rfl) (Nat.le_of_ble_eq_true rfl)
      exact ⟨_, by rw [hk], by unfold k_removeIf; rw [if_neg (by rw [hk]; decide)]; exact LT, fun z => absurd (hk.symm.trans z) (by decide)⟩
    · obtain ⟨hE, hk⟩ := hE
      have hk : t_removeIf C a0 a1 a2 = 2 := hk
      have hE : E = "java/lang/IllegalArgumentException" := hE
      subst hE
      refine ⟨20, 22, ⟨[(⟨0, 13, 16, 19⟩ : ExceptionTableEntry)], (⟨0, 13, 20, 21⟩ : ExceptionTableEntry), _, "java/lang/IllegalArgumentException", rfl, (fun z hz => by
          simp only [List.mem_cons, List.not_mem_nil, or_false] at hz
          rcases hz with rfl
          · exact Or.inr ⟨by decide, "java/lang/IndexOutOfBoundsException", (z_w 847 ((lwt_4_2 22).trans rfl) (by decide +kernel)), by decide⟩), by decide, by decide, (z_w 848 ((lwt_4_2 23).trans rfl) (by decide +kernel)), (z_wn 460 ((lwt_2_5 25).trans rfl) (by decide +kernel)), rfl⟩, Or.inl ⟨5, dL_removeIf_20, by decide, rfl⟩, ?_⟩
      refine j_iconst (v := 2) dL_removeIf_22 (by decide) ?_
      refine j_iret dL_removeIf_23 rfl rfl ?_ (Nat.le_of_ble_eq_true rfl) (Nat.le_of_ble_eq_true rfl)
      exact ⟨_, by rw [hk], by unfold k_removeIf; rw [if_neg (by rw [hk]; decide)]; exact LT, fun z => absurd (hk.symm.trans z) (by decide)⟩
  · rintro _ w1 ⟨hk, rfl, hW1, hh1⟩
    have hk : t_removeIf C a0 a1 a2 = 0 := hk
    have LT1 : z_LX x (k_removeIf C a0 a1 a2) M n w1 := LT.cls (by unfold k_removeIf; rw [if_pos hk]; exact hW1) (okk_removeIf _ _ _ LT.1.2) hh1
    refine j_i2l dL_removeIf_9 ?_
    obtain ⟨-, -, ⟨ov12, og12⟩, -⟩ := id LT1
    refine j_put (w' := _) dL_removeIf_10 fL_13 tX9_0 og12 ⟨rfl, rfl⟩ rfl ?_
    refine j_seal (n := x) LT1.x1 ?_
    intro w2 u2
    have LT2 := LT1.out u2
    refine j_goto (tgt := 24) dL_removeIf_13 (by decide) ?_
    refine j_iconst (v := 0) dL_removeIf_24 (by decide) ?_
    refine j_iret dL_removeIf_25 rfl rfl ?_ (Nat.le_of_ble_eq_true rfl) (Nat.le_of_ble_eq_true rfl)
    exact ⟨_, by rw [hk], LT2, fun _ => rfl⟩
set_option maxRecDepth 100000 in
set_option maxHeartbeats 4000000 in
theorem lw_replaceAll (hl : l.stackTraces = false) (w : z_W) (x : Nat) (C M : sp_S) (n : Int64) (LT : z_LX x C M n w) (a0 : Int32) (a1 : Int32) (a2 : Int32) : z_Con G l mL_replaceAll 27 14 120 w [.ref 0, .int a0, .int a1, .int a2, .ref x] (fun v w9 => ∃ n9 : Int64, v = some (.int (t_replaceAll C a0 a1 a2)) ∧ z_LX x (k_replaceAll C a0 a1 a2) M n9 w9 ∧ (t_replaceAll C a0 a1 a2 = 0 → n9 = (a_replaceAll C a0 a1 a2).toInt64)) (fun _ _ => False) := by
  refine z_bodyW hl (by decide) (by decide) (Nat.le_of_ble_eq_true rfl) ?_
  show z_J G l mL_replaceAll _ 0 [(0, _), (1, _), (2, _), (3, _), (4, _)] [] _ 0 0
  refine j_aload dL_replaceAll_0 rfl rfl ?_
  refine j_aload_n dL_replaceAll_2 rfl rfl ?_
  refine j_iload_n dL_replaceAll_3 rfl ?_
  refine j_iload_n dL_replaceAll_4 rfl ?_
  refine j_iload_n dL_replaceAll_5 rfl ?_
  obtain ⟨fs13, gs13⟩ := LT.rc
  refine j_tryV (q := (RX8, TX8, 9)) dL_replaceAll_6 kX8_replaceAll lL_42 inX8_replaceAll seX8_replaceAll gs13 rfl (px_replaceAll hl w C LT.1.1 LT.1.2 a0 a1 a2) (Nat.le_of_ble_eq_true rfl) ⟨(Nat.le_of_ble_eq_true rfl), (Nat.le_of_ble_eq_true rfl)⟩ rfl (Nat.le_of_ble_eq_true rfl) rfl ?_ ?_
  · rintro E _ ⟨hE, rfl⟩
    rcases hE with hE | hE
    · obtain ⟨hE, hk⟩ := hE
      have hk : t_replaceAll C a0 a1 a2 = 1 := hk
      have hE : E = "java/lang/IndexOutOfBoundsException" := hE
      subst hE
      refine ⟨16, 18, ⟨[], (⟨0, 13, 16, 19⟩ : ExceptionTableEntry), _, "java/lang/IndexOutOfBoundsException", rfl, (fun z hz => by cases hz), by decide, by decide, (z_w 847 ((lwt_4_2 22).trans rfl) (by decide +kernel)), (z_wn 860 ((lwt_4_3 5).trans rfl) (by decide +kernel)), rfl⟩, Or.inl ⟨5, dL_replaceAll_16, by decide, rfl⟩, ?_⟩
      refine j_iconst (v := 1) dL_replaceAll_18 (by decide) ?_
      refine j_iret dL_replaceAll_19 rfl rfl ?_ (Nat.le_of_ble_eq_true rfl) (Nat.le_of_ble_eq_true rfl)
      exact ⟨_, by rw [hk], by unfold k_replaceAll; rw [if_neg (by rw [hk]; decide)]; exact LT, fun z => absurd (hk.symm.trans z) (by decide)⟩
    · obtain ⟨hE, hk⟩ := hE
      have hk : t_replaceAll C a0 a1 a2 = 2 := hk
      have hE : E = "java/lang/IllegalArgumentException" := hE
      subst hE
      refine ⟨20, 22, ⟨[(⟨0, 13, 16, 19⟩ : ExceptionTableEntry)], (⟨0, 13, 20, 21⟩ : ExceptionTableEntry), _, "java/lang/IllegalArgumentException", rfl, (fun z hz => by
          simp only [List.mem_cons, List.not_mem_nil, or_false] at hz
          rcases hz with rfl
          · exact Or.inr ⟨by decide, "java/lang/IndexOutOfBoundsException", (z_w 847 ((lwt_4_2 22).trans rfl) (by decide +kernel)), by decide⟩), by decide, by decide, (z_w 848 ((lwt_4_2 23).trans rfl) (by decide +kernel)), (z_wn 460 ((lwt_2_5 25).trans rfl) (by decide +kernel)), rfl⟩, Or.inl ⟨5, dL_replaceAll_20, by decide, rfl⟩, ?_⟩
      refine j_iconst (v := 2) dL_replaceAll_22 (by decide) ?_
      refine j_iret dL_replaceAll_23 rfl rfl ?_ (Nat.le_of_ble_eq_true rfl) (Nat.le_of_ble_eq_true rfl)
      exact ⟨_, by rw [hk], by unfold k_replaceAll; rw [if_neg (by rw [hk]; decide)]; exact LT, fun z => absurd (hk.symm.trans z) (by decide)⟩
  · rintro _ w1 ⟨hk, rfl, hW1, hh1⟩
    have hk : t_replaceAll C a0 a1 a2 = 0 := hk
    have LT1 : z_LX x (k_replaceAll C a0 a1 a2) M n w1 := LT.cls (by unfold k_replaceAll; rw [if_pos hk]; exact hW1) (okk_replaceAll _ _ _ LT.1.2) hh1
    refine j_i2l dL_replaceAll_9 ?_
    obtain ⟨-, -, ⟨ov14, og14⟩, -⟩ := id LT1
    refine j_put (w' := _) dL_replaceAll_10 fL_13 tX9_0 og14 ⟨rfl, rfl⟩ rfl ?_
    refine j_seal (n := x) LT1.x1 ?_
    intro w2 u2
    have LT2 := LT1.out u2
    refine j_goto (tgt := 24) dL_replaceAll_13 (by decide) ?_
    refine j_iconst (v := 0) dL_replaceAll_24 (by decide) ?_
    refine j_iret dL_replaceAll_25 rfl rfl ?_ (Nat.le_of_ble_eq_true rfl) (Nat.le_of_ble_eq_true rfl)
    exact ⟨_, by rw [hk], LT2, fun _ => rfl⟩
set_option maxRecDepth 100000 in
set_option maxHeartbeats 4000000 in
theorem lw_copy (hl : l.stackTraces = false) (w : z_W) (x : Nat) (C M : sp_S) (n : Int64) (LT : z_LX x C M n w) (a0 : Int32) : z_Con G l mL_copy 27 14 120 w [.ref 0, .int a0, .ref x] (fun v w9 => ∃ n9 : Int64, v = some (.int (t_copy C a0)) ∧ z_LX x (k_copy C a0) M n9 w9 ∧ (t_copy C a0 = 0 → n9 = (a_copy C a0).toInt64)) (fun _ _ => False) := by
  refine z_bodyW hl (by decide) (by decide) (Nat.le_of_ble_eq_true rfl) ?_
  show z_J G l mL_copy _ 0 [(0, _), (1, _), (2, _)] [] _ 0 0
  refine j_aload_n dL_copy_0 rfl rfl ?_
  refine j_aload_n dL_copy_1 rfl rfl ?_
  refine j_iload_n dL_copy_2 rfl ?_
  obtain ⟨fs15, gs15⟩ := LT.rc
  refine j_tryV (q := (RX8, TX8, 9)) dL_copy_3 kX8_copy lL_45 inX8_copy seX8_copy gs15 rfl (px_copy hl w C LT.1.1 LT.1.2 a0) (Nat.le_of_ble_eq_true rfl) ⟨(Nat.le_of_ble_eq_true rfl), (Nat.le_of_ble_eq_true rfl)⟩ rfl (Nat.le_of_ble_eq_true rfl) rfl ?_ ?_
  · rintro E _ ⟨hE, rfl⟩
    obtain ⟨hE, hk⟩ := hE
    have hk : t_copy C a0 = 1 := hk
    have hE : E = "java/lang/IndexOutOfBoundsException" := hE
    subst hE
    refine ⟨13, 14, ⟨[], (⟨0, 10, 13, 19⟩ : ExceptionTableEntry), _, "java/lang/IndexOutOfBoundsException", rfl, (fun z hz => by cases hz), by decide, by decide, (z_w 847 ((lwt_4_2 22).trans rfl) (by decide +kernel)), (z_wn 860 ((lwt_4_3 5).trans rfl) (by decide +kernel)), rfl⟩, Or.inr ⟨3, dL_copy_13, by decide, rfl⟩, ?_⟩
    refine j_iconst (v := 1) dL_copy_14 (by decide) ?_
    refine j_iret dL_copy_15 rfl rfl ?_ (Nat.le_of_ble_eq_true rfl) (Nat.le_of_ble_eq_true rfl)
    exact ⟨_, by rw [hk], by unfold k_copy; rw [if_neg (by rw [hk]; decide)]; exact LT, fun z => absurd (hk.symm.trans z) (by decide)⟩
  · rintro _ w1 ⟨hk, rfl, hW1, hh1⟩
    have hk : t_copy C a0 = 0 := hk
    have LT1 : z_LX x (k_copy C a0) M n w1 := LT.cls (by unfold k_copy; rw [if_pos hk]; exact hW1) (okk_copy _ LT.1.2) hh1
    refine j_i2l dL_copy_6 ?_
    obtain ⟨-, -, ⟨ov16, og16⟩, -⟩ := id LT1
    refine j_put (w' := _) dL_copy_7 fL_13 tX9_0 og16 ⟨rfl, rfl⟩ rfl ?_
    refine j_seal (n := x) LT1.x1 ?_
    intro w2 u2
    have LT2 := LT1.out u2
    refine j_goto (tgt := 16) dL_copy_10 (by decide) ?_
    refine j_iconst (v := 0) dL_copy_16 (by decide) ?_
    refine j_iret dL_copy_17 rfl rfl ?_ (Nat.le_of_ble_eq_true rfl) (Nat.le_of_ble_eq_true rfl)
    exact ⟨_, by rw [hk], LT2, fun _ => rfl⟩
set_option maxRecDepth 100000 in
set_option maxHeartbeats 4000000 in
theorem lw_put (hl : l.stackTraces = false) (w : z_W) (x : Nat) (C M : sp_S) (n : Int64) (LT : z_LX x C M n w) (a0 : Int32) (a1 : Int32) (a2 : Int32) : z_Con G l mL_put 27 14 120 w [.ref 0, .int a0, .int a1, .int a2, .ref x] (fun v w9 => ∃ n9 : Int64, v = some (.int (t_put C a0 a1 a2)) ∧ z_LX x (k_put C a0 a1 a2) M n9 w9 ∧ (t_put C a0 a1 a2 = 0 → n9 = (a_put C a0 a1 a2).toInt64)) (fun _ _ => False) := by
  refine z_bodyW hl (by decide) (by decide) (Nat.le_of_ble_eq_true rfl) ?_
  show z_J G l mL_put _ 0 [(0, _), (1, _), (2, _), (3, _), (4, _)] [] _ 0 0
  refine j_aload dL_put_0 rfl rfl ?_
  refine j_aload_n dL_put_2 rfl rfl ?_
  refine j_iload_n dL_put_3 rfl ?_
  refine j_iload_n dL_put_4 rfl ?_
  refine j_iload_n dL_put_5 rfl ?_
  obtain ⟨fs17, gs17⟩ := LT.rc
  refine j_tryV (q := (RX8, TX8, 9)) dL_put_6 kX8_put lL_49 inX8_put seX8_put gs17 rfl (px_put hl w C LT.1.1 LT.1.2 a0 a1 a2) (Nat.le_of_ble_eq_true rfl) ⟨(Nat.le_of_ble_eq_true rfl), (Nat.le_of_ble_eq_true rfl)⟩ rfl (Nat.le_of_ble_eq_true rfl) rfl ?_ ?_
  · rintro E _ ⟨hE, rfl⟩
    rcases hE with hE | hE
    · obtain ⟨hE, hk⟩ := hE
      have hk : t_put C a0 a1 a2 = 1 := hk
      have hE : E = "java/lang/IndexOutOfBoundsException" := hE
      subst hE
      refine ⟨16, 18, ⟨[], (⟨0, 13, 16, 19⟩ : ExceptionTableEntry), _, "java/lang/IndexOutOfBoundsException", rfl, (fun z hz => by cases hz), by decide, by decide, (z_w 847 ((lwt_4_2 22).trans rfl) (by decide +kernel)), (z_wn 860 ((lwt_4_3 5).trans rfl) (by decide +kernel)), rfl⟩, Or.inl ⟨5, dL_put_16, by decide, rfl⟩, ?_⟩
      refine j_iconst (v := 1) dL_put_18 (by decide) ?_
      refine j_iret dL_put_19 rfl rfl ?_ (Nat.le_of_ble_eq_true rfl) (Nat.le_of_ble_eq_true rfl)
      exact ⟨_, by rw [hk], by unfold k_put; rw [if_neg (by rw [hk]; decide)]; exact LT, fun z => absurd (hk.symm.trans z) (by decide)⟩
    · obtain ⟨hE, hk⟩ := hE
      have hk : t_put C a0 a1 a2 = 2 := hk
      have hE : E = "java/lang/IllegalArgumentException" := hE
      subst hE
      refine ⟨20, 22, ⟨[(⟨0, 13, 16, 19⟩ : ExceptionTableEntry)], (⟨0, 13, 20, 21⟩ : ExceptionTableEntry), _, "java/lang/IllegalArgumentException", rfl, (fun z hz => by
          simp only [List.mem_cons, List.not_mem_nil, or_false] at hz
          rcases hz with rfl
          · exact Or.inr ⟨by decide, "java/lang/IndexOutOfBoundsException", (z_w 847 ((lwt_4_2 22).trans rfl) (by decide +kernel)), by decide⟩), by decide, by decide, (z_w 848 ((lwt_4_2 23).trans rfl) (by decide +kernel)), (z_wn 460 ((lwt_2_5 25).trans rfl) (by decide +kernel)), rfl⟩, Or.inl ⟨5, dL_put_20, by decide, rfl⟩, ?_⟩
      refine j_iconst (v := 2) dL_put_22 (by decide) ?_
      refine j_iret dL_put_23 rfl rfl ?_ (Nat.le_of_ble_eq_true rfl) (Nat.le_of_ble_eq_true rfl)
      exact ⟨_, by rw [hk], by unfold k_put; rw [if_neg (by rw [hk]; decide)]; exact LT, fun z => absurd (hk.symm.trans z) (by decide)⟩
  · rintro _ w1 ⟨hk, rfl, hW1, hh1⟩
    have hk : t_put C a0 a1 a2 = 0 := hk
    have LT1 : z_LX x (k_put C a0 a1 a2) M n w1 := LT.cls (by unfold k_put; rw [if_pos hk]; exact hW1) (okk_put _ _ _ LT.1.2) hh1
    refine j_i2l dL_put_9 ?_
    obtain ⟨-, -, ⟨ov18, og18⟩, -⟩ := id LT1
    refine j_put (w' := _) dL_put_10 fL_13 tX9_0 og18 ⟨rfl, rfl⟩ rfl ?_
    refine j_seal (n := x) LT1.x1 ?_
    intro w2 u2
    have LT2 := LT1.out u2
    refine j_goto (tgt := 24) dL_put_13 (by decide) ?_
    refine j_iconst (v := 0) dL_put_24 (by decide) ?_
    refine j_iret dL_put_25 rfl rfl ?_ (Nat.le_of_ble_eq_true rfl) (Nat.le_of_ble_eq_true rfl)
    exact ⟨_, by rw [hk], LT2, fun _ => rfl⟩
set_option maxRecDepth 100000 in
set_option maxHeartbeats 4000000 in
theorem lw_remove (hl : l.stackTraces = false) (w : z_W) (x : Nat) (C M : sp_S) (n : Int64) (LT : z_LX x C M n w) (a0 : Int32) (a1 : Int32) : z_Con G l mL_remove 27 14 120 w [.ref 0, .int a0, .int a1, .ref x] (fun v w9 => ∃ n9 : Int64, v = some (.int (t_remove C a0 a1)) ∧ z_LX x (k_remove C a0 a1) M n9 w9 ∧ (t_remove C a0 a1 = 0 → n9 = (a_remove C a0 a1).toInt64)) (fun _ _ => False) := by
  refine z_bodyW hl (by decide) (by decide) (Nat.le_of_ble_eq_true rfl) ?_
  show z_J G l mL_remove _ 0 [(0, _), (1, _), (2, _), (3, _)] [] _ 0 0
  refine j_aload_n dL_remove_0 rfl rfl ?_
  refine j_aload_n dL_remove_1 rfl rfl ?_
  refine j_iload_n dL_remove_2 rfl ?_
  refine j_iload_n dL_remove_3 rfl ?_
  obtain ⟨fs19, gs19⟩ := LT.rc
  refine j_tryV (q := (RX8, TX8, 9)) dL_remove_4 kX8_remove lL_52 inX8_remove seX8_remove gs19 rfl (px_remove hl w C LT.1.1 LT.1.2 a0 a1) (Nat.le_of_ble_eq_true rfl) ⟨(Nat.le_of_ble_eq_true rfl), (Nat.le_of_ble_eq_true rfl)⟩ rfl (Nat.le_of_ble_eq_true rfl) rfl ?_ ?_
  · rintro E _ ⟨hE, rfl⟩
    rcases hE with hE | hE
    · obtain ⟨hE, hk⟩ := hE
      have hk : t_remove C a0 a1 = 1 := hk
      have hE : E = "java/lang/IndexOutOfBoundsException" := hE
      subst hE
      refine ⟨14, 16, ⟨[], (⟨0, 11, 14, 19⟩ : ExceptionTableEntry), _, "java/lang/IndexOutOfBoundsException", rfl, (fun z hz => by cases hz), by decide, by decide, (z_w 847 ((lwt_4_2 22).trans rfl) (by decide +kernel)), (z_wn 860 ((lwt_4_3 5).trans rfl) (by decide +kernel)), rfl⟩, Or.inl ⟨4, dL_remove_14, by decide, rfl⟩, ?_⟩
      refine j_iconst (v := 1) dL_remove_16 (by decide) ?_
      refine j_iret dL_remove_17 rfl rfl ?_ (Nat.le_of_ble_eq_true rfl) (Nat.le_of_ble_eq_true rfl)
      exact ⟨_, by rw [hk], by unfold k_remove; rw [if_neg (by rw [hk]; decide)]; exact LT, fun z => absurd (hk.symm.trans z) (by decide)⟩
    · obtain ⟨hE, hk⟩ := hE
      have hk : t_remove C a0 a1 = 2 := hk
      have hE : E = "java/lang/IllegalArgumentException" := hE
      subst hE
      refine ⟨18, 20, ⟨[(⟨0, 11, 14, 19⟩ : ExceptionTableEntry)], (⟨0, 11, 18, 21⟩ : ExceptionTableEntry), _, "java/lang/IllegalArgumentException", rfl, (fun z hz => by
          simp only [List.mem_cons, List.not_mem_nil, or_false] at hz
          rcases hz with rfl
          · exact Or.inr ⟨by decide, "java/lang/IndexOutOfBoundsException", (z_w 847 ((lwt_4_2 22).trans rfl) (by decide +kernel)), by decide⟩), by decide, by decide, (z_w 848 ((lwt_4_2 23).trans rfl) (by decide +kernel)), (z_wn 460 ((lwt_2_5 25).trans rfl) (by decide +kernel)), rfl⟩, Or.inl ⟨4, dL_remove_18, by decide, rfl⟩, ?_⟩
      refine j_iconst (v := 2) dL_remove_20 (by decide) ?_
      refine j_iret dL_remove_21 rfl rfl ?_ (Nat.le_of_ble_eq_true rfl) (Nat.le_of_ble_eq_true rfl)
      exact ⟨_, by rw [hk], by unfold k_remove; rw [if_neg (by rw [hk]; decide)]; exact LT, fun z => absurd (hk.symm.trans z) (by decide)⟩
  · rintro _ w1 ⟨hk, rfl, hW1, hh1⟩
    have hk : t_remove C a0 a1 = 0 := hk
    have LT1 : z_LX x (k_remove C a0 a1) M n w1 := LT.cls (by unfold k_remove; rw [if_pos hk]; exact hW1) (okk_remove _ _ LT.1.2) hh1
    refine j_i2l dL_remove_7 ?_
    obtain ⟨-, -, ⟨ov20, og20⟩, -⟩ := id LT1
    refine j_put (w' := _) dL_remove_8 fL_13 tX9_0 og20 ⟨rfl, rfl⟩ rfl ?_
    refine j_seal (n := x) LT1.x1 ?_
    intro w2 u2
    have LT2 := LT1.out u2
    refine j_goto (tgt := 22) dL_remove_11 (by decide) ?_
    refine j_iconst (v := 0) dL_remove_22 (by decide) ?_
    refine j_iret dL_remove_23 rfl rfl ?_ (Nat.le_of_ble_eq_true rfl) (Nat.le_of_ble_eq_true rfl)
    exact ⟨_, by rw [hk], LT2, fun _ => rfl⟩
set_option maxRecDepth 100000 in
set_option maxHeartbeats 4000000 in
theorem lw_putIfAbsent (hl : l.stackTraces = false) (w : z_W) (x : Nat) (C M : sp_S) (n : Int64) (LT : z_LX x C M n w) (a0 : Int32) (a1 : Int32) (a2 : Int32) : z_Con G l mL_putIfAbsent 27 14 120 w [.ref 0, .int a0, .int a1, .int a2, .ref x] (fun v w9 => ∃ n9 : Int64, v = some (.int (t_putIfAbsent C a0 a1 a2)) ∧ z_LX x (k_putIfAbsent C a0 a1 a2) M n9 w9 ∧ (t_putIfAbsent C a0 a1 a2 = 0 → n9 = (a_putIfAbsent C a0 a1 a2).toInt64)) (fun _ _ => False) := by
  refine z_bodyW hl (by decide) (by decide) (Nat.le_of_ble_eq_true rfl) ?_
  show z_J G l mL_putIfAbsent _ 0 [(0, _), (1, _), (2, _), (3, _), (4, _)] [] _ 0 0
  refine j_aload dL_putIfAbsent_0 rfl rfl ?_
  refine j_aload_n dL_putIfAbsent_2 rfl rfl ?_
  refine j_iload_n dL_putIfAbsent_3 rfl ?_
  refine j_iload_n dL_putIfAbsent_4 rfl ?_
  refine j_iload_n dL_putIfAbsent_5 rfl ?_
  obtain ⟨fs21, gs21⟩ := LT.rc
  refine j_tryV (q := (RX8, TX8, 9)) dL_putIfAbsent_6 kX8_putIfAbsent lL_55 inX8_putIfAbsent seX8_putIfAbsent gs21 rfl (px_putIfAbsent hl w C LT.1.1 LT.1.2 a0 a1 a2) (Nat.le_of_ble_eq_true rfl) ⟨(Nat.le_of_ble_eq_true rfl), (Nat.le_of_ble_eq_true rfl)⟩ rfl (Nat.le_of_ble_eq_true rfl) rfl ?_ ?_
  · rintro E _ ⟨hE, rfl⟩
    rcases hE with hE | hE
    · obtain ⟨hE, hk⟩ := hE
      have hk : t_putIfAbsent C a0 a1 a2 = 1 := hk
      have hE : E = "java/lang/IndexOutOfBoundsException" := hE
      subst hE
      refine ⟨16, 18, ⟨[], (⟨0, 13, 16, 19⟩ : ExceptionTableEntry), _, "java/lang/IndexOutOfBoundsException", rfl, (fun z hz => by cases hz), by decide, by decide, (z_w 847 ((lwt_4_2 22).trans rfl) (by decide +kernel)), (z_wn 860 ((lwt_4_3 5).trans rfl) (by decide +kernel)), rfl⟩, Or.inl ⟨5, dL_putIfAbsent_16, by decide, rfl⟩, ?_⟩
      refine j_iconst (v := 1) dL_putIfAbsent_18 (by decide) ?_
      refine j_iret dL_putIfAbsent_19 rfl rfl ?_ (Nat.le_of_ble_eq_true rfl) (Nat.le_of_ble_eq_true rfl)
      exact ⟨_, by rw [hk], by unfold k_putIfAbsent; rw [if_neg (by rw [hk]; decide)]; exact LT, fun z => absurd (hk.symm.trans z) (by decide)⟩
    · obtain ⟨hE, hk⟩ := hE
      have hk : t_putIfAbsent C a0 a1 a2 = 2 := hk
      have hE : E = "java/lang/IllegalArgumentException" := hE
      subst hE
      refine ⟨20, 22, ⟨[(⟨0, 13, 16, 19⟩ : ExceptionTableEntry)], (⟨0, 13, 20, 21⟩ : ExceptionTableEntry), _, "java/lang/IllegalArgumentException", rfl, (fun z hz => by
          simp only [List.mem_cons, List.not_mem_nil, or_false] at hz
          rcases hz with rfl
          · exact Or.inr ⟨by decide, "java/lang/IndexOutOfBoundsException", (z_w 847 ((lwt_4_2 22).trans rfl) (by decide +kernel)), by decide⟩), by decide, by decide, (z_w 848 ((lwt_4_2 23).trans rfl) (by decide +kernel)), (z_wn 460 ((lwt_2_5 25).trans rfl) (by decide +kernel)), rfl⟩, Or.inl ⟨5, dL_putIfAbsent_20, by decide, rfl⟩, ?_⟩
      refine j_iconst (v := 2) dL_putIfAbsent_22 (by decide) ?_
      refine j_iret dL_putIfAbsent_23 rfl rfl ?_ (Nat.le_of_ble_eq_true rfl) (Nat.le_of_ble_eq_true rfl)
      exact ⟨_, by rw [hk], by unfold k_putIfAbsent; rw [if_neg (by rw [hk]; decide)]; exact LT, fun z => absurd (hk.symm.trans z) (by decide)⟩
  · rintro _ w1 ⟨hk, rfl, hW1, hh1⟩
    have hk : t_putIfAbsent C a0 a1 a2 = 0 := hk
    have LT1 : z_LX x (k_putIfAbsent C a0 a1 a2) M n w1 := LT.cls (by unfold k_putIfAbsent; rw [if_pos hk]; exact hW1) (okk_putIfAbsent _ _ _ LT.1.2) hh1
    refine j_i2l dL_putIfAbsent_9 ?_
    obtain ⟨-, -, ⟨ov22, og22⟩, -⟩ := id LT1
    refine j_put (w' := _) dL_putIfAbsent_10 fL_13 tX9_0 og22 ⟨rfl, rfl⟩ rfl ?_
    refine j_seal (n := x) LT1.x1 ?_
    intro w2 u2
    have LT2 := LT1.out u2
    refine j_goto (tgt := 24) dL_putIfAbsent_13 (by decide) ?_
    refine j_iconst (v := 0) dL_putIfAbsent_24 (by decide) ?_
    refine j_iret dL_putIfAbsent_25 rfl rfl ?_ (Nat.le_of_ble_eq_true rfl) (Nat.le_of_ble_eq_true rfl)
    exact ⟨_, by rw [hk], LT2, fun _ => rfl⟩
set_option maxRecDepth 100000 in
set_option maxHeartbeats 4000000 in
theorem lw_replace (hl : l.stackTraces = false) (w : z_W) (x : Nat) (C M : sp_S) (n : Int64) (LT : z_LX x C M n w) (a0 : Int32) (a1 : Int32) (a2 : Int32) : z_Con G l mL_replace 27 14 120 w [.ref 0, .int a0, .int a1, .int a2, .ref x] (fun v w9 => ∃ n9 : Int64, v = some (.int (t_replace C a0 a1 a2)) ∧ z_LX x (k_replace C a0 a1 a2) M n9 w9 ∧ (t_replace C a0 a1 a2 = 0 → n9 = (a_replace C a0 a1 a2).toInt64)) (fun _ _ => False) := by
  refine z_bodyW hl (by decide) (by decide) (Nat.le_of_ble_eq_true rfl) ?_
  show z_J G l mL_replace _ 0 [(0, _), (1, _), (2, _), (3, _), (4, _)] [] _ 0 0
  refine j_aload dL_replace_0 rfl rfl ?_
  refine j_aload_n dL_replace_2 rfl rfl ?_
  refine j_iload_n dL_replace_3 rfl ?_
  refine j_iload_n dL_replace_4 rfl ?_
  refine j_iload_n dL_replace_5 rfl ?_
  obtain ⟨fs23, gs23⟩ := LT.rc
  refine j_tryV (q := (RX8, TX8, 9)) dL_replace_6 kX8_replace lL_58 inX8_replace seX8_replace gs23 rfl (px_replace hl w C LT.1.1 LT.1.2 a0 a1 a2) (Nat.le_of_ble_eq_true rfl) ⟨(Nat.le_of_ble_eq_true rfl), (Nat.le_of_ble_eq_true rfl)⟩ rfl (Nat.le_of_ble_eq_true rfl) rfl ?_ ?_
  · rintro E _ ⟨hE, rfl⟩
    rcases hE with hE | hE
    · obtain ⟨hE, hk⟩ := hE
      have hk : t_replace C a0 a1 a2 = 1 := hk
      have hE : E = "java/lang/IndexOutOfBoundsException" := hE
      subst hE
      refine ⟨16, 18, ⟨[], (⟨0, 13, 16, 19⟩ : ExceptionTableEntry), _, "java/lang/IndexOutOfBoundsException", rfl, (fun z hz => by cases hz), by decide, by decide, (z_w 847 ((lwt_4_2 22).trans rfl) (by decide +kernel)), (z_wn 860 ((lwt_4_3 5).trans rfl) (by decide +kernel)), rfl⟩, Or.inl ⟨5, dL_replace_16, by decide, rfl⟩, ?_⟩
      refine j_iconst (v := 1) dL_replace_18 (by decide) ?_
      refine j_iret dL_replace_19 rfl rfl ?_ (Nat.le_of_ble_eq_true rfl) (Nat.le_of_ble_eq_true rfl)
      exact ⟨_, by rw [hk], by unfold k_replace; rw [if_neg (by rw [hk]; decide)]; exact LT, fun z => absurd (hk.symm.trans z) (by decide)⟩
    · obtain ⟨hE, hk⟩ := hE
      have hk : t_replace C a0 a1 a2 = 2 := hk
      have hE : E = "java/lang/IllegalArgumentException" := hE
      subst hE
      refine ⟨20, 22, ⟨[(⟨0, 13, 16, 19⟩ : ExceptionTableEntry)], (⟨0, 13, 20, 21⟩ : ExceptionTableEntry), _, "java/lang/IllegalArgumentException", rfl, (fun z hz => by
          simp only [List.mem_cons, List.not_mem_nil, or_false] at hz
          rcases hz with rfl
          · exact Or.inr ⟨by decide, "java/lang/IndexOutOfBoundsException", (z_w 847 ((lwt_4_2 22).trans rfl) (by decide +kernel)), by decide⟩), by decide, by decide, (z_w 848 ((lwt_4_2 23).trans rfl) (by decide +kernel)), (z_wn 460 ((lwt_2_5 25).trans rfl) (by decide +kernel)), rfl⟩, Or.inl ⟨5, dL_replace_20, by decide, rfl⟩, ?_⟩
      refine j_iconst (v := 2) dL_replace_22 (by decide) ?_
      refine j_iret dL_replace_23 rfl rfl ?_ (Nat.le_of_ble_eq_true rfl) (Nat.le_of_ble_eq_true rfl)
      exact ⟨_, by rw [hk], by unfold k_replace; rw [if_neg (by rw [hk]; decide)]; exact LT, fun z => absurd (hk.symm.trans z) (by decide)⟩
  · rintro _ w1 ⟨hk, rfl, hW1, hh1⟩
    have hk : t_replace C a0 a1 a2 = 0 := hk
    have LT1 : z_LX x (k_replace C a0 a1 a2) M n w1 := LT.cls (by unfold k_replace; rw [if_pos hk]; exact hW1) (okk_replace _ _ _ LT.1.2) hh1
    refine j_i2l dL_replace_9 ?_
    obtain ⟨-, -, ⟨ov24, og24⟩, -⟩ := id LT1
    refine j_put (w' := _) dL_replace_10 fL_13 tX9_0 og24 ⟨rfl, rfl⟩ rfl ?_
    refine j_seal (n := x) LT1.x1 ?_
    intro w2 u2
    have LT2 := LT1.out u2
    refine j_goto (tgt := 24) dL_replace_13 (by decide) ?_
    refine j_iconst (v := 0) dL_replace_24 (by decide) ?_
    refine j_iret dL_replace_25 rfl rfl ?_ (Nat.le_of_ble_eq_true rfl) (Nat.le_of_ble_eq_true rfl)
    exact ⟨_, by rw [hk], LT2, fun _ => rfl⟩
set_option maxRecDepth 100000 in
set_option maxHeartbeats 4000000 in
theorem lw_replaceIf (hl : l.stackTraces = false) (w : z_W) (x : Nat) (C M : sp_S) (n : Int64) (LT : z_LX x C M n w) (a0 : Int32) (a1 : Int32) (a2 : Int32) (a3 : Int32) : z_Con G l mL_replaceIf 27 14 120 w [.ref 0, .int a0, .int a1, .int a2, .int a3, .ref x] (fun v w9 => ∃ n9 : Int64, v = some (.int (t_replaceIf C a0 a1 a2 a3)) ∧ z_LX x (k_replaceIf C a0 a1 a2 a3) M n9 w9 ∧ (t_replaceIf C a0 a1 a2 a3 = 0 → n9 = (a_replaceIf C a0 a1 a2 a3).toInt64)) (fun _ _ => False) := by
  refine z_bodyW hl (by decide) (by decide) (Nat.le_of_ble_eq_true rfl) ?_
  show z_J G l mL_replaceIf _ 0 [(0, _), (1, _), (2, _), (3, _), (4, _), (5, _)] [] _ 0 0
  refine j_aload dL_replaceIf_0 rfl rfl ?_
  refine j_aload_n dL_replaceIf_2 rfl rfl ?_
  refine j_iload_n dL_replaceIf_3 rfl ?_
  refine j_iload_n dL_replaceIf_4 rfl ?_
  refine j_iload_n dL_replaceIf_5 rfl ?_
  refine j_iload dL_replaceIf_6 rfl ?_
  obtain ⟨fs25, gs25⟩ := LT.rc
  refine j_tryV (q := (RX8, TX8, 9)) dL_replaceIf_8 kX8_replaceIf lL_61 inX8_replaceIf seX8_replaceIf gs25 rfl (px_replaceIf hl w C LT.1.1 LT.1.2 a0 a1 a2 a3) (Nat.le_of_ble_eq_true rfl) ⟨(Nat.le_of_ble_eq_true rfl), (Nat.le_of_ble_eq_true rfl)⟩ rfl (Nat.le_of_ble_eq_true rfl) rfl ?_ ?_
  · rintro E _ ⟨hE, rfl⟩
    rcases hE with hE | hE
    · obtain ⟨hE, hk⟩ := hE
      have hk : t_replaceIf C a0 a1 a2 a3 = 1 := hk
      have hE : E = "java/lang/IndexOutOfBoundsException" := hE
      subst hE
      refine ⟨25, 27, ⟨[], (⟨0, 22, 25, 19⟩ : ExceptionTableEntry), _, "java/lang/IndexOutOfBoundsException", rfl, (fun z hz => by cases hz), by decide, by decide, (z_w 847 ((lwt_4_2 22).trans rfl) (by decide +kernel)), (z_wn 860 ((lwt_4_3 5).trans rfl) (by decide +kernel)), rfl⟩, Or.inl ⟨6, dL_replaceIf_25, by decide, rfl⟩, ?_⟩
      refine j_iconst (v := 1) dL_replaceIf_27 (by decide) ?_
      refine j_iret dL_replaceIf_28 rfl rfl ?_ (Nat.le_of_ble_eq_true rfl) (Nat.le_of_ble_eq_true rfl)
      exact ⟨_, by rw [hk], by unfold k_replaceIf; rw [if_neg (by rw [hk]; decide)]; exact LT, fun z => absurd (hk.symm.trans z) (by decide)⟩
    · obtain ⟨hE, hk⟩ := hE
      have hk : t_replaceIf C a0 a1 a2 a3 = 2 := hk
      have hE : E = "java/lang/IllegalArgumentException" := hE
      subst hE
      refine ⟨29, 31, ⟨[(⟨0, 22, 25, 19⟩ : ExceptionTableEntry)], (⟨0, 22, 29, 21⟩ : ExceptionTableEntry), _, "java/lang/IllegalArgumentException", rfl, (fun z hz => by
          simp only [List.mem_cons, List.not_mem_nil, or_false] at hz
          rcases hz with rfl
          · exact Or.inr ⟨by decide, "java/lang/IndexOutOfBoundsException", (z_w 847 ((lwt_4_2 22).trans rfl) (by decide +kernel)), by decide⟩), by decide, by decide, (z_w 848 ((lwt_4_2 23).trans rfl) (by decide +kernel)), (z_wn 460 ((lwt_2_5 25).trans rfl) (by decide +kernel)), rfl⟩, Or.inl ⟨6, dL_replaceIf_29, by decide, rfl⟩, ?_⟩
      refine j_iconst (v := 2) dL_replaceIf_31 (by decide) ?_
      refine j_iret dL_replaceIf_32 rfl rfl ?_ (Nat.le_of_ble_eq_true rfl) (Nat.le_of_ble_eq_true rfl)
      exact ⟨_, by rw [hk], by unfold k_replaceIf; rw [if_neg (by rw [hk]; decide)]; exact LT, fun z => absurd (hk.symm.trans z) (by decide)⟩
  · rintro _ w1 ⟨hk, rfl, hW1, hh1⟩
    have hk : t_replaceIf C a0 a1 a2 a3 = 0 := hk
    have LT1 : z_LX x (k_replaceIf C a0 a1 a2 a3) M n w1 := LT.cls (by unfold k_replaceIf; rw [if_pos hk]; exact hW1) (okk_replaceIf _ _ _ _ LT.1.2) hh1
    refine j_if_eq (tgt := 18) dL_replaceIf_11 (by decide) (fun c_11_31 => ?_) (fun c_11_31 => ?_)
    · refine j_lconst (v := 0) dL_replaceIf_18 (by decide) ?_
      obtain ⟨-, -, ⟨ov26, og26⟩, -⟩ := id LT1
      refine j_put (w' := _) dL_replaceIf_19 fL_13 tX9_0 og26 ⟨rfl, rfl⟩ rfl ?_
      refine j_seal (n := x) LT1.x1 ?_
      intro w2 u2
      have LT2 := LT1.out u2
      refine j_goto (tgt := 33) dL_replaceIf_22 (by decide) ?_
      refine j_iconst (v := 0) dL_replaceIf_33 (by decide) ?_
      refine j_iret dL_replaceIf_34 rfl rfl ?_ (Nat.le_of_ble_eq_true rfl) (Nat.le_of_ble_eq_true rfl)
      first | exact ⟨_, by rw [hk], LT2, fun _ => by rw [show a_replaceIf _ a0 a1 a2 a3 = 0 from c_11_31]; rfl⟩ | exact ⟨_, by rw [hk], LT2, fun _ => by rw [show a_replaceIf _ a0 a1 a2 a3 = 1 from sp_rif01.resolve_left c_11_31]; rfl⟩
    · refine j_lconst (v := 1) dL_replaceIf_14 (by decide) ?_
      refine j_goto (tgt := 19) dL_replaceIf_15 (by decide) ?_
      obtain ⟨-, -, ⟨ov27, og27⟩, -⟩ := id LT1
      refine j_put (w' := _) dL_replaceIf_19 fL_13 tX9_0 og27 ⟨rfl, rfl⟩ rfl ?_
      refine j_seal (n := x) LT1.x1 ?_
      intro w3 u3
      have LT3 := LT1.out u3
      refine j_goto (tgt := 33) dL_replaceIf_22 (by decide) ?_
      refine j_iconst (v := 0) dL_replaceIf_33 (by decide) ?_
      refine j_iret dL_replaceIf_34 rfl rfl ?_ (Nat.le_of_ble_eq_true rfl) (Nat.le_of_ble_eq_true rfl)
      first | exact ⟨_, by rw [hk], LT3, fun _ => by rw [show a_replaceIf _ a0 a1 a2 a3 = 0 from c_11_31]; rfl⟩ | exact ⟨_, by rw [hk], LT3, fun _ => by rw [show a_replaceIf _ a0 a1 a2 a3 = 1 from sp_rif01.resolve_left c_11_31]; rfl⟩
set_option maxRecDepth 100000 in
set_option maxHeartbeats 4000000 in
theorem lw_removePair (hl : l.stackTraces = false) (w : z_W) (x : Nat) (C M : sp_S) (n : Int64) (LT : z_LX x C M n w) (a0 : Int32) (a1 : Int32) (a2 : Int32) : z_Con G l mL_removePair 27 14 120 w [.ref 0, .int a0, .int a1, .int a2, .ref x] (fun v w9 => ∃ n9 : Int64, v = some (.int (t_removePair C a0 a1 a2)) ∧ z_LX x (k_removePair C a0 a1 a2) M n9 w9 ∧ (t_removePair C a0 a1 a2 = 0 → n9 = (a_removePair C a0 a1 a2).toInt64)) (fun _ _ => False) := by
  refine z_bodyW hl (by decide) (by decide) (Nat.le_of_ble_eq_true rfl) ?_
  show z_J G l mL_removePair _ 0 [(0, _), (1, _), (2, _), (3, _), (4, _)] [] _ 0 0
  refine j_aload dL_removePair_0 rfl rfl ?_
  refine j_aload_n dL_removePair_2 rfl rfl ?_
  refine j_iload_n dL_removePair_3 rfl ?_
  refine j_iload_n dL_removePair_4 rfl ?_
  refine j_iload_n dL_removePair_5 rfl ?_
  obtain ⟨fs28, gs28⟩ := LT.rc
  refine j_tryV (q := (RX8, TX8, 9)) dL_removePair_6 kX8_removePair lL_65 inX8_removePair seX8_removePair gs28 rfl (px_removePair hl w C LT.1.1 LT.1.2 a0 a1 a2) (Nat.le_of_ble_eq_true rfl) ⟨(Nat.le_of_ble_eq_true rfl), (Nat.le_of_ble_eq_true rfl)⟩ rfl (Nat.le_of_ble_eq_true rfl) rfl ?_ ?_
  · rintro E _ ⟨hE, rfl⟩
    rcases hE with hE | hE
    · obtain ⟨hE, hk⟩ := hE
      have hk : t_removePair C a0 a1 a2 = 1 := hk
      have hE : E = "java/lang/IndexOutOfBoundsException" := hE
      subst hE
      refine ⟨23, 25, ⟨[], (⟨0, 20, 23, 19⟩ : ExceptionTableEntry), _, "java/lang/IndexOutOfBoundsException", rfl, (fun z hz => by cases hz), by decide, by decide, (z_w 847 ((lwt_4_2 22).trans rfl) (by decide +kernel)), (z_wn 860 ((lwt_4_3 5).trans rfl) (by decide +kernel)), rfl⟩, Or.inl ⟨5, dL_removePair_23, by decide, rfl⟩, ?_⟩
      refine j_iconst (v := 1) dL_removePair_25 (by decide) ?_
      refine j_iret dL_removePair_26 rfl rfl ?_ (Nat.le_of_ble_eq_true rfl) (Nat.le_of_ble_eq_true rfl)
      exact ⟨_, by rw [hk], by unfold k_removePair; rw [if_neg (by rw [hk]; decide)]; exact LT, fun z => absurd (hk.symm.trans z) (by decide)⟩
    · obtain ⟨hE, hk⟩ := hE
      have hk : t_removePair C a0 a1 a2 = 2 := hk
      have hE : E = "java/lang/IllegalArgumentException" := hE
      subst hE
      refine ⟨27, 29, ⟨[(⟨0, 20, 23, 19⟩ : ExceptionTableEntry)], (⟨0, 20, 27, 21⟩ : ExceptionTableEntry), _, "java/lang/IllegalArgumentException", rfl, (fun z hz => by
          simp only [List.mem_cons, List.not_mem_nil, or_false] at hz
          rcases hz with rfl
          · exact Or.inr ⟨by decide, "java/lang/IndexOutOfBoundsException", (z_w 847 ((lwt_4_2 22).trans rfl) (by decide +kernel)), by decide⟩), by decide, by decide, (z_w 848 ((lwt_4_2 23).trans rfl) (by decide +kernel)), (z_wn 460 ((lwt_2_5 25).trans rfl) (by decide +kernel)), rfl⟩, Or.inl ⟨5, dL_removePair_27, by decide, rfl⟩, ?_⟩
      refine j_iconst (v := 2) dL_removePair_29 (by decide) ?_
      refine j_iret dL_removePair_30 rfl rfl ?_ (Nat.le_of_ble_eq_true rfl) (Nat.le_of_ble_eq_true rfl)
      exact ⟨_, by rw [hk], by unfold k_removePair; rw [if_neg (by rw [hk]; decide)]; exact LT, fun z => absurd (hk.symm.trans z) (by decide)⟩
  · rintro _ w1 ⟨hk, rfl, hW1, hh1⟩
    have hk : t_removePair C a0 a1 a2 = 0 := hk
    have LT1 : z_LX x (k_removePair C a0 a1 a2) M n w1 := LT.cls (by unfold k_removePair; rw [if_pos hk]; exact hW1) (okk_removePair _ _ _ LT.1.2) hh1
    refine j_if_eq (tgt := 16) dL_removePair_9 (by decide) (fun c_9_30 => ?_) (fun c_9_30 => ?_)
    · refine j_lconst (v := 0) dL_removePair_16 (by decide) ?_
      obtain ⟨-, -, ⟨ov29, og29⟩, -⟩ := id LT1
      refine j_put (w' := _) dL_removePair_17 fL_13 tX9_0 og29 ⟨rfl, rfl⟩ rfl ?_
      refine j_seal (n := x) LT1.x1 ?_
      intro w2 u2
      have LT2 := LT1.out u2
      refine j_goto (tgt := 31) dL_removePair_20 (by decide) ?_
      refine j_iconst (v := 0) dL_removePair_31 (by decide) ?_
      refine j_iret dL_removePair_32 rfl rfl ?_ (Nat.le_of_ble_eq_true rfl) (Nat.le_of_ble_eq_true rfl)
      first | exact ⟨_, by rw [hk], LT2, fun _ => by rw [show a_removePair _ a0 a1 a2 = 0 from c_9_30]; rfl⟩ | exact ⟨_, by rw [hk], LT2, fun _ => by rw [show a_removePair _ a0 a1 a2 = 1 from sp_rmp01.resolve_left c_9_30]; rfl⟩
    · refine j_lconst (v := 1) dL_removePair_12 (by decide) ?_
      refine j_goto (tgt := 17) dL_removePair_13 (by decide) ?_
      obtain ⟨-, -, ⟨ov30, og30⟩, -⟩ := id LT1
      refine j_put (w' := _) dL_removePair_17 fL_13 tX9_0 og30 ⟨rfl, rfl⟩ rfl ?_
      refine j_seal (n := x) LT1.x1 ?_
      intro w3 u3
      have LT3 := LT1.out u3
      refine j_goto (tgt := 31) dL_removePair_20 (by decide) ?_
      refine j_iconst (v := 0) dL_removePair_31 (by decide) ?_
      refine j_iret dL_removePair_32 rfl rfl ?_ (Nat.le_of_ble_eq_true rfl) (Nat.le_of_ble_eq_true rfl)
      first | exact ⟨_, by rw [hk], LT3, fun _ => by rw [show a_removePair _ a0 a1 a2 = 0 from c_9_30]; rfl⟩ | exact ⟨_, by rw [hk], LT3, fun _ => by rw [show a_removePair _ a0 a1 a2 = 1 from sp_rmp01.resolve_left c_9_30]; rfl⟩
set_option maxRecDepth 100000 in
set_option maxHeartbeats 4000000 in
theorem lw_computeIfAbsent (hl : l.stackTraces = false) (w : z_W) (x : Nat) (C M : sp_S) (n : Int64) (LT : z_LX x C M n w) (a0 : Int32) (a1 : Int32) (a2 : Int32) (a3 : Int32) : z_Con G l mL_computeIfAbsent 27 14 120 w [.ref 0, .int a0, .int a1, .int a2, .int a3, .ref x] (fun v w9 => ∃ n9 : Int64, v = some (.int (t_computeIfAbsent C a0 a1 a2 a3)) ∧ z_LX x (k_computeIfAbsent C a0 a1 a2 a3) M n9 w9 ∧ (t_computeIfAbsent C a0 a1 a2 a3 = 0 → n9 = (a_computeIfAbsent C a0 a1 a2 a3).toInt64)) (fun _ _ => False) := by
  refine z_bodyW hl (by decide) (by decide) (Nat.le_of_ble_eq_true rfl) ?_
  show z_J G l mL_computeIfAbsent _ 0 [(0, _), (1, _), (2, _), (3, _), (4, _), (5, _)] [] _ 0 0
  refine j_aload dL_computeIfAbsent_0 rfl rfl ?_
  refine j_aload_n dL_computeIfAbsent_2 rfl rfl ?_
  refine j_iload_n dL_computeIfAbsent_3 rfl ?_
  refine j_iload_n dL_computeIfAbsent_4 rfl ?_
  refine j_iload_n dL_computeIfAbsent_5 rfl ?_
  refine j_iload dL_computeIfAbsent_6 rfl ?_
  obtain ⟨fs31, gs31⟩ := LT.rc
  refine j_tryV (q := (RX8, TX8, 9)) dL_computeIfAbsent_8 kX8_computeIfAbsent lL_69 inX8_computeIfAbsent seX8_computeIfAbsent gs31 rfl (px_computeIfAbsent hl w C LT.1.1 LT.1.2 a0 a1 a2 a3) (Nat.le_of_ble_eq_true rfl) ⟨(Nat.le_of_ble_eq_true rfl), (Nat.le_of_ble_eq_true rfl)⟩ rfl (Nat.le_of_ble_eq_true rfl) rfl ?_ ?_
  · rintro E _ ⟨hE, rfl⟩
    rcases hE with hE | hE
    · obtain ⟨hE, hk⟩ := hE
      have hk : t_computeIfAbsent C a0 a1 a2 a3 = 1 := hk
      have hE : E = "java/lang/IndexOutOfBoundsException" := hE
      subst hE
      refine ⟨18, 20, ⟨[], (⟨0, 15, 18, 19⟩ : ExceptionTableEntry), _, "java/lang/IndexOutOfBoundsException", rfl, (fun z hz => by cases hz), by decide, by decide, (z_w 847 ((lwt_4_2 22).trans rfl) (by decide +kernel)), (z_wn 860 ((lwt_4_3 5).trans rfl) (by decide +kernel)), rfl⟩, Or.inl ⟨6, dL_computeIfAbsent_18, by decide, rfl⟩, ?_⟩
      refine j_iconst (v := 1) dL_computeIfAbsent_20 (by decide) ?_
      refine j_iret dL_computeIfAbsent_21 rfl rfl ?_ (Nat.le_of_ble_eq_true rfl) (Nat.le_of_ble_eq_true rfl)
      exact ⟨_, by rw [hk], by unfold k_computeIfAbsent; rw [if_neg (by rw [hk]; decide)]; exact LT, fun z => absurd (hk.symm.trans z) (by decide)⟩
    · obtain ⟨hE, hk⟩ := hE
      have hk : t_computeIfAbsent C a0 a1 a2 a3 = 2 := hk
      have hE : E = "java/lang/IllegalArgumentException" := hE
      subst hE
      refine ⟨22, 24, ⟨[(⟨0, 15, 18, 19⟩ : ExceptionTableEntry)], (⟨0, 15, 22, 21⟩ : ExceptionTableEntry), _, "java/lang/IllegalArgumentException", rfl, (fun z hz => by
          simp only [List.mem_cons, List.not_mem_nil, or_false] at hz
          rcases hz with rfl
          · exact Or.inr ⟨by decide, "java/lang/IndexOutOfBoundsException", (z_w 847 ((lwt_4_2 22).trans rfl) (by decide +kernel)), by decide⟩), by decide, by decide, (z_w 848 ((lwt_4_2 23).trans rfl) (by decide +kernel)), (z_wn 460 ((lwt_2_5 25).trans rfl) (by decide +kernel)), rfl⟩, Or.inl ⟨6, dL_computeIfAbsent_22, by decide, rfl⟩, ?_⟩
      refine j_iconst (v := 2) dL_computeIfAbsent_24 (by decide) ?_
      refine j_iret dL_computeIfAbsent_25 rfl rfl ?_ (Nat.le_of_ble_eq_true rfl) (Nat.le_of_ble_eq_true rfl)
      exact ⟨_, by rw [hk], by unfold k_computeIfAbsent; rw [if_neg (by rw [hk]; decide)]; exact LT, fun z => absurd (hk.symm.trans z) (by decide)⟩
  · rintro _ w1 ⟨hk, rfl, hW1, hh1⟩
    have hk : t_computeIfAbsent C a0 a1 a2 a3 = 0 := hk
    have LT1 : z_LX x (k_computeIfAbsent C a0 a1 a2 a3) M n w1 := LT.cls (by unfold k_computeIfAbsent; rw [if_pos hk]; exact hW1) (okk_computeIfAbsent _ _ _ _ LT.1.2) hh1
    refine j_i2l dL_computeIfAbsent_11 ?_
    obtain ⟨-, -, ⟨ov32, og32⟩, -⟩ := id LT1
    refine j_put (w' := _) dL_computeIfAbsent_12 fL_13 tX9_0 og32 ⟨rfl, rfl⟩ rfl ?_
    refine j_seal (n := x) LT1.x1 ?_
    intro w2 u2
    have LT2 := LT1.out u2
    refine j_goto (tgt := 26) dL_computeIfAbsent_15 (by decide) ?_
    refine j_iconst (v := 0) dL_computeIfAbsent_26 (by decide) ?_
    refine j_iret dL_computeIfAbsent_27 rfl rfl ?_ (Nat.le_of_ble_eq_true rfl) (Nat.le_of_ble_eq_true rfl)
    exact ⟨_, by rw [hk], LT2, fun _ => rfl⟩
set_option maxRecDepth 100000 in
set_option maxHeartbeats 4000000 in
theorem lw_computeIfPresent (hl : l.stackTraces = false) (w : z_W) (x : Nat) (C M : sp_S) (n : Int64) (LT : z_LX x C M n w) (a0 : Int32) (a1 : Int32) (a2 : Int32) (a3 : Int32) : z_Con G l mL_computeIfPresent 27 14 120 w [.ref 0, .int a0, .int a1, .int a2, .int a3, .ref x] (fun v w9 => ∃ n9 : Int64, v = some (.int (t_computeIfPresent C a0 a1 a2 a3)) ∧ z_LX x (k_computeIfPresent C a0 a1 a2 a3) M n9 w9 ∧ (t_computeIfPresent C a0 a1 a2 a3 = 0 → n9 = (a_computeIfPresent C a0 a1 a2 a3).toInt64)) (fun _ _ => False) := by
  refine z_bodyW hl (by decide) (by decide) (Nat.le_of_ble_eq_true rfl) ?_
  show z_J G l mL_computeIfPresent _ 0 [(0, _), (1, _), (2, _), (3, _), (4, _), (5, _)] [] _ 0 0
  refine j_aload dL_computeIfPresent_0 rfl rfl ?_
  refine j_aload_n dL_computeIfPresent_2 rfl rfl ?_
  refine j_iload_n dL_computeIfPresent_3 rfl ?_
  refine j_iload_n dL_computeIfPresent_4 rfl ?_
  refine j_iload_n dL_computeIfPresent_5 rfl ?_
  refine j_iload dL_computeIfPresent_6 rfl ?_
  obtain ⟨fs33, gs33⟩ := LT.rc
  refine j_tryV (q := (RX8, TX8, 9)) dL_computeIfPresent_8 kX8_computeIfPresent lL_73 inX8_computeIfPresent seX8_computeIfPresent gs33 rfl (px_computeIfPresent hl w C LT.1.1 LT.1.2 a0 a1 a2 a3) (Nat.le_of_ble_eq_true rfl) ⟨(Nat.le_of_ble_eq_true rfl), (Nat.le_of_ble_eq_true rfl)⟩ rfl (Nat.le_of_ble_eq_true rfl) rfl ?_ ?_
  · rintro E _ ⟨hE, rfl⟩
    rcases hE with hE | hE
    · obtain ⟨hE, hk⟩ := hE
      have hk : t_computeIfPresent C a0 a1 a2 a3 = 1 := hk
      have hE : E = "java/lang/IndexOutOfBoundsException" := hE
      subst hE
      refine ⟨18, 20, ⟨[], (⟨0, 15, 18, 19⟩ : ExceptionTableEntry), _, "java/lang/IndexOutOfBoundsException", rfl, (fun z hz => by cases hz), by decide, by decide, (z_w 847 ((lwt_4_2 22).trans rfl) (by decide +kernel)), (z_wn 860 ((lwt_4_3 5).trans rfl) (by decide +kernel)), rfl⟩, Or.inl ⟨6, dL_computeIfPresent_18, by decide, rfl⟩, ?_⟩
      refine j_iconst (v := 1) dL_computeIfPresent_20 (by decide) ?_
      refine j_iret dL_computeIfPresent_21 rfl rfl ?_ (Nat.le_of_ble_eq_true rfl) (Nat.le_of_ble_eq_true rfl)
      exact ⟨_, by rw [hk], by unfold k_computeIfPresent; rw [if_neg (by rw [hk]; decide)]; exact LT, fun z => absurd (hk.symm.trans z) (by decide)⟩
    · obtain ⟨hE, hk⟩ := hE
      have hk : t_computeIfPresent C a0 a1 a2 a3 = 2 := hk
      have hE : E = "java/lang/IllegalArgumentException" := hE
      subst hE
      refine ⟨22, 24, ⟨[(⟨0, 15, 18, 19⟩ : ExceptionTableEntry)], (⟨0, 15, 22, 21⟩ : ExceptionTableEntry), _, "java/lang/IllegalArgumentException", rfl, (fun z hz => by
          simp only [List.mem_cons, List.not_mem_nil, or_false] at hz
          rcases hz with rfl
          · exact Or.inr ⟨by decide, "java/lang/IndexOutOfBoundsException", (z_w 847 ((lwt_4_2 22).trans rfl) (by decide +kernel)), by decide⟩), by decide, by decide, (z_w 848 ((lwt_4_2 23).trans rfl) (by decide +kernel)), (z_wn 460 ((lwt_2_5 25).trans rfl) (by decide +kernel)), rfl⟩, Or.inl ⟨6, dL_computeIfPresent_22, by decide, rfl⟩, ?_⟩
      refine j_iconst (v := 2) dL_computeIfPresent_24 (by decide) ?_
      refine j_iret dL_computeIfPresent_25 rfl rfl ?_ (Nat.le_of_ble_eq_true rfl) (Nat.le_of_ble_eq_true rfl)
      exact ⟨_, by rw [hk], by unfold k_computeIfPresent; rw [if_neg (by rw [hk]; decide)]; exact LT, fun z => absurd (hk.symm.trans z) (by decide)⟩
  · rintro _ w1 ⟨hk, rfl, hW1, hh1⟩
    have hk : t_computeIfPresent C a0 a1 a2 a3 = 0 := hk
    have LT1 : z_LX x (k_computeIfPresent C a0 a1 a2 a3) M n w1 := LT.cls (by unfold k_computeIfPresent; rw [if_pos hk]; exact hW1) (okk_computeIfPresent _ _ _ _ LT.1.2) hh1
    refine j_i2l dL_computeIfPresent_11 ?_
    obtain ⟨-, -, ⟨ov34, og34⟩, -⟩ := id LT1
    refine j_put (w' := _) dL_computeIfPresent_12 fL_13 tX9_0 og34 ⟨rfl, rfl⟩ rfl ?_
    refine j_seal (n := x) LT1.x1 ?_
    intro w2 u2
    have LT2 := LT1.out u2
    refine j_goto (tgt := 26) dL_computeIfPresent_15 (by decide) ?_
    refine j_iconst (v := 0) dL_computeIfPresent_26 (by decide) ?_
    refine j_iret dL_computeIfPresent_27 rfl rfl ?_ (Nat.le_of_ble_eq_true rfl) (Nat.le_of_ble_eq_true rfl)
    exact ⟨_, by rw [hk], LT2, fun _ => rfl⟩
set_option maxRecDepth 100000 in
set_option maxHeartbeats 4000000 in
theorem lw_compute (hl : l.stackTraces = false) (w : z_W) (x : Nat) (C M : sp_S) (n : Int64) (LT : z_LX x C M n w) (a0 : Int32) (a1 : Int32) (a2 : Int32) (a3 : Int32) : z_Con G l mL_compute 27 14 120 w [.ref 0, .int a0, .int a1, .int a2, .int a3, .ref x] (fun v w9 => ∃ n9 : Int64, v = some (.int (t_compute C a0 a1 a2 a3)) ∧ z_LX x (k_compute C a0 a1 a2 a3) M n9 w9 ∧ (t_compute C a0 a1 a2 a3 = 0 → n9 = (a_compute C a0 a1 a2 a3).toInt64)) (fun _ _ => False) := by
  refine z_bodyW hl (by decide) (by decide) (Nat.le_of_ble_eq_true rfl) ?_
  show z_J G l mL_compute _ 0 [(0, _), (1, _), (2, _), (3, _), (4, _), (5, _)] [] _ 0 0
  refine j_aload dL_compute_0 rfl rfl ?_
  refine j_aload_n dL_compute_2 rfl rfl ?_
  refine j_iload_n dL_compute_3 rfl ?_
  refine j_iload_n dL_compute_4 rfl ?_
  refine j_iload_n dL_compute_5 rfl ?_
  refine j_iload dL_compute_6 rfl ?_
  obtain ⟨fs35, gs35⟩ := LT.rc
  refine j_tryV (q := (RX8, TX8, 9)) dL_compute_8 kX8_compute lL_76 inX8_compute seX8_compute gs35 rfl (px_compute hl w C LT.1.1 LT.1.2 a0 a1 a2 a3) (Nat.le_of_ble_eq_true rfl) ⟨(Nat.le_of_ble_eq_true rfl), (Nat.le_of_ble_eq_true rfl)⟩ rfl (Nat.le_of_ble_eq_true rfl) rfl ?_ ?_
  · rintro E _ ⟨hE, rfl⟩
    rcases hE with hE | hE
    · obtain ⟨hE, hk⟩ := hE
      have hk : t_compute C a0 a1 a2 a3 = 1 := hk
      have hE : E = "java/lang/IndexOutOfBoundsException" := hE
      subst hE
      refine ⟨18, 20, ⟨[], (⟨0, 15, 18, 19⟩ : ExceptionTableEntry), _, "java/lang/IndexOutOfBoundsException", rfl, (fun z hz => by cases hz), by decide, by decide, (z_w 847 ((lwt_4_2 22).trans rfl) (by decide +kernel)), (z_wn 860 ((lwt_4_3 5).trans rfl) (by decide +kernel)), rfl⟩, Or.inl ⟨6, dL_compute_18, by decide, rfl⟩, ?_⟩
      refine j_iconst (v := 1) dL_compute_20 (by decide) ?_
      refine j_iret dL_compute_21 rfl rfl ?_ (Nat.le_of_ble_eq_true rfl) (Nat.le_of_ble_eq_true rfl)
      exact ⟨_, by rw [hk], by unfold k_compute; rw [if_neg (by rw [hk]; decide)]; exact LT, fun z => absurd (hk.symm.trans z) (by decide)⟩
    · obtain ⟨hE, hk⟩ := hE
      have hk : t_compute C a0 a1 a2 a3 = 2 := hk
      have hE : E = "java/lang/IllegalArgumentException" := hE
      subst hE
      refine ⟨22, 24, ⟨[(⟨0, 15, 18, 19⟩ : ExceptionTableEntry)], (⟨0, 15, 22, 21⟩ : ExceptionTableEntry), _, "java/lang/IllegalArgumentException", rfl, (fun z hz => by
          simp only [List.mem_cons, List.not_mem_nil, or_false] at hz
          rcases hz with rfl
          · exact Or.inr ⟨by decide, "java/lang/IndexOutOfBoundsException", (z_w 847 ((lwt_4_2 22).trans rfl) (by decide +kernel)), by decide⟩), by decide, by decide, (z_w 848 ((lwt_4_2 23).trans rfl) (by decide +kernel)), (z_wn 460 ((lwt_2_5 25).trans rfl) (by decide +kernel)), rfl⟩, Or.inl ⟨6, dL_compute_22, by decide, rfl⟩, ?_⟩
      refine j_iconst (v := 2) dL_compute_24 (by decide) ?_
      refine j_iret dL_compute_25 rfl rfl ?_ (Nat.le_of_ble_eq_true rfl) (Nat.le_of_ble_eq_true rfl)
      exact ⟨_, by rw [hk], by unfold k_compute; rw [if_neg (by rw [hk]; decide)]; exact LT, fun z => absurd (hk.symm.trans z) (by decide)⟩
  · rintro _ w1 ⟨hk, rfl, hW1, hh1⟩
    have hk : t_compute C a0 a1 a2 a3 = 0 := hk
    have LT1 : z_LX x (k_compute C a0 a1 a2 a3) M n w1 := LT.cls (by unfold k_compute; rw [if_pos hk]; exact hW1) (okk_compute _ _ _ _ LT.1.2) hh1
    refine j_i2l dL_compute_11 ?_
    obtain ⟨-, -, ⟨ov36, og36⟩, -⟩ := id LT1
    refine j_put (w' := _) dL_compute_12 fL_13 tX9_0 og36 ⟨rfl, rfl⟩ rfl ?_
    refine j_seal (n := x) LT1.x1 ?_
    intro w2 u2
    have LT2 := LT1.out u2
    refine j_goto (tgt := 26) dL_compute_15 (by decide) ?_
    refine j_iconst (v := 0) dL_compute_26 (by decide) ?_
    refine j_iret dL_compute_27 rfl rfl ?_ (Nat.le_of_ble_eq_true rfl) (Nat.le_of_ble_eq_true rfl)
    exact ⟨_, by rw [hk], LT2, fun _ => rfl⟩
set_option maxRecDepth 100000 in
set_option maxHeartbeats 4000000 in
theorem lw_merge (hl : l.stackTraces = false) (w : z_W) (x : Nat) (C M : sp_S) (n : Int64) (LT : z_LX x C M n w) (a0 : Int32) (a1 : Int32) (a2 : Int32) (a3 : Int32) : z_Con G l mL_merge 27 14 120 w [.ref 0, .int a0, .int a1, .int a2, .int a3, .ref x] (fun v w9 => ∃ n9 : Int64, v = some (.int (t_merge C a0 a1 a2 a3)) ∧ z_LX x (k_merge C a0 a1 a2 a3) M n9 w9 ∧ (t_merge C a0 a1 a2 a3 = 0 → n9 = (a_merge C a0 a1 a2 a3).toInt64)) (fun _ _ => False) := by
  refine z_bodyW hl (by decide) (by decide) (Nat.le_of_ble_eq_true rfl) ?_
  show z_J G l mL_merge _ 0 [(0, _), (1, _), (2, _), (3, _), (4, _), (5, _)] [] _ 0 0
  refine j_aload dL_merge_0 rfl rfl ?_
  refine j_aload_n dL_merge_2 rfl rfl ?_
  refine j_iload_n dL_merge_3 rfl ?_
  refine j_iload_n dL_merge_4 rfl ?_
  refine j_iload_n dL_merge_5 rfl ?_
  refine j_iload dL_merge_6 rfl ?_
  obtain ⟨fs37, gs37⟩ := LT.rc
  refine j_tryV (q := (RX8, TX8, 9)) dL_merge_8 kX8_merge lL_79 inX8_merge seX8_merge gs37 rfl (px_merge hl w C LT.1.1 LT.1.2 a0 a1 a2 a3) (Nat.le_of_ble_eq_true rfl) ⟨(Nat.le_of_ble_eq_true rfl), (Nat.le_of_ble_eq_true rfl)⟩ rfl (Nat.le_of_ble_eq_true rfl) rfl ?_ ?_
  · rintro E _ ⟨hE, rfl⟩
    rcases hE with hE | hE
    · obtain ⟨hE, hk⟩ := hE
      have hk : t_merge C a0 a1 a2 a3 = 1 := hk
      have hE : E = "java/lang/IndexOutOfBoundsException" := hE
      subst hE
      refine ⟨18, 20, ⟨[], (⟨0, 15, 18, 19⟩ : ExceptionTableEntry), _, "java/lang/IndexOutOfBoundsException", rfl, (fun z hz => by cases hz), by decide, by decide, (z_w 847 ((lwt_4_2 22).trans rfl) (by decide +kernel)), (z_wn 860 ((lwt_4_3 5).trans rfl) (by decide +kernel)), rfl⟩, Or.inl ⟨6, dL_merge_18, by decide, rfl⟩, ?_⟩
      refine j_iconst (v := 1) dL_merge_20 (by decide) ?_
      refine j_iret dL_merge_21 rfl rfl ?_ (Nat.le_of_ble_eq_true rfl) (Nat.le_of_ble_eq_true rfl)
      exact ⟨_, by rw [hk], by unfold k_merge; rw [if_neg (by rw [hk]; decide)]; exact LT, fun z => absurd (hk.symm.trans z) (by decide)⟩
    · obtain ⟨hE, hk⟩ := hE
      have hk : t_merge C a0 a1 a2 a3 = 2 := hk
      have hE : E = "java/lang/IllegalArgumentException" := hE
      subst hE
      refine ⟨22, 24, ⟨[(⟨0, 15, 18, 19⟩ : ExceptionTableEntry)], (⟨0, 15, 22, 21⟩ : ExceptionTableEntry), _, "java/lang/IllegalArgumentException", rfl, (fun z hz => by
          simp only [List.mem_cons, List.not_mem_nil, or_false] at hz
          rcases hz with rfl
          · exact Or.inr ⟨by decide, "java/lang/IndexOutOfBoundsException", (z_w 847 ((lwt_4_2 22).trans rfl) (by decide +kernel)), by decide⟩), by decide, by decide, (z_w 848 ((lwt_4_2 23).trans rfl) (by decide +kernel)), (z_wn 460 ((lwt_2_5 25).trans rfl) (by decide +kernel)), rfl⟩, Or.inl ⟨6, dL_merge_22, by decide, rfl⟩, ?_⟩
      refine j_iconst (v := 2) dL_merge_24 (by decide) ?_
      refine j_iret dL_merge_25 rfl rfl ?_ (Nat.le_of_ble_eq_true rfl) (Nat.le_of_ble_eq_true rfl)
      exact ⟨_, by rw [hk], by unfold k_merge; rw [if_neg (by rw [hk]; decide)]; exact LT, fun z => absurd (hk.symm.trans z) (by decide)⟩
  · rintro _ w1 ⟨hk, rfl, hW1, hh1⟩
    have hk : t_merge C a0 a1 a2 a3 = 0 := hk
    have LT1 : z_LX x (k_merge C a0 a1 a2 a3) M n w1 := LT.cls (by unfold k_merge; rw [if_pos hk]; exact hW1) (okk_merge _ _ _ _ LT.1.2) hh1
    refine j_i2l dL_merge_11 ?_
    obtain ⟨-, -, ⟨ov38, og38⟩, -⟩ := id LT1
    refine j_put (w' := _) dL_merge_12 fL_13 tX9_0 og38 ⟨rfl, rfl⟩ rfl ?_
    refine j_seal (n := x) LT1.x1 ?_
    intro w2 u2
    have LT2 := LT1.out u2
    refine j_goto (tgt := 26) dL_merge_15 (by decide) ?_
    refine j_iconst (v := 0) dL_merge_26 (by decide) ?_
    refine j_iret dL_merge_27 rfl rfl ?_ (Nat.le_of_ble_eq_true rfl) (Nat.le_of_ble_eq_true rfl)
    exact ⟨_, by rw [hk], LT2, fun _ => rfl⟩
set_option maxRecDepth 100000 in
set_option maxHeartbeats 4000000 in
theorem lw_hearTable (hl : l.stackTraces = false) (w : z_W) (x : Nat) (C M : sp_S) (n : Int64) (LT : z_LX x C M n w) (a0 : Int32) (a1 : Int32) : z_Con G l mL_hearTable 27 14 120 w [.ref 0, .int a0, .int a1, .ref x] (fun v w9 => ∃ n9 : Int64, v = some (.int (t_hearTable C a0 a1)) ∧ z_LX x (k_hearTable C a0 a1) M n9 w9 ∧ (t_hearTable C a0 a1 = 0 → n9 = (a_hearTable C a0 a1).toInt64)) (fun _ _ => False) := by
  refine z_bodyW hl (by decide) (by decide) (Nat.le_of_ble_eq_true rfl) ?_
  show z_J G l mL_hearTable _ 0 [(0, _), (1, _), (2, _), (3, _)] [] _ 0 0
  refine j_aload_n dL_hearTable_0 rfl rfl ?_
  refine j_aload_n dL_hearTable_1 rfl rfl ?_
  refine j_iload_n dL_hearTable_2 rfl ?_
  refine j_iload_n dL_hearTable_3 rfl ?_
  obtain ⟨fs39, gs39⟩ := LT.rc
  refine j_tryV (q := (RX8, TX8, 9)) dL_hearTable_4 kX8_hearTable lL_82 inX8_hearTable seX8_hearTable gs39 rfl (px_hearTable hl w C LT.1.1 LT.1.2 a0 a1) (Nat.le_of_ble_eq_true rfl) ⟨(Nat.le_of_ble_eq_true rfl), (Nat.le_of_ble_eq_true rfl)⟩ rfl (Nat.le_of_ble_eq_true rfl) rfl ?_ ?_
  · rintro E _ ⟨hE, rfl⟩
    obtain ⟨hE, hk⟩ := hE
    have hk : t_hearTable C a0 a1 = 1 := hk
    have hE : E = "java/lang/IndexOutOfBoundsException" := hE
    subst hE
    refine ⟨14, 16, ⟨[], (⟨0, 11, 14, 19⟩ : ExceptionTableEntry), _, "java/lang/IndexOutOfBoundsException", rfl, (fun z hz => by cases hz), by decide, by decide, (z_w 847 ((lwt_4_2 22).trans rfl) (by decide +kernel)), (z_wn 860 ((lwt_4_3 5).trans rfl) (by decide +kernel)), rfl⟩, Or.inl ⟨4, dL_hearTable_14, by decide, rfl⟩, ?_⟩
    refine j_iconst (v := 1) dL_hearTable_16 (by decide) ?_
    refine j_iret dL_hearTable_17 rfl rfl ?_ (Nat.le_of_ble_eq_true rfl) (Nat.le_of_ble_eq_true rfl)
    exact ⟨_, by rw [hk], by unfold k_hearTable; rw [if_neg (by rw [hk]; decide)]; exact LT, fun z => absurd (hk.symm.trans z) (by decide)⟩
  · rintro _ w1 ⟨hk, rfl, hW1, hh1⟩
    have hk : t_hearTable C a0 a1 = 0 := hk
    have LT1 : z_LX x (k_hearTable C a0 a1) M n w1 := LT.cls (by unfold k_hearTable; rw [if_pos hk]; exact hW1) (okk_hearTable _ _ LT.1.2) hh1
    refine j_i2l dL_hearTable_7 ?_
    obtain ⟨-, -, ⟨ov40, og40⟩, -⟩ := id LT1
    refine j_put (w' := _) dL_hearTable_8 fL_13 tX9_0 og40 ⟨rfl, rfl⟩ rfl ?_
    refine j_seal (n := x) LT1.x1 ?_
    intro w2 u2
    have LT2 := LT1.out u2
    refine j_goto (tgt := 18) dL_hearTable_11 (by decide) ?_
    refine j_iconst (v := 0) dL_hearTable_18 (by decide) ?_
    refine j_iret dL_hearTable_19 rfl rfl ?_ (Nat.le_of_ble_eq_true rfl) (Nat.le_of_ble_eq_true rfl)
    exact ⟨_, by rw [hk], LT2, fun _ => rfl⟩
set_option maxRecDepth 100000 in
set_option maxHeartbeats 4000000 in
theorem lw_replaceTable (hl : l.stackTraces = false) (w : z_W) (x : Nat) (C M : sp_S) (n : Int64) (LT : z_LX x C M n w) (a0 : Int32) (a1 : Int32) (a2 : Int32) : z_Con G l mL_replaceTable 27 14 120 w [.ref 0, .int a0, .int a1, .int a2, .ref x] (fun v w9 => ∃ n9 : Int64, v = some (.int (t_replaceTable C a0 a1 a2)) ∧ z_LX x (k_replaceTable C a0 a1 a2) M n9 w9 ∧ (t_replaceTable C a0 a1 a2 = 0 → n9 = (a_replaceTable C a0 a1 a2).toInt64)) (fun _ _ => False) := by
  refine z_bodyW hl (by decide) (by decide) (Nat.le_of_ble_eq_true rfl) ?_
  show z_J G l mL_replaceTable _ 0 [(0, _), (1, _), (2, _), (3, _), (4, _)] [] _ 0 0
  refine j_aload dL_replaceTable_0 rfl rfl ?_
  refine j_aload_n dL_replaceTable_2 rfl rfl ?_
  refine j_iload_n dL_replaceTable_3 rfl ?_
  refine j_iload_n dL_replaceTable_4 rfl ?_
  refine j_iload_n dL_replaceTable_5 rfl ?_
  obtain ⟨fs41, gs41⟩ := LT.rc
  refine j_tryV (q := (RX8, TX8, 9)) dL_replaceTable_6 kX8_replaceTable lL_85 inX8_replaceTable seX8_replaceTable gs41 rfl (px_replaceTable hl w C LT.1.1 LT.1.2 a0 a1 a2) (Nat.le_of_ble_eq_true rfl) ⟨(Nat.le_of_ble_eq_true rfl), (Nat.le_of_ble_eq_true rfl)⟩ rfl (Nat.le_of_ble_eq_true rfl) rfl ?_ ?_
  · rintro E _ ⟨hE, rfl⟩
    rcases hE with hE | hE
    · obtain ⟨hE, hk⟩ := hE
      have hk : t_replaceTable C a0 a1 a2 = 1 := hk
      have hE : E = "java/lang/IndexOutOfBoundsException" := hE
      subst hE
      refine ⟨16, 18, ⟨[], (⟨0, 13, 16, 19⟩ : ExceptionTableEntry), _, "java/lang/IndexOutOfBoundsException", rfl, (fun z hz => by cases hz), by decide, by decide, (z_w 847 ((lwt_4_2 22).trans rfl) (by decide +kernel)), (z_wn 860 ((lwt_4_3 5).trans rfl) (by decide +kernel)), rfl⟩, Or.inl ⟨5, dL_replaceTable_16, by decide, rfl⟩, ?_⟩
      refine j_iconst (v := 1) dL_replaceTable_18 (by decide) ?_
      refine j_iret dL_replaceTable_19 rfl rfl ?_ (Nat.le_of_ble_eq_true rfl) (Nat.le_of_ble_eq_true rfl)
      exact ⟨_, by rw [hk], by unfold k_replaceTable; rw [if_neg (by rw [hk]; decide)]; exact LT, fun z => absurd (hk.symm.trans z) (by decide)⟩
    · obtain ⟨hE, hk⟩ := hE
      have hk : t_replaceTable C a0 a1 a2 = 2 := hk
      have hE : E = "java/lang/IllegalArgumentException" := hE
      subst hE
      refine ⟨20, 22, ⟨[(⟨0, 13, 16, 19⟩ : ExceptionTableEntry)], (⟨0, 13, 20, 21⟩ : ExceptionTableEntry), _, "java/lang/IllegalArgumentException", rfl, (fun z hz => by
          simp only [List.mem_cons, List.not_mem_nil, or_false] at hz
          rcases hz with rfl
          · exact Or.inr ⟨by decide, "java/lang/IndexOutOfBoundsException", (z_w 847 ((lwt_4_2 22).trans rfl) (by decide +kernel)), by decide⟩), by decide, by decide, (z_w 848 ((lwt_4_2 23).trans rfl) (by decide +kernel)), (z_wn 460 ((lwt_2_5 25).trans rfl) (by decide +kernel)), rfl⟩, Or.inl ⟨5, dL_replaceTable_20, by decide, rfl⟩, ?_⟩
      refine j_iconst (v := 2) dL_replaceTable_22 (by decide) ?_
      refine j_iret dL_replaceTable_23 rfl rfl ?_ (Nat.le_of_ble_eq_true rfl) (Nat.le_of_ble_eq_true rfl)
      exact ⟨_, by rw [hk], by unfold k_replaceTable; rw [if_neg (by rw [hk]; decide)]; exact LT, fun z => absurd (hk.symm.trans z) (by decide)⟩
  · rintro _ w1 ⟨hk, rfl, hW1, hh1⟩
    have hk : t_replaceTable C a0 a1 a2 = 0 := hk
    have LT1 : z_LX x (k_replaceTable C a0 a1 a2) M n w1 := LT.cls (by unfold k_replaceTable; rw [if_pos hk]; exact hW1) (okk_replaceTable _ _ _ LT.1.2) hh1
    refine j_i2l dL_replaceTable_9 ?_
    obtain ⟨-, -, ⟨ov42, og42⟩, -⟩ := id LT1
    refine j_put (w' := _) dL_replaceTable_10 fL_13 tX9_0 og42 ⟨rfl, rfl⟩ rfl ?_
    refine j_seal (n := x) LT1.x1 ?_
    intro w2 u2
    have LT2 := LT1.out u2
    refine j_goto (tgt := 24) dL_replaceTable_13 (by decide) ?_
    refine j_iconst (v := 0) dL_replaceTable_24 (by decide) ?_
    refine j_iret dL_replaceTable_25 rfl rfl ?_ (Nat.le_of_ble_eq_true rfl) (Nat.le_of_ble_eq_true rfl)
    exact ⟨_, by rw [hk], LT2, fun _ => rfl⟩
set_option maxRecDepth 100000 in
set_option maxHeartbeats 4000000 in
theorem lw_clear (hl : l.stackTraces = false) (w : z_W) (x : Nat) (C M : sp_S) (n : Int64) (LT : z_LX x C M n w) (a0 : Int32) : z_Con G l mL_clear 27 14 120 w [.ref 0, .int a0, .ref x] (fun v w9 => ∃ n9 : Int64, v = some (.int (t_clear C a0)) ∧ z_LX x (k_clear C a0) M n9 w9 ∧ (t_clear C a0 = 0 → n9 = (a_clear C a0).toInt64)) (fun _ _ => False) := by
  refine z_bodyW hl (by decide) (by decide) (Nat.le_of_ble_eq_true rfl) ?_
  show z_J G l mL_clear _ 0 [(0, _), (1, _), (2, _)] [] _ 0 0
  refine j_aload_n dL_clear_0 rfl rfl ?_
  refine j_aload_n dL_clear_1 rfl rfl ?_
  refine j_iload_n dL_clear_2 rfl ?_
  obtain ⟨fs43, gs43⟩ := LT.rc
  refine j_tryV (q := (RX8, TX8, 9)) dL_clear_3 kX8_clear lL_88 inX8_clear seX8_clear gs43 rfl (px_clear hl w C LT.1.1 LT.1.2 a0) (Nat.le_of_ble_eq_true rfl) ⟨(Nat.le_of_ble_eq_true rfl), (Nat.le_of_ble_eq_true rfl)⟩ rfl (Nat.le_of_ble_eq_true rfl) rfl ?_ ?_
  · rintro E _ ⟨hE, rfl⟩
    obtain ⟨hE, hk⟩ := hE
    have hk : t_clear C a0 = 1 := hk
    have hE : E = "java/lang/IndexOutOfBoundsException" := hE
    subst hE
    refine ⟨13, 14, ⟨[], (⟨0, 10, 13, 19⟩ : ExceptionTableEntry), _, "java/lang/IndexOutOfBoundsException", rfl, (fun z hz => by cases hz), by decide, by decide, (z_w 847 ((lwt_4_2 22).trans rfl) (by decide +kernel)), (z_wn 860 ((lwt_4_3 5).trans rfl) (by decide +kernel)), rfl⟩, Or.inr ⟨3, dL_clear_13, by decide, rfl⟩, ?_⟩
    refine j_iconst (v := 1) dL_clear_14 (by decide) ?_
    refine j_iret dL_clear_15 rfl rfl ?_ (Nat.le_of_ble_eq_true rfl) (Nat.le_of_ble_eq_true rfl)
    exact ⟨_, by rw [hk], by unfold k_clear; rw [if_neg (by rw [hk]; decide)]; exact LT, fun z => absurd (hk.symm.trans z) (by decide)⟩
  · rintro _ w1 ⟨hk, rfl, hW1, hh1⟩
    have hk : t_clear C a0 = 0 := hk
    have LT1 : z_LX x (k_clear C a0) M n w1 := LT.cls (by unfold k_clear; rw [if_pos hk]; exact hW1) (okk_clear _ LT.1.2) hh1
    refine j_i2l dL_clear_6 ?_
    obtain ⟨-, -, ⟨ov44, og44⟩, -⟩ := id LT1
    refine j_put (w' := _) dL_clear_7 fL_13 tX9_0 og44 ⟨rfl, rfl⟩ rfl ?_
    refine j_seal (n := x) LT1.x1 ?_
    intro w2 u2
    have LT2 := LT1.out u2
    refine j_goto (tgt := 16) dL_clear_10 (by decide) ?_
    refine j_iconst (v := 0) dL_clear_16 (by decide) ?_
    refine j_iret dL_clear_17 rfl rfl ?_ (Nat.le_of_ble_eq_true rfl) (Nat.le_of_ble_eq_true rfl)
    exact ⟨_, by rw [hk], LT2, fun _ => rfl⟩
set_option maxRecDepth 100000 in
set_option maxHeartbeats 4000000 in
theorem lw_hearSpan (hl : l.stackTraces = false) (w : z_W) (x : Nat) (C M : sp_S) (n : Int64) (LT : z_LX x C M n w) (a0 : Int32) (a1 : Int32) (a2 : Int32) (a3 : Int32) : z_Con G l mL_hearSpan 27 14 120 w [.ref 0, .int a0, .int a1, .int a2, .int a3, .ref x] (fun v w9 => ∃ n9 : Int64, v = some (.int (t_hearSpan C a0 a1 a2 a3)) ∧ z_LX x (k_hearSpan C a0 a1 a2 a3) M n9 w9 ∧ (t_hearSpan C a0 a1 a2 a3 = 0 → n9 = (a_hearSpan C a0 a1 a2 a3).toInt64)) (fun _ _ => False) := by
  refine z_bodyW hl (by decide) (by decide) (Nat.le_of_ble_eq_true rfl) ?_
  show z_J G l mL_hearSpan _ 0 [(0, _), (1, _), (2, _), (3, _), (4, _), (5, _)] [] _ 0 0
  refine j_aload dL_hearSpan_0 rfl rfl ?_
  refine j_aload_n dL_hearSpan_2 rfl rfl ?_
  refine j_iload_n dL_hearSpan_3 rfl ?_
  refine j_iload_n dL_hearSpan_4 rfl ?_
  refine j_iload_n dL_hearSpan_5 rfl ?_
  refine j_iload dL_hearSpan_6 rfl ?_
  obtain ⟨fs45, gs45⟩ := LT.rc
  refine j_tryV (q := (RX8, TX8, 9)) dL_hearSpan_8 kX8_hearSpan lL_91 inX8_hearSpan seX8_hearSpan gs45 rfl (px_hearSpan hl w C LT.1.1 LT.1.2 a0 a1 a2 a3) (Nat.le_of_ble_eq_true rfl) ⟨(Nat.le_of_ble_eq_true rfl), (Nat.le_of_ble_eq_true rfl)⟩ rfl (Nat.le_of_ble_eq_true rfl) rfl ?_ ?_
  · rintro E _ ⟨hE, rfl⟩
    rcases hE with hE | hE
    · obtain ⟨hE, hk⟩ := hE
      have hk : t_hearSpan C a0 a1 a2 a3 = 1 := hk
      have hE : E = "java/lang/IndexOutOfBoundsException" := hE
      subst hE
      refine ⟨18, 20, ⟨[], (⟨0, 15, 18, 19⟩ : ExceptionTableEntry), _, "java/lang/IndexOutOfBoundsException", rfl, (fun z hz => by cases hz), by decide, by decide, (z_w 847 ((lwt_4_2 22).trans rfl) (by decide +kernel)), (z_wn 860 ((lwt_4_3 5).trans rfl) (by decide +kernel)), rfl⟩, Or.inl ⟨6, dL_hearSpan_18, by decide, rfl⟩, ?_⟩
      refine j_iconst (v := 1) dL_hearSpan_20 (by decide) ?_
      refine j_iret dL_hearSpan_21 rfl rfl ?_ (Nat.le_of_ble_eq_true rfl) (Nat.le_of_ble_eq_true rfl)
      exact ⟨_, by rw [hk], by unfold k_hearSpan; rw [if_neg (by rw [hk]; decide)]; exact LT, fun z => absurd (hk.symm.trans z) (by decide)⟩
    · obtain ⟨hE, hk⟩ := hE
      have hk : t_hearSpan C a0 a1 a2 a3 = 2 := hk
      have hE : E = "java/lang/IllegalArgumentException" := hE
      subst hE
      refine ⟨22, 24, ⟨[(⟨0, 15, 18, 19⟩ : ExceptionTableEntry)], (⟨0, 15, 22, 21⟩ : ExceptionTableEntry), _, "java/lang/IllegalArgumentException", rfl, (fun z hz => by
          simp only [List.mem_cons, List.not_mem_nil, or_false] at hz
          rcases hz with rfl
          · exact Or.inr ⟨by decide, "java/lang/IndexOutOfBoundsException", (z_w 847 ((lwt_4_2 22).trans rfl) (by decide +kernel)), by decide⟩), by decide, by decide, (z_w 848 ((lwt_4_2 23).trans rfl) (by decide +kernel)), (z_wn 460 ((lwt_2_5 25).trans rfl) (by decide +kernel)), rfl⟩, Or.inl ⟨6, dL_hearSpan_22, by decide, rfl⟩, ?_⟩
      refine j_iconst (v := 2) dL_hearSpan_24 (by decide) ?_
      refine j_iret dL_hearSpan_25 rfl rfl ?_ (Nat.le_of_ble_eq_true rfl) (Nat.le_of_ble_eq_true rfl)
      exact ⟨_, by rw [hk], by unfold k_hearSpan; rw [if_neg (by rw [hk]; decide)]; exact LT, fun z => absurd (hk.symm.trans z) (by decide)⟩
  · rintro _ w1 ⟨hk, rfl, hW1, hh1⟩
    have hk : t_hearSpan C a0 a1 a2 a3 = 0 := hk
    have LT1 : z_LX x (k_hearSpan C a0 a1 a2 a3) M n w1 := LT.cls (by unfold k_hearSpan; rw [if_pos hk]; exact hW1) (okk_hearSpan _ _ _ _ LT.1.2) hh1
    refine j_i2l dL_hearSpan_11 ?_
    obtain ⟨-, -, ⟨ov46, og46⟩, -⟩ := id LT1
    refine j_put (w' := _) dL_hearSpan_12 fL_13 tX9_0 og46 ⟨rfl, rfl⟩ rfl ?_
    refine j_seal (n := x) LT1.x1 ?_
    intro w2 u2
    have LT2 := LT1.out u2
    refine j_goto (tgt := 26) dL_hearSpan_15 (by decide) ?_
    refine j_iconst (v := 0) dL_hearSpan_26 (by decide) ?_
    refine j_iret dL_hearSpan_27 rfl rfl ?_ (Nat.le_of_ble_eq_true rfl) (Nat.le_of_ble_eq_true rfl)
    exact ⟨_, by rw [hk], LT2, fun _ => rfl⟩
set_option maxRecDepth 100000 in
set_option maxHeartbeats 4000000 in
theorem lw_hearSteps (hl : l.stackTraces = false) (w : z_W) (x : Nat) (C M : sp_S) (n : Int64) (LT : z_LX x C M n w) (a0 : Int32) (a1 : Int32) (a2 : Int32) (a3 : Int32) (a4 : Int32) : z_Con G l mL_hearSteps 27 14 120 w [.ref 0, .int a0, .int a1, .int a2, .int a3, .int a4, .ref x] (fun v w9 => ∃ n9 : Int64, v = some (.int (t_hearSteps C a0 a1 a2 a3 a4)) ∧ z_LX x (k_hearSteps C a0 a1 a2 a3 a4) M n9 w9 ∧ (t_hearSteps C a0 a1 a2 a3 a4 = 0 → n9 = (a_hearSteps C a0 a1 a2 a3 a4).toInt64)) (fun _ _ => False) := by
  refine z_bodyW hl (by decide) (by decide) (Nat.le_of_ble_eq_true rfl) ?_
  show z_J G l mL_hearSteps _ 0 [(0, _), (1, _), (2, _), (3, _), (4, _), (5, _), (6, _)] [] _ 0 0
  refine j_aload dL_hearSteps_0 rfl rfl ?_
  refine j_aload_n dL_hearSteps_2 rfl rfl ?_
  refine j_iload_n dL_hearSteps_3 rfl ?_
  refine j_iload_n dL_hearSteps_4 rfl ?_
  refine j_iload_n dL_hearSteps_5 rfl ?_
  refine j_iload dL_hearSteps_6 rfl ?_
  refine j_iload dL_hearSteps_8 rfl ?_
  obtain ⟨fs47, gs47⟩ := LT.rc
  refine j_tryV (q := (RX8, TX8, 9)) dL_hearSteps_10 kX8_hearSteps lL_94 inX8_hearSteps seX8_hearSteps gs47 rfl (px_hearSteps hl w C LT.1.1 LT.1.2 a0 a1 a2 a3 a4) (Nat.le_of_ble_eq_true rfl) ⟨(Nat.le_of_ble_eq_true rfl), (Nat.le_of_ble_eq_true rfl)⟩ rfl (Nat.le_of_ble_eq_true rfl) rfl ?_ ?_
  · rintro E _ ⟨hE, rfl⟩
    rcases hE with hE | hE
    · obtain ⟨hE, hk⟩ := hE
      have hk : t_hearSteps C a0 a1 a2 a3 a4 = 1 := hk
      have hE : E = "java/lang/IndexOutOfBoundsException" := hE
      subst hE
      refine ⟨20, 22, ⟨[], (⟨0, 17, 20, 19⟩ : ExceptionTableEntry), _, "java/lang/IndexOutOfBoundsException", rfl, (fun z hz => by cases hz), by decide, by decide, (z_w 847 ((lwt_4_2 22).trans rfl) (by decide +kernel)), (z_wn 860 ((lwt_4_3 5).trans rfl) (by decide +kernel)), rfl⟩, Or.inl ⟨7, dL_hearSteps_20, by decide, rfl⟩, ?_⟩
      refine j_iconst (v := 1) dL_hearSteps_22 (by decide) ?_
      refine j_iret dL_hearSteps_23 rfl rfl ?_ (Nat.le_of_ble_eq_true rfl) (Nat.le_of_ble_eq_true rfl)
      exact ⟨_, by rw [hk], by unfold k_hearSteps; rw [if_neg (by rw [hk]; decide)]; exact LT, fun z => absurd (hk.symm.trans z) (by decide)⟩
    · obtain ⟨hE, hk⟩ := hE
      have hk : t_hearSteps C a0 a1 a2 a3 a4 = 2 := hk
      have hE : E = "java/lang/IllegalArgumentException" := hE
      subst hE
      refine ⟨24, 26, ⟨[(⟨0, 17, 20, 19⟩ : ExceptionTableEntry)], (⟨0, 17, 24, 21⟩ : ExceptionTableEntry), _, "java/lang/IllegalArgumentException", rfl, (fun z hz => by
          simp only [List.mem_cons, List.not_mem_nil, or_false] at hz
          rcases hz with rfl
          · exact Or.inr ⟨by decide, "java/lang/IndexOutOfBoundsException", (z_w 847 ((lwt_4_2 22).trans rfl) (by decide +kernel)), by decide⟩), by decide, by decide, (z_w 848 ((lwt_4_2 23).trans rfl) (by decide +kernel)), (z_wn 460 ((lwt_2_5 25).trans rfl) (by decide +kernel)), rfl⟩, Or.inl ⟨7, dL_hearSteps_24, by decide, rfl⟩, ?_⟩
      refine j_iconst (v := 2) dL_hearSteps_26 (by decide) ?_
      refine j_iret dL_hearSteps_27 rfl rfl ?_ (Nat.le_of_ble_eq_true rfl) (Nat.le_of_ble_eq_true rfl)
      exact ⟨_, by rw [hk], by unfold k_hearSteps; rw [if_neg (by rw [hk]; decide)]; exact LT, fun z => absurd (hk.symm.trans z) (by decide)⟩
  · rintro _ w1 ⟨hk, rfl, hW1, hh1⟩
    have hk : t_hearSteps C a0 a1 a2 a3 a4 = 0 := hk
    have LT1 : z_LX x (k_hearSteps C a0 a1 a2 a3 a4) M n w1 := LT.cls (by unfold k_hearSteps; rw [if_pos hk]; exact hW1) (okk_hearSteps _ _ _ _ _ LT.1.2) hh1
    refine j_i2l dL_hearSteps_13 ?_
    obtain ⟨-, -, ⟨ov48, og48⟩, -⟩ := id LT1
    refine j_put (w' := _) dL_hearSteps_14 fL_13 tX9_0 og48 ⟨rfl, rfl⟩ rfl ?_
    refine j_seal (n := x) LT1.x1 ?_
    intro w2 u2
    have LT2 := LT1.out u2
    refine j_goto (tgt := 28) dL_hearSteps_17 (by decide) ?_
    refine j_iconst (v := 0) dL_hearSteps_28 (by decide) ?_
    refine j_iret dL_hearSteps_29 rfl rfl ?_ (Nat.le_of_ble_eq_true rfl) (Nat.le_of_ble_eq_true rfl)
    exact ⟨_, by rw [hk], LT2, fun _ => rfl⟩
set_option maxRecDepth 100000 in
set_option maxHeartbeats 4000000 in
theorem lw_takeStep (hl : l.stackTraces = false) (w : z_W) (x : Nat) (C M : sp_S) (n : Int64) (LT : z_LX x C M n w) (a0 : Int32) (a1 : Int32) : z_Con G l mL_takeStep 27 14 120 w [.ref 0, .int a0, .int a1, .ref x] (fun v w9 => ∃ n9 : Int64, v = some (.int (t_takeStep C a0 a1)) ∧ z_LX x (k_takeStep C a0 a1) M n9 w9 ∧ (t_takeStep C a0 a1 = 0 → n9 = (a_takeStep C a0 a1).toInt64)) (fun _ _ => False) := by
  refine z_bodyW hl (by decide) (by decide) (Nat.le_of_ble_eq_true rfl) ?_
  show z_J G l mL_takeStep _ 0 [(0, _), (1, _), (2, _), (3, _)] [] _ 0 0
  refine j_aload_n dL_takeStep_0 rfl rfl ?_
  refine j_aload_n dL_takeStep_1 rfl rfl ?_
  refine j_iload_n dL_takeStep_2 rfl ?_
  refine j_iload_n dL_takeStep_3 rfl ?_
  obtain ⟨fs49, gs49⟩ := LT.rc
  refine j_tryV (q := (RX8, TX8, 9)) dL_takeStep_4 kX8_takeStep lL_98 inX8_takeStep seX8_takeStep gs49 rfl (px_takeStep hl w C LT.1.1 LT.1.2 a0 a1) (Nat.le_of_ble_eq_true rfl) ⟨(Nat.le_of_ble_eq_true rfl), (Nat.le_of_ble_eq_true rfl)⟩ rfl (Nat.le_of_ble_eq_true rfl) rfl ?_ ?_
  · rintro E _ ⟨hE, rfl⟩
    obtain ⟨hE, hk⟩ := hE
    have hk : t_takeStep C a0 a1 = 1 := hk
    have hE : E = "java/lang/IllegalArgumentException" := hE
    subst hE
    refine ⟨14, 16, ⟨[], (⟨0, 11, 14, 21⟩ : ExceptionTableEntry), _, "java/lang/IllegalArgumentException", rfl, (fun z hz => by cases hz), by decide, by decide, (z_w 848 ((lwt_4_2 23).trans rfl) (by decide +kernel)), (z_wn 460 ((lwt_2_5 25).trans rfl) (by decide +kernel)), rfl⟩, Or.inl ⟨4, dL_takeStep_14, by decide, rfl⟩, ?_⟩
    refine j_iconst (v := 1) dL_takeStep_16 (by decide) ?_
    refine j_iret dL_takeStep_17 rfl rfl ?_ (Nat.le_of_ble_eq_true rfl) (Nat.le_of_ble_eq_true rfl)
    exact ⟨_, by rw [hk], by unfold k_takeStep; rw [if_neg (by rw [hk]; decide)]; exact LT, fun z => absurd (hk.symm.trans z) (by decide)⟩
  · rintro _ w1 ⟨hk, rfl, hW1, hh1⟩
    have hk : t_takeStep C a0 a1 = 0 := hk
    have LT1 : z_LX x (k_takeStep C a0 a1) M n w1 := LT.cls (by unfold k_takeStep; rw [if_pos hk]; exact hW1) (okk_takeStep _ _ LT.1.2) hh1
    refine j_i2l dL_takeStep_7 ?_
    obtain ⟨-, -, ⟨ov50, og50⟩, -⟩ := id LT1
    refine j_put (w' := _) dL_takeStep_8 fL_13 tX9_0 og50 ⟨rfl, rfl⟩ rfl ?_
    refine j_seal (n := x) LT1.x1 ?_
    intro w2 u2
    have LT2 := LT1.out u2
    refine j_goto (tgt := 18) dL_takeStep_11 (by decide) ?_
    refine j_iconst (v := 0) dL_takeStep_18 (by decide) ?_
    refine j_iret dL_takeStep_19 rfl rfl ?_ (Nat.le_of_ble_eq_true rfl) (Nat.le_of_ble_eq_true rfl)
    exact ⟨_, by rw [hk], LT2, fun _ => rfl⟩
set_option maxRecDepth 100000 in
set_option maxHeartbeats 4000000 in
theorem lw_stop (hl : l.stackTraces = false) (w : z_W) (x : Nat) (C M : sp_S) (n : Int64) (LT : z_LX x C M n w) (a0 : Int32) (a1 : Int32) : z_Con G l mL_stop 27 14 120 w [.ref 0, .int a0, .int a1, .ref x] (fun v w9 => ∃ n9 : Int64, v = some (.int (t_stop C a0 a1)) ∧ z_LX x (k_stop C a0 a1) M n9 w9 ∧ (t_stop C a0 a1 = 0 → n9 = (a_stop C a0 a1).toInt64)) (fun _ _ => False) := by
  refine z_bodyW hl (by decide) (by decide) (Nat.le_of_ble_eq_true rfl) ?_
  show z_J G l mL_stop _ 0 [(0, _), (1, _), (2, _), (3, _)] [] _ 0 0
  refine j_aload_n dL_stop_0 rfl rfl ?_
  refine j_aload_n dL_stop_1 rfl rfl ?_
  refine j_iload_n dL_stop_2 rfl ?_
  refine j_iload_n dL_stop_3 rfl ?_
  obtain ⟨fs51, gs51⟩ := LT.rc
  refine j_tryV (q := (RX8, TX8, 9)) dL_stop_4 kX8_stop lL_101 inX8_stop seX8_stop gs51 rfl (px_stop hl w C LT.1.1 LT.1.2 a0 a1) (Nat.le_of_ble_eq_true rfl) ⟨(Nat.le_of_ble_eq_true rfl), (Nat.le_of_ble_eq_true rfl)⟩ rfl (Nat.le_of_ble_eq_true rfl) rfl ?_ ?_
  · rintro E _ ⟨hE, rfl⟩
    rcases hE with hE | hE
    · obtain ⟨hE, hk⟩ := hE
      have hk : t_stop C a0 a1 = 1 := hk
      have hE : E = "java/lang/IndexOutOfBoundsException" := hE
      subst hE
      refine ⟨14, 16, ⟨[], (⟨0, 11, 14, 19⟩ : ExceptionTableEntry), _, "java/lang/IndexOutOfBoundsException", rfl, (fun z hz => by cases hz), by decide, by decide, (z_w 847 ((lwt_4_2 22).trans rfl) (by decide +kernel)), (z_wn 860 ((lwt_4_3 5).trans rfl) (by decide +kernel)), rfl⟩, Or.inl ⟨4, dL_stop_14, by decide, rfl⟩, ?_⟩
      refine j_iconst (v := 1) dL_stop_16 (by decide) ?_
      refine j_iret dL_stop_17 rfl rfl ?_ (Nat.le_of_ble_eq_true rfl) (Nat.le_of_ble_eq_true rfl)
      exact ⟨_, by rw [hk], by unfold k_stop; rw [if_neg (by rw [hk]; decide)]; exact LT, fun z => absurd (hk.symm.trans z) (by decide)⟩
    · obtain ⟨hE, hk⟩ := hE
      have hk : t_stop C a0 a1 = 2 := hk
      have hE : E = "java/lang/IllegalArgumentException" := hE
      subst hE
      refine ⟨18, 20, ⟨[(⟨0, 11, 14, 19⟩ : ExceptionTableEntry)], (⟨0, 11, 18, 21⟩ : ExceptionTableEntry), _, "java/lang/IllegalArgumentException", rfl, (fun z hz => by
          simp only [List.mem_cons, List.not_mem_nil, or_false] at hz
          rcases hz with rfl
          · exact Or.inr ⟨by decide, "java/lang/IndexOutOfBoundsException", (z_w 847 ((lwt_4_2 22).trans rfl) (by decide +kernel)), by decide⟩), by decide, by decide, (z_w 848 ((lwt_4_2 23).trans rfl) (by decide +kernel)), (z_wn 460 ((lwt_2_5 25).trans rfl) (by decide +kernel)), rfl⟩, Or.inl ⟨4, dL_stop_18, by decide, rfl⟩, ?_⟩
      refine j_iconst (v := 2) dL_stop_20 (by decide) ?_
      refine j_iret dL_stop_21 rfl rfl ?_ (Nat.le_of_ble_eq_true rfl) (Nat.le_of_ble_eq_true rfl)
      exact ⟨_, by rw [hk], by unfold k_stop; rw [if_neg (by rw [hk]; decide)]; exact LT, fun z => absurd (hk.symm.trans z) (by decide)⟩
  · rintro _ w1 ⟨hk, rfl, hW1, hh1⟩
    have hk : t_stop C a0 a1 = 0 := hk
    have LT1 : z_LX x (k_stop C a0 a1) M n w1 := LT.cls (by unfold k_stop; rw [if_pos hk]; exact hW1) (okk_stop _ _ LT.1.2) hh1
    refine j_i2l dL_stop_7 ?_
    obtain ⟨-, -, ⟨ov52, og52⟩, -⟩ := id LT1
    refine j_put (w' := _) dL_stop_8 fL_13 tX9_0 og52 ⟨rfl, rfl⟩ rfl ?_
    refine j_seal (n := x) LT1.x1 ?_
    intro w2 u2
    have LT2 := LT1.out u2
    refine j_goto (tgt := 22) dL_stop_11 (by decide) ?_
    refine j_iconst (v := 0) dL_stop_22 (by decide) ?_
    refine j_iret dL_stop_23 rfl rfl ?_ (Nat.le_of_ble_eq_true rfl) (Nat.le_of_ble_eq_true rfl)
    exact ⟨_, by rw [hk], LT2, fun _ => rfl⟩
set_option maxRecDepth 100000 in
set_option maxHeartbeats 4000000 in
theorem lw_forget (hl : l.stackTraces = false) (w : z_W) (x : Nat) (C M : sp_S) (n : Int64) (LT : z_LX x C M n w) (a0 : Int32) : z_Con G l mL_forget 27 14 120 w [.ref 0, .int a0, .ref x] (fun v w9 => ∃ n9 : Int64, v = some (.int (t_forget C a0)) ∧ z_LX x (k_forget C a0) M n9 w9 ∧ (t_forget C a0 = 0 → n9 = (a_forget C a0).toInt64)) (fun _ _ => False) := by
  refine z_bodyW hl (by decide) (by decide) (Nat.le_of_ble_eq_true rfl) ?_
  show z_J G l mL_forget _ 0 [(0, _), (1, _), (2, _)] [] _ 0 0
  refine j_aload_n dL_forget_0 rfl rfl ?_
  refine j_aload_n dL_forget_1 rfl rfl ?_
  refine j_iload_n dL_forget_2 rfl ?_
  obtain ⟨fs53, gs53⟩ := LT.rc
  refine j_tryV (q := (RX8, TX8, 9)) dL_forget_3 kX8_forget lL_104 inX8_forget seX8_forget gs53 rfl (px_forget hl w C LT.1.1 LT.1.2 a0) (Nat.le_of_ble_eq_true rfl) ⟨(Nat.le_of_ble_eq_true rfl), (Nat.le_of_ble_eq_true rfl)⟩ rfl (Nat.le_of_ble_eq_true rfl) rfl ?_ ?_
  · rintro E _ ⟨hE, rfl⟩
    obtain ⟨hE, hk⟩ := hE
    have hk : t_forget C a0 = 1 := hk
    have hE : E = "java/lang/IndexOutOfBoundsException" := hE
    subst hE
    refine ⟨13, 14, ⟨[], (⟨0, 10, 13, 19⟩ : ExceptionTableEntry), _, "java/lang/IndexOutOfBoundsException", rfl, (fun z hz => by cases hz), by decide, by decide, (z_w 847 ((lwt_4_2 22).trans rfl) (by decide +kernel)), (z_wn 860 ((lwt_4_3 5).trans rfl) (by decide +kernel)), rfl⟩, Or.inr ⟨3, dL_forget_13, by decide, rfl⟩, ?_⟩
    refine j_iconst (v := 1) dL_forget_14 (by decide) ?_
    refine j_iret dL_forget_15 rfl rfl ?_ (Nat.le_of_ble_eq_true rfl) (Nat.le_of_ble_eq_true rfl)
    exact ⟨_, by rw [hk], by unfold k_forget; rw [if_neg (by rw [hk]; decide)]; exact LT, fun z => absurd (hk.symm.trans z) (by decide)⟩
  · rintro _ w1 ⟨hk, rfl, hW1, hh1⟩
    have hk : t_forget C a0 = 0 := hk
    have LT1 : z_LX x (k_forget C a0) M n w1 := LT.cls (by unfold k_forget; rw [if_pos hk]; exact hW1) (okk_forget _ LT.1.2) hh1
    refine j_i2l dL_forget_6 ?_
    obtain ⟨-, -, ⟨ov54, og54⟩, -⟩ := id LT1
    refine j_put (w' := _) dL_forget_7 fL_13 tX9_0 og54 ⟨rfl, rfl⟩ rfl ?_
    refine j_seal (n := x) LT1.x1 ?_
    intro w2 u2
    have LT2 := LT1.out u2
    refine j_goto (tgt := 16) dL_forget_10 (by decide) ?_
    refine j_iconst (v := 0) dL_forget_16 (by decide) ?_
    refine j_iret dL_forget_17 rfl rfl ?_ (Nat.le_of_ble_eq_true rfl) (Nat.le_of_ble_eq_true rfl)
    exact ⟨_, by rw [hk], LT2, fun _ => rfl⟩
set_option maxRecDepth 100000 in
set_option maxHeartbeats 4000000 in
theorem lw_heard (hl : l.stackTraces = false) (w : z_W) (x : Nat) (C M : sp_S) (n : Int64) (LT : z_LX x C M n w) (a0 : Int32) (a1 : Int32) : z_Con G l mL_heard 27 14 120 w [.ref 0, .int a0, .int a1, .ref x] (fun v w9 => ∃ n9 : Int64, v = some (.int (t_heard C a0 a1)) ∧ z_LX x (k_heard C a0 a1) M n9 w9 ∧ (t_heard C a0 a1 = 0 → n9 = (a_heard C a0 a1).toInt64)) (fun _ _ => False) := by
  refine z_bodyW hl (by decide) (by decide) (Nat.le_of_ble_eq_true rfl) ?_
  show z_J G l mL_heard _ 0 [(0, _), (1, _), (2, _), (3, _)] [] _ 0 0
  refine j_aload_n dL_heard_0 rfl rfl ?_
  refine j_aload_n dL_heard_1 rfl rfl ?_
  refine j_iload_n dL_heard_2 rfl ?_
  refine j_iload_n dL_heard_3 rfl ?_
  obtain ⟨fs55, gs55⟩ := LT.rc
  refine j_tryV (q := (RX8, TX8, 9)) dL_heard_4 kX8_heard lL_107 inX8_heard seX8_heard gs55 rfl (px_heard hl w C LT.1.1 LT.1.2 a0 a1) (Nat.le_of_ble_eq_true rfl) ⟨(Nat.le_of_ble_eq_true rfl), (Nat.le_of_ble_eq_true rfl)⟩ rfl (Nat.le_of_ble_eq_true rfl) rfl ?_ ?_
  · rintro E _ ⟨hE, rfl⟩
    rcases hE with hE | hE
    · obtain ⟨hE, hk⟩ := hE
      have hk : t_heard C a0 a1 = 1 := hk
      have hE : E = "java/lang/IndexOutOfBoundsException" := hE
      subst hE
      refine ⟨14, 16, ⟨[], (⟨0, 11, 14, 19⟩ : ExceptionTableEntry), _, "java/lang/IndexOutOfBoundsException", rfl, (fun z hz => by cases hz), by decide, by decide, (z_w 847 ((lwt_4_2 22).trans rfl) (by decide +kernel)), (z_wn 860 ((lwt_4_3 5).trans rfl) (by decide +kernel)), rfl⟩, Or.inl ⟨4, dL_heard_14, by decide, rfl⟩, ?_⟩
      refine j_iconst (v := 1) dL_heard_16 (by decide) ?_
      refine j_iret dL_heard_17 rfl rfl ?_ (Nat.le_of_ble_eq_true rfl) (Nat.le_of_ble_eq_true rfl)
      exact ⟨_, by rw [hk], by unfold k_heard; rw [if_neg (by rw [hk]; decide)]; exact LT, fun z => absurd (hk.symm.trans z) (by decide)⟩
    · obtain ⟨hE, hk⟩ := hE
      have hk : t_heard C a0 a1 = 2 := hk
      have hE : E = "java/lang/IllegalArgumentException" := hE
      subst hE
      refine ⟨18, 20, ⟨[(⟨0, 11, 14, 19⟩ : ExceptionTableEntry)], (⟨0, 11, 18, 21⟩ : ExceptionTableEntry), _, "java/lang/IllegalArgumentException", rfl, (fun z hz => by
          simp only [List.mem_cons, List.not_mem_nil, or_false] at hz
          rcases hz with rfl
          · exact Or.inr ⟨by decide, "java/lang/IndexOutOfBoundsException", (z_w 847 ((lwt_4_2 22).trans rfl) (by decide +kernel)), by decide⟩), by decide, by decide, (z_w 848 ((lwt_4_2 23).trans rfl) (by decide +kernel)), (z_wn 460 ((lwt_2_5 25).trans rfl) (by decide +kernel)), rfl⟩, Or.inl ⟨4, dL_heard_18, by decide, rfl⟩, ?_⟩
      refine j_iconst (v := 2) dL_heard_20 (by decide) ?_
      refine j_iret dL_heard_21 rfl rfl ?_ (Nat.le_of_ble_eq_true rfl) (Nat.le_of_ble_eq_true rfl)
      exact ⟨_, by rw [hk], by unfold k_heard; rw [if_neg (by rw [hk]; decide)]; exact LT, fun z => absurd (hk.symm.trans z) (by decide)⟩
  · rintro _ w1 ⟨hk, rfl, hW1, hh1⟩
    have hk : t_heard C a0 a1 = 0 := hk
    have LT1 : z_LX x (k_heard C a0 a1) M n w1 := LT.cls (by unfold k_heard; rw [if_pos hk]; exact hW1) (okk_heard _ _ LT.1.2) hh1
    refine j_i2l dL_heard_7 ?_
    obtain ⟨-, -, ⟨ov56, og56⟩, -⟩ := id LT1
    refine j_put (w' := _) dL_heard_8 fL_13 tX9_0 og56 ⟨rfl, rfl⟩ rfl ?_
    refine j_seal (n := x) LT1.x1 ?_
    intro w2 u2
    have LT2 := LT1.out u2
    refine j_goto (tgt := 22) dL_heard_11 (by decide) ?_
    refine j_iconst (v := 0) dL_heard_22 (by decide) ?_
    refine j_iret dL_heard_23 rfl rfl ?_ (Nat.le_of_ble_eq_true rfl) (Nat.le_of_ble_eq_true rfl)
    exact ⟨_, by rw [hk], LT2, fun _ => rfl⟩
set_option maxRecDepth 100000 in
set_option maxHeartbeats 4000000 in
theorem lw_heardText (hl : l.stackTraces = false) (w : z_W) (x : Nat) (C M : sp_S) (n : Int64) (LT : z_LX x C M n w) (a0 : Int32) : z_Con G l mL_heardText 27 26 810 w [.ref 0, .int a0, .ref x] (fun v w9 => ∃ n9 : Int64, v = some (.int (q_k2 a0)) ∧ z_LX x C M n9 w9 ∧ (q_k2 a0 = 0 → z_LT x w9 (tx_jt (sp_E C (sp_i a0)).2))) (fun _ _ => False) := by
  refine z_bodyW hl (by decide) (by decide) (Nat.le_of_ble_eq_true rfl) ?_
  show z_J G l mL_heardText _ 0 [(0, _), (1, _), (2, _)] [] _ 0 0
  refine j_aload_n dL_heardText_0 rfl rfl ?_
  refine j_aload_n dL_heardText_1 rfl rfl ?_
  refine j_iload_n dL_heardText_2 rfl ?_
  obtain ⟨fs57, gs57⟩ := LT.rc
  refine j_tryV (q := (RX8, TX8, 9)) dL_heardText_3 kX8_heardText lL_110 inX8_heardText seX8_heardText gs57 rfl (pu_heardText hl w C a0 LT.1.1 LT.fn) (Nat.le_of_ble_eq_true rfl) ⟨(Nat.le_of_ble_eq_true rfl), (Nat.le_of_ble_eq_true rfl)⟩ rfl (Nat.le_of_ble_eq_true rfl) rfl ?_ ?_
  · rintro E _ ⟨⟨hE, hk⟩, rfl⟩
    have hE : E = "java/lang/IndexOutOfBoundsException" := hE
    subst hE
    refine ⟨12, 13, ⟨[], (⟨0, 9, 12, 19⟩ : ExceptionTableEntry), _, "java/lang/IndexOutOfBoundsException", rfl, (fun z hz => by cases hz), by decide, by decide, (z_w 847 ((lwt_4_2 22).trans rfl) (by decide +kernel)), (z_wn 860 ((lwt_4_3 5).trans rfl) (by decide +kernel)), rfl⟩, Or.inr ⟨3, dL_heardText_12, by decide, rfl⟩, ?_⟩
    refine j_iconst (v := 1) dL_heardText_13 (by decide) ?_
    refine j_iret dL_heardText_14 rfl rfl ?_ (Nat.le_of_ble_eq_true rfl) (Nat.le_of_ble_eq_true rfl)
    exact ⟨_, by rw [hk], LT, fun z => absurd (hk.symm.trans z) (by decide)⟩
  · rintro _ w1 ⟨hk, x1, rfl, lf1, ht1⟩
    have LT1 := LT.cl2 lf1
    obtain ⟨-, -, ⟨ov58, og58⟩, -⟩ := id LT1
    refine j_put (w' := _) dL_heardText_6 fL_114 tX9_1 og58 (Or.inl ⟨_, rfl⟩) rfl ?_
    refine j_seal (n := x) LT1.x1 ?_
    intro w2 u2
    have LT2 := LT1.out u2
    refine j_goto (tgt := 15) dL_heardText_9 (by decide) ?_
    refine j_iconst (v := 0) dL_heardText_15 (by decide) ?_
    refine j_iret dL_heardText_16 rfl rfl ?_ (Nat.le_of_ble_eq_true rfl) (Nat.le_of_ble_eq_true rfl)
    exact ⟨_, by rw [hk], LT2, fun _ => z_LT.of LT.x2 u2 ht1⟩
set_option maxRecDepth 100000 in
set_option maxHeartbeats 4000000 in
theorem lw_length (hl : l.stackTraces = false) (w : z_W) (x : Nat) (C M : sp_S) (n : Int64) (LT : z_LX x C M n w) (a0 : Int32) : z_Con G l mL_length 27 14 120 w [.ref 0, .int a0, .ref x] (fun v w9 => ∃ n9 : Int64, v = some (.int (t_length C a0)) ∧ z_LX x (k_length C a0) M n9 w9 ∧ (t_length C a0 = 0 → n9 = (a_length C a0).toInt64)) (fun _ _ => False) := by
  refine z_bodyW hl (by decide) (by decide) (Nat.le_of_ble_eq_true rfl) ?_
  show z_J G l mL_length _ 0 [(0, _), (1, _), (2, _)] [] _ 0 0
  refine j_aload_n dL_length_0 rfl rfl ?_
  refine j_aload_n dL_length_1 rfl rfl ?_
  refine j_iload_n dL_length_2 rfl ?_
  obtain ⟨fs59, gs59⟩ := LT.rc
  refine j_tryV (q := (RX8, TX8, 9)) dL_length_3 kX8_length lL_118 inX8_length seX8_length gs59 rfl (px_length hl w C LT.1.1 LT.1.2 a0) (Nat.le_of_ble_eq_true rfl) ⟨(Nat.le_of_ble_eq_true rfl), (Nat.le_of_ble_eq_true rfl)⟩ rfl (Nat.le_of_ble_eq_true rfl) rfl ?_ ?_
  · rintro E _ ⟨hE, rfl⟩
    obtain ⟨hE, hk⟩ := hE
    have hk : t_length C a0 = 1 := hk
    have hE : E = "java/lang/IndexOutOfBoundsException" := hE
    subst hE
    refine ⟨13, 14, ⟨[], (⟨0, 10, 13, 19⟩ : ExceptionTableEntry), _, "java/lang/IndexOutOfBoundsException", rfl, (fun z hz => by cases hz), by decide, by decide, (z_w 847 ((lwt_4_2 22).trans rfl) (by decide +kernel)), (z_wn 860 ((lwt_4_3 5).trans rfl) (by decide +kernel)), rfl⟩, Or.inr ⟨3, dL_length_13, by decide, rfl⟩, ?_⟩
    refine j_iconst (v := 1) dL_length_14 (by decide) ?_
    refine j_iret dL_length_15 rfl rfl ?_ (Nat.le_of_ble_eq_true rfl) (Nat.le_of_ble_eq_true rfl)
    exact ⟨_, by rw [hk], by unfold k_length; rw [if_neg (by rw [hk]; decide)]; exact LT, fun z => absurd (hk.symm.trans z) (by decide)⟩
  · rintro _ w1 ⟨hk, rfl, hW1, hh1⟩
    have hk : t_length C a0 = 0 := hk
    have LT1 : z_LX x (k_length C a0) M n w1 := LT.cls (by unfold k_length; rw [if_pos hk]; exact hW1) (okk_length _ LT.1.2) hh1
    refine j_i2l dL_length_6 ?_
    obtain ⟨-, -, ⟨ov60, og60⟩, -⟩ := id LT1
    refine j_put (w' := _) dL_length_7 fL_13 tX9_0 og60 ⟨rfl, rfl⟩ rfl ?_
    refine j_seal (n := x) LT1.x1 ?_
    intro w2 u2
    have LT2 := LT1.out u2
    refine j_goto (tgt := 16) dL_length_10 (by decide) ?_
    refine j_iconst (v := 0) dL_length_16 (by decide) ?_
    refine j_iret dL_length_17 rfl rfl ?_ (Nat.le_of_ble_eq_true rfl) (Nat.le_of_ble_eq_true rfl)
    exact ⟨_, by rw [hk], LT2, fun _ => rfl⟩
set_option maxRecDepth 100000 in
set_option maxHeartbeats 4000000 in
theorem lw_at (hl : l.stackTraces = false) (w : z_W) (x : Nat) (C M : sp_S) (n : Int64) (LT : z_LX x C M n w) (a0 : Int32) (a1 : Int32) : z_Con G l mL_at 27 14 120 w [.ref 0, .int a0, .int a1, .ref x] (fun v w9 => ∃ n9 : Int64, v = some (.int (t_at C a0 a1)) ∧ z_LX x (k_at C a0 a1) M n9 w9 ∧ (t_at C a0 a1 = 0 → n9 = (a_at C a0 a1).toInt64)) (fun _ _ => False) := by
  refine z_bodyW hl (by decide) (by decide) (Nat.le_of_ble_eq_true rfl) ?_
  show z_J G l mL_at _ 0 [(0, _), (1, _), (2, _), (3, _)] [] _ 0 0
  refine j_aload_n dL_at_0 rfl rfl ?_
  refine j_aload_n dL_at_1 rfl rfl ?_
  refine j_iload_n dL_at_2 rfl ?_
  refine j_iload_n dL_at_3 rfl ?_
  obtain ⟨fs61, gs61⟩ := LT.rc
  refine j_tryV (q := (RX8, TX8, 9)) dL_at_4 kX8_at lL_121 inX8_at seX8_at gs61 rfl (px_at hl w C LT.1.1 LT.1.2 a0 a1) (Nat.le_of_ble_eq_true rfl) ⟨(Nat.le_of_ble_eq_true rfl), (Nat.le_of_ble_eq_true rfl)⟩ rfl (Nat.le_of_ble_eq_true rfl) rfl ?_ ?_
  · rintro E _ ⟨hE, rfl⟩
    obtain ⟨hE, hk⟩ := hE
    have hk : t_at C a0 a1 = 1 := hk
    have hE : E = "java/lang/IndexOutOfBoundsException" := hE
    subst hE
    refine ⟨14, 16, ⟨[], (⟨0, 11, 14, 19⟩ : ExceptionTableEntry), _, "java/lang/IndexOutOfBoundsException", rfl, (fun z hz => by cases hz), by decide, by decide, (z_w 847 ((lwt_4_2 22).trans rfl) (by decide +kernel)), (z_wn 860 ((lwt_4_3 5).trans rfl) (by decide +kernel)), rfl⟩, Or.inl ⟨4, dL_at_14, by decide, rfl⟩, ?_⟩
    refine j_iconst (v := 1) dL_at_16 (by decide) ?_
    refine j_iret dL_at_17 rfl rfl ?_ (Nat.le_of_ble_eq_true rfl) (Nat.le_of_ble_eq_true rfl)
    exact ⟨_, by rw [hk], by unfold k_at; rw [if_neg (by rw [hk]; decide)]; exact LT, fun z => absurd (hk.symm.trans z) (by decide)⟩
  · rintro _ w1 ⟨hk, rfl, hW1, hh1⟩
    have hk : t_at C a0 a1 = 0 := hk
    have LT1 : z_LX x (k_at C a0 a1) M n w1 := LT.cls (by unfold k_at; rw [if_pos hk]; exact hW1) (okk_at _ _ LT.1.2) hh1
    refine j_i2l dL_at_7 ?_
    obtain ⟨-, -, ⟨ov62, og62⟩, -⟩ := id LT1
    refine j_put (w' := _) dL_at_8 fL_13 tX9_0 og62 ⟨rfl, rfl⟩ rfl ?_
    refine j_seal (n := x) LT1.x1 ?_
    intro w2 u2
    have LT2 := LT1.out u2
    refine j_goto (tgt := 18) dL_at_11 (by decide) ?_
    refine j_iconst (v := 0) dL_at_18 (by decide) ?_
    refine j_iret dL_at_19 rfl rfl ?_ (Nat.le_of_ble_eq_true rfl) (Nat.le_of_ble_eq_true rfl)
    exact ⟨_, by rw [hk], LT2, fun _ => rfl⟩
set_option maxRecDepth 100000 in
set_option maxHeartbeats 4000000 in
theorem lw_rowText (hl : l.stackTraces = false) (w : z_W) (x : Nat) (C M : sp_S) (n : Int64) (LT : z_LX x C M n w) (a0 : Int32) : z_Con G l mL_rowText 27 26 810 w [.ref 0, .int a0, .ref x] (fun v w9 => ∃ n9 : Int64, v = some (.int (q_k2 a0)) ∧ z_LX x C M n9 w9 ∧ (q_k2 a0 = 0 → z_LT x w9 (tx_jt (sp_R C (sp_i a0))))) (fun _ _ => False) := by
  refine z_bodyW hl (by decide) (by decide) (Nat.le_of_ble_eq_true rfl) ?_
  show z_J G l mL_rowText _ 0 [(0, _), (1, _), (2, _)] [] _ 0 0
  refine j_aload_n dL_rowText_0 rfl rfl ?_
  refine j_aload_n dL_rowText_1 rfl rfl ?_
  refine j_iload_n dL_rowText_2 rfl ?_
  obtain ⟨fs63, gs63⟩ := LT.rc
  refine j_tryV (q := (RX8, TX8, 9)) dL_rowText_3 kX8_rowText lL_124 inX8_rowText seX8_rowText gs63 rfl (pu_rowText hl w C a0 LT.1.1 LT.fn) (Nat.le_of_ble_eq_true rfl) ⟨(Nat.le_of_ble_eq_true rfl), (Nat.le_of_ble_eq_true rfl)⟩ rfl (Nat.le_of_ble_eq_true rfl) rfl ?_ ?_
  · rintro E _ ⟨⟨hE, hk⟩, rfl⟩
    have hE : E = "java/lang/IndexOutOfBoundsException" := hE
    subst hE
    refine ⟨12, 13, ⟨[], (⟨0, 9, 12, 19⟩ : ExceptionTableEntry), _, "java/lang/IndexOutOfBoundsException", rfl, (fun z hz => by cases hz), by decide, by decide, (z_w 847 ((lwt_4_2 22).trans rfl) (by decide +kernel)), (z_wn 860 ((lwt_4_3 5).trans rfl) (by decide +kernel)), rfl⟩, Or.inr ⟨3, dL_rowText_12, by decide, rfl⟩, ?_⟩
    refine j_iconst (v := 1) dL_rowText_13 (by decide) ?_
    refine j_iret dL_rowText_14 rfl rfl ?_ (Nat.le_of_ble_eq_true rfl) (Nat.le_of_ble_eq_true rfl)
    exact ⟨_, by rw [hk], LT, fun z => absurd (hk.symm.trans z) (by decide)⟩
  · rintro _ w1 ⟨hk, x1, rfl, lf1, ht1⟩
    have LT1 := LT.cl2 lf1
    obtain ⟨-, -, ⟨ov64, og64⟩, -⟩ := id LT1
    refine j_put (w' := _) dL_rowText_6 fL_114 tX9_1 og64 (Or.inl ⟨_, rfl⟩) rfl ?_
    refine j_seal (n := x) LT1.x1 ?_
    intro w2 u2
    have LT2 := LT1.out u2
    refine j_goto (tgt := 15) dL_rowText_9 (by decide) ?_
    refine j_iconst (v := 0) dL_rowText_15 (by decide) ?_
    refine j_iret dL_rowText_16 rfl rfl ?_ (Nat.le_of_ble_eq_true rfl) (Nat.le_of_ble_eq_true rfl)
    exact ⟨_, by rw [hk], LT2, fun _ => z_LT.of LT.x2 u2 ht1⟩
set_option maxRecDepth 100000 in
set_option maxHeartbeats 4000000 in
theorem lw_isFixed (hl : l.stackTraces = false) (w : z_W) (x : Nat) (C M : sp_S) (n : Int64) (LT : z_LX x C M n w) (a0 : Int32) : z_Con G l mL_isFixed 27 14 120 w [.ref 0, .int a0, .ref x] (fun v w9 => ∃ n9 : Int64, v = some (.int (t_isFixed C a0)) ∧ z_LX x (k_isFixed C a0) M n9 w9 ∧ (t_isFixed C a0 = 0 → n9 = (a_isFixed C a0).toInt64)) (fun _ _ => False) := by
  refine z_bodyW hl (by decide) (by decide) (Nat.le_of_ble_eq_true rfl) ?_
  show z_J G l mL_isFixed _ 0 [(0, _), (1, _), (2, _)] [] _ 0 0
  refine j_aload_n dL_isFixed_0 rfl rfl ?_
  refine j_aload_n dL_isFixed_1 rfl rfl ?_
  refine j_iload_n dL_isFixed_2 rfl ?_
  obtain ⟨fs65, gs65⟩ := LT.rc
  refine j_tryV (q := (RX8, TX8, 9)) dL_isFixed_3 kX8_isFixed lL_127 inX8_isFixed seX8_isFixed gs65 rfl (px_isFixed hl w C LT.1.1 LT.1.2 a0) (Nat.le_of_ble_eq_true rfl) ⟨(Nat.le_of_ble_eq_true rfl), (Nat.le_of_ble_eq_true rfl)⟩ rfl (Nat.le_of_ble_eq_true rfl) rfl ?_ ?_
  · rintro E _ ⟨hE, rfl⟩
    obtain ⟨hE, hk⟩ := hE
    have hk : t_isFixed C a0 = 1 := hk
    have hE : E = "java/lang/IndexOutOfBoundsException" := hE
    subst hE
    refine ⟨20, 21, ⟨[], (⟨0, 17, 20, 19⟩ : ExceptionTableEntry), _, "java/lang/IndexOutOfBoundsException", rfl, (fun z hz => by cases hz), by decide, by decide, (z_w 847 ((lwt_4_2 22).trans rfl) (by decide +kernel)), (z_wn 860 ((lwt_4_3 5).trans rfl) (by decide +kernel)), rfl⟩, Or.inr ⟨3, dL_isFixed_20, by decide, rfl⟩, ?_⟩
    refine j_iconst (v := 1) dL_isFixed_21 (by decide) ?_
    refine j_iret dL_isFixed_22 rfl rfl ?_ (Nat.le_of_ble_eq_true rfl) (Nat.le_of_ble_eq_true rfl)
    exact ⟨_, by rw [hk], by unfold k_isFixed; rw [if_neg (by rw [hk]; decide)]; exact LT, fun z => absurd (hk.symm.trans z) (by decide)⟩
  · rintro _ w1 ⟨hk, rfl, hW1, hh1⟩
    have hk : t_isFixed C a0 = 0 := hk
    have LT1 : z_LX x (k_isFixed C a0) M n w1 := LT.cls (by unfold k_isFixed; rw [if_pos hk]; exact hW1) (okk_isFixed _ LT.1.2) hh1
    refine j_if_eq (tgt := 13) dL_isFixed_6 (by decide) (fun c_6_19 => ?_) (fun c_6_19 => ?_)
    · refine j_lconst (v := 0) dL_isFixed_13 (by decide) ?_
      obtain ⟨-, -, ⟨ov66, og66⟩, -⟩ := id LT1
      refine j_put (w' := _) dL_isFixed_14 fL_13 tX9_0 og66 ⟨rfl, rfl⟩ rfl ?_
      refine j_seal (n := x) LT1.x1 ?_
      intro w2 u2
      have LT2 := LT1.out u2
      refine j_goto (tgt := 23) dL_isFixed_17 (by decide) ?_
      refine j_iconst (v := 0) dL_isFixed_23 (by decide) ?_
      refine j_iret dL_isFixed_24 rfl rfl ?_ (Nat.le_of_ble_eq_true rfl) (Nat.le_of_ble_eq_true rfl)
      first | exact ⟨_, by rw [hk], LT2, fun _ => by show _ = (z_bi _).toInt64; rw [z_bF c_6_19]; rfl⟩ | exact ⟨_, by rw [hk], LT2, fun _ => by show _ = (z_bi _).toInt64; rw [z_bt c_6_19]; rfl⟩
    · refine j_lconst (v := 1) dL_isFixed_9 (by decide) ?_
      refine j_goto (tgt := 14) dL_isFixed_10 (by decide) ?_
      obtain ⟨-, -, ⟨ov67, og67⟩, -⟩ := id LT1
      refine j_put (w' := _) dL_isFixed_14 fL_13 tX9_0 og67 ⟨rfl, rfl⟩ rfl ?_
      refine j_seal (n := x) LT1.x1 ?_
      intro w3 u3
      have LT3 := LT1.out u3
      refine j_goto (tgt := 23) dL_isFixed_17 (by decide) ?_
      refine j_iconst (v := 0) dL_isFixed_23 (by decide) ?_
      refine j_iret dL_isFixed_24 rfl rfl ?_ (Nat.le_of_ble_eq_true rfl) (Nat.le_of_ble_eq_true rfl)
      first | exact ⟨_, by rw [hk], LT3, fun _ => by show _ = (z_bi _).toInt64; rw [z_bF c_6_19]; rfl⟩ | exact ⟨_, by rw [hk], LT3, fun _ => by show _ = (z_bi _).toInt64; rw [z_bt c_6_19]; rfl⟩
set_option maxRecDepth 100000 in
set_option maxHeartbeats 4000000 in
theorem lw_counts (hl : l.stackTraces = false) (w : z_W) (x : Nat) (C M : sp_S) (n : Int64) (LT : z_LX x C M n w) (a0 : Int32) (a1 : Int32) : z_Con G l mL_counts 27 14 120 w [.ref 0, .int a0, .int a1, .ref x] (fun v w9 => ∃ n9 : Int64, v = some (.int (t_counts C a0 a1)) ∧ z_LX x (k_counts C a0 a1) M n9 w9 ∧ (t_counts C a0 a1 = 0 → n9 = (a_counts C a0 a1).toInt64)) (fun _ _ => False) := by
  refine z_bodyW hl (by decide) (by decide) (Nat.le_of_ble_eq_true rfl) ?_
  show z_J G l mL_counts _ 0 [(0, _), (1, _), (2, _), (3, _)] [] _ 0 0
  refine j_aload_n dL_counts_0 rfl rfl ?_
  refine j_aload_n dL_counts_1 rfl rfl ?_
  refine j_iload_n dL_counts_2 rfl ?_
  refine j_iload_n dL_counts_3 rfl ?_
  obtain ⟨fs68, gs68⟩ := LT.rc
  refine j_tryV (q := (RX8, TX8, 9)) dL_counts_4 kX8_counts lL_131 inX8_counts seX8_counts gs68 rfl (px_counts hl w C LT.1.1 LT.1.2 a0 a1) (Nat.le_of_ble_eq_true rfl) ⟨(Nat.le_of_ble_eq_true rfl), (Nat.le_of_ble_eq_true rfl)⟩ rfl (Nat.le_of_ble_eq_true rfl) rfl ?_ ?_
  · rintro E _ ⟨hE, rfl⟩
    rcases hE with hE | hE
    · obtain ⟨hE, hk⟩ := hE
      have hk : t_counts C a0 a1 = 1 := hk
      have hE : E = "java/lang/IndexOutOfBoundsException" := hE
      subst hE
      refine ⟨14, 16, ⟨[], (⟨0, 11, 14, 19⟩ : ExceptionTableEntry), _, "java/lang/IndexOutOfBoundsException", rfl, (fun z hz => by cases hz), by decide, by decide, (z_w 847 ((lwt_4_2 22).trans rfl) (by decide +kernel)), (z_wn 860 ((lwt_4_3 5).trans rfl) (by decide +kernel)), rfl⟩, Or.inl ⟨4, dL_counts_14, by decide, rfl⟩, ?_⟩
      refine j_iconst (v := 1) dL_counts_16 (by decide) ?_
      refine j_iret dL_counts_17 rfl rfl ?_ (Nat.le_of_ble_eq_true rfl) (Nat.le_of_ble_eq_true rfl)
      exact ⟨_, by rw [hk], by unfold k_counts; rw [if_neg (by rw [hk]; decide)]; exact LT, fun z => absurd (hk.symm.trans z) (by decide)⟩
    · obtain ⟨hE, hk⟩ := hE
      have hk : t_counts C a0 a1 = 2 := hk
      have hE : E = "java/lang/IllegalArgumentException" := hE
      subst hE
      refine ⟨18, 20, ⟨[(⟨0, 11, 14, 19⟩ : ExceptionTableEntry)], (⟨0, 11, 18, 21⟩ : ExceptionTableEntry), _, "java/lang/IllegalArgumentException", rfl, (fun z hz => by
          simp only [List.mem_cons, List.not_mem_nil, or_false] at hz
          rcases hz with rfl
          · exact Or.inr ⟨by decide, "java/lang/IndexOutOfBoundsException", (z_w 847 ((lwt_4_2 22).trans rfl) (by decide +kernel)), by decide⟩), by decide, by decide, (z_w 848 ((lwt_4_2 23).trans rfl) (by decide +kernel)), (z_wn 460 ((lwt_2_5 25).trans rfl) (by decide +kernel)), rfl⟩, Or.inl ⟨4, dL_counts_18, by decide, rfl⟩, ?_⟩
      refine j_iconst (v := 2) dL_counts_20 (by decide) ?_
      refine j_iret dL_counts_21 rfl rfl ?_ (Nat.le_of_ble_eq_true rfl) (Nat.le_of_ble_eq_true rfl)
      exact ⟨_, by rw [hk], by unfold k_counts; rw [if_neg (by rw [hk]; decide)]; exact LT, fun z => absurd (hk.symm.trans z) (by decide)⟩
  · rintro _ w1 ⟨hk, rfl, hW1, hh1⟩
    have hk : t_counts C a0 a1 = 0 := hk
    have LT1 : z_LX x (k_counts C a0 a1) M n w1 := LT.cls (by unfold k_counts; rw [if_pos hk]; exact hW1) (okk_counts _ _ LT.1.2) hh1
    refine j_i2l dL_counts_7 ?_
    obtain ⟨-, -, ⟨ov69, og69⟩, -⟩ := id LT1
    refine j_put (w' := _) dL_counts_8 fL_13 tX9_0 og69 ⟨rfl, rfl⟩ rfl ?_
    refine j_seal (n := x) LT1.x1 ?_
    intro w2 u2
    have LT2 := LT1.out u2
    refine j_goto (tgt := 22) dL_counts_11 (by decide) ?_
    refine j_iconst (v := 0) dL_counts_22 (by decide) ?_
    refine j_iret dL_counts_23 rfl rfl ?_ (Nat.le_of_ble_eq_true rfl) (Nat.le_of_ble_eq_true rfl)
    exact ⟨_, by rw [hk], LT2, fun _ => rfl⟩
set_option maxRecDepth 100000 in
set_option maxHeartbeats 4000000 in
theorem lw_shelfCounts (hl : l.stackTraces = false) (w : z_W) (x : Nat) (C M : sp_S) (n : Int64) (LT : z_LX x C M n w) (a0 : Int32) : z_Con G l mL_shelfCounts 27 14 120 w [.ref 0, .int a0, .ref x] (fun v w9 => ∃ n9 : Int64, v = some (.int (t_shelfCounts C a0)) ∧ z_LX x (k_shelfCounts C a0) M n9 w9 ∧ (t_shelfCounts C a0 = 0 → n9 = (a_shelfCounts C a0).toInt64)) (fun _ _ => False) := by
  refine z_bodyW hl (by decide) (by decide) (Nat.le_of_ble_eq_true rfl) ?_
  show z_J G l mL_shelfCounts _ 0 [(0, _), (1, _), (2, _)] [] _ 0 0
  refine j_aload_n dL_shelfCounts_0 rfl rfl ?_
  refine j_aload_n dL_shelfCounts_1 rfl rfl ?_
  refine j_iload_n dL_shelfCounts_2 rfl ?_
  obtain ⟨fs70, gs70⟩ := LT.rc
  refine j_tryV (q := (RX8, TX8, 9)) dL_shelfCounts_3 kX8_shelfCounts lL_134 inX8_shelfCounts seX8_shelfCounts gs70 rfl (px_shelfCounts hl w C LT.1.1 LT.1.2 a0) (Nat.le_of_ble_eq_true rfl) ⟨(Nat.le_of_ble_eq_true rfl), (Nat.le_of_ble_eq_true rfl)⟩ rfl (Nat.le_of_ble_eq_true rfl) rfl ?_ ?_
  · rintro E _ ⟨hE, rfl⟩
    obtain ⟨hE, hk⟩ := hE
    have hk : t_shelfCounts C a0 = 1 := hk
    have hE : E = "java/lang/IllegalArgumentException" := hE
    subst hE
    refine ⟨13, 14, ⟨[], (⟨0, 10, 13, 21⟩ : ExceptionTableEntry), _, "java/lang/IllegalArgumentException", rfl, (fun z hz => by cases hz), by decide, by decide, (z_w 848 ((lwt_4_2 23).trans rfl) (by decide +kernel)), (z_wn 460 ((lwt_2_5 25).trans rfl) (by decide +kernel)), rfl⟩, Or.inr ⟨3, dL_shelfCounts_13, by decide, rfl⟩, ?_⟩
    refine j_iconst (v := 1) dL_shelfCounts_14 (by decide) ?_
    refine j_iret dL_shelfCounts_15 rfl rfl ?_ (Nat.le_of_ble_eq_true rfl) (Nat.le_of_ble_eq_true rfl)
    exact ⟨_, by rw [hk], by unfold k_shelfCounts; rw [if_neg (by rw [hk]; decide)]; exact LT, fun z => absurd (hk.symm.trans z) (by decide)⟩
  · rintro _ w1 ⟨hk, rfl, hW1, hh1⟩
    have hk : t_shelfCounts C a0 = 0 := hk
    have LT1 : z_LX x (k_shelfCounts C a0) M n w1 := LT.cls (by unfold k_shelfCounts; rw [if_pos hk]; exact hW1) (okk_shelfCounts _ LT.1.2) hh1
    refine j_i2l dL_shelfCounts_6 ?_
    obtain ⟨-, -, ⟨ov71, og71⟩, -⟩ := id LT1
    refine j_put (w' := _) dL_shelfCounts_7 fL_13 tX9_0 og71 ⟨rfl, rfl⟩ rfl ?_
    refine j_seal (n := x) LT1.x1 ?_
    intro w2 u2
    have LT2 := LT1.out u2
    refine j_goto (tgt := 16) dL_shelfCounts_10 (by decide) ?_
    refine j_iconst (v := 0) dL_shelfCounts_16 (by decide) ?_
    refine j_iret dL_shelfCounts_17 rfl rfl ?_ (Nat.le_of_ble_eq_true rfl) (Nat.le_of_ble_eq_true rfl)
    exact ⟨_, by rw [hk], LT2, fun _ => rfl⟩
set_option maxRecDepth 100000 in
set_option maxHeartbeats 4000000 in
theorem lw_get (hl : l.stackTraces = false) (w : z_W) (x : Nat) (C M : sp_S) (n : Int64) (LT : z_LX x C M n w) (a0 : Int32) (a1 : Int32) : z_Con G l mL_get 27 14 120 w [.ref 0, .int a0, .int a1, .ref x] (fun v w9 => ∃ n9 : Int64, v = some (.int (t_get C a0 a1)) ∧ z_LX x (k_get C a0 a1) M n9 w9 ∧ (t_get C a0 a1 = 0 → n9 = (a_get C a0 a1).toInt64)) (fun _ _ => False) := by
  refine z_bodyW hl (by decide) (by decide) (Nat.le_of_ble_eq_true rfl) ?_
  show z_J G l mL_get _ 0 [(0, _), (1, _), (2, _), (3, _)] [] _ 0 0
  refine j_aload_n dL_get_0 rfl rfl ?_
  refine j_aload_n dL_get_1 rfl rfl ?_
  refine j_iload_n dL_get_2 rfl ?_
  refine j_iload_n dL_get_3 rfl ?_
  obtain ⟨fs72, gs72⟩ := LT.rc
  refine j_tryV (q := (RX8, TX8, 9)) dL_get_4 kX8_get lL_137 inX8_get seX8_get gs72 rfl (px_get hl w C LT.1.1 LT.1.2 a0 a1) (Nat.le_of_ble_eq_true rfl) ⟨(Nat.le_of_ble_eq_true rfl), (Nat.le_of_ble_eq_true rfl)⟩ rfl (Nat.le_of_ble_eq_true rfl) rfl ?_ ?_
  · rintro E _ ⟨hE, rfl⟩
    rcases hE with hE | hE
    · obtain ⟨hE, hk⟩ := hE
      have hk : t_get C a0 a1 = 1 := hk
      have hE : E = "java/lang/IndexOutOfBoundsException" := hE
      subst hE
      refine ⟨14, 16, ⟨[], (⟨0, 11, 14, 19⟩ : ExceptionTableEntry), _, "java/lang/IndexOutOfBoundsException", rfl, (fun z hz => by cases hz), by decide, by decide, (z_w 847 ((lwt_4_2 22).trans rfl) (by decide +kernel)), (z_wn 860 ((lwt_4_3 5).trans rfl) (by decide +kernel)), rfl⟩, Or.inl ⟨4, dL_get_14, by decide, rfl⟩, ?_⟩
      refine j_iconst (v := 1) dL_get_16 (by decide) ?_
      refine j_iret dL_get_17 rfl rfl ?_ (Nat.le_of_ble_eq_true rfl) (Nat.le_of_ble_eq_true rfl)
      exact ⟨_, by rw [hk], by unfold k_get; rw [if_neg (by rw [hk]; decide)]; exact LT, fun z => absurd (hk.symm.trans z) (by decide)⟩
    · obtain ⟨hE, hk⟩ := hE
      have hk : t_get C a0 a1 = 2 := hk
      have hE : E = "java/lang/IllegalArgumentException" := hE
      subst hE
      refine ⟨18, 20, ⟨[(⟨0, 11, 14, 19⟩ : ExceptionTableEntry)], (⟨0, 11, 18, 21⟩ : ExceptionTableEntry), _, "java/lang/IllegalArgumentException", rfl, (fun z hz => by
          simp only [List.mem_cons, List.not_mem_nil, or_false] at hz
          rcases hz with rfl
          · exact Or.inr ⟨by decide, "java/lang/IndexOutOfBoundsException", (z_w 847 ((lwt_4_2 22).trans rfl) (by decide +kernel)), by decide⟩), by decide, by decide, (z_w 848 ((lwt_4_2 23).trans rfl) (by decide +kernel)), (z_wn 460 ((lwt_2_5 25).trans rfl) (by decide +kernel)), rfl⟩, Or.inl ⟨4, dL_get_18, by decide, rfl⟩, ?_⟩
      refine j_iconst (v := 2) dL_get_20 (by decide) ?_
      refine j_iret dL_get_21 rfl rfl ?_ (Nat.le_of_ble_eq_true rfl) (Nat.le_of_ble_eq_true rfl)
      exact ⟨_, by rw [hk], by unfold k_get; rw [if_neg (by rw [hk]; decide)]; exact LT, fun z => absurd (hk.symm.trans z) (by decide)⟩
  · rintro _ w1 ⟨hk, rfl, hW1, hh1⟩
    have hk : t_get C a0 a1 = 0 := hk
    have LT1 : z_LX x (k_get C a0 a1) M n w1 := LT.cls (by unfold k_get; rw [if_pos hk]; exact hW1) (okk_get _ _ LT.1.2) hh1
    refine j_i2l dL_get_7 ?_
    obtain ⟨-, -, ⟨ov73, og73⟩, -⟩ := id LT1
    refine j_put (w' := _) dL_get_8 fL_13 tX9_0 og73 ⟨rfl, rfl⟩ rfl ?_
    refine j_seal (n := x) LT1.x1 ?_
    intro w2 u2
    have LT2 := LT1.out u2
    refine j_goto (tgt := 22) dL_get_11 (by decide) ?_
    refine j_iconst (v := 0) dL_get_22 (by decide) ?_
    refine j_iret dL_get_23 rfl rfl ?_ (Nat.le_of_ble_eq_true rfl) (Nat.le_of_ble_eq_true rfl)
    exact ⟨_, by rw [hk], LT2, fun _ => rfl⟩
set_option maxRecDepth 100000 in
set_option maxHeartbeats 4000000 in
theorem lw_getOr (hl : l.stackTraces = false) (w : z_W) (x : Nat) (C M : sp_S) (n : Int64) (LT : z_LX x C M n w) (a0 : Int32) (a1 : Int32) (a2 : Int32) : z_Con G l mL_getOr 27 14 120 w [.ref 0, .int a0, .int a1, .int a2, .ref x] (fun v w9 => ∃ n9 : Int64, v = some (.int (t_getOr C a0 a1 a2)) ∧ z_LX x (k_getOr C a0 a1 a2) M n9 w9 ∧ (t_getOr C a0 a1 a2 = 0 → n9 = (a_getOr C a0 a1 a2).toInt64)) (fun _ _ => False) := by
  refine z_bodyW hl (by decide) (by decide) (Nat.le_of_ble_eq_true rfl) ?_
  show z_J G l mL_getOr _ 0 [(0, _), (1, _), (2, _), (3, _), (4, _)] [] _ 0 0
  refine j_aload dL_getOr_0 rfl rfl ?_
  refine j_aload_n dL_getOr_2 rfl rfl ?_
  refine j_iload_n dL_getOr_3 rfl ?_
  refine j_iload_n dL_getOr_4 rfl ?_
  refine j_iload_n dL_getOr_5 rfl ?_
  obtain ⟨fs74, gs74⟩ := LT.rc
  refine j_tryV (q := (RX8, TX8, 9)) dL_getOr_6 kX8_getOr lL_140 inX8_getOr seX8_getOr gs74 rfl (px_getOr hl w C LT.1.1 LT.1.2 a0 a1 a2) (Nat.le_of_ble_eq_true rfl) ⟨(Nat.le_of_ble_eq_true rfl), (Nat.le_of_ble_eq_true rfl)⟩ rfl (Nat.le_of_ble_eq_true rfl) rfl ?_ ?_
  · rintro E _ ⟨hE, rfl⟩
    rcases hE with hE | hE
    · obtain ⟨hE, hk⟩ := hE
      have hk : t_getOr C a0 a1 a2 = 1 := hk
      have hE : E = "java/lang/IndexOutOfBoundsException" := hE
      subst hE
      refine ⟨16, 18, ⟨[], (⟨0, 13, 16, 19⟩ : ExceptionTableEntry), _, "java/lang/IndexOutOfBoundsException", rfl, (fun z hz => by cases hz), by decide, by decide, (z_w 847 ((lwt_4_2 22).trans rfl) (by decide +kernel)), (z_wn 860 ((lwt_4_3 5).trans rfl) (by decide +kernel)), rfl⟩, Or.inl ⟨5, dL_getOr_16, by decide, rfl⟩, ?_⟩
      refine j_iconst (v := 1) dL_getOr_18 (by decide) ?_
      refine j_iret dL_getOr_19 rfl rfl ?_ (Nat.le_of_ble_eq_true rfl) (Nat.le_of_ble_eq_true rfl)
      exact ⟨_, by rw [hk], by unfold k_getOr; rw [if_neg (by rw [hk]; decide)]; exact LT, fun z => absurd (hk.symm.trans z) (by decide)⟩
    · obtain ⟨hE, hk⟩ := hE
      have hk : t_getOr C a0 a1 a2 = 2 := hk
      have hE : E = "java/lang/IllegalArgumentException" := hE
      subst hE
      refine ⟨20, 22, ⟨[(⟨0, 13, 16, 19⟩ : ExceptionTableEntry)], (⟨0, 13, 20, 21⟩ : ExceptionTableEntry), _, "java/lang/IllegalArgumentException", rfl, (fun z hz => by
          simp only [List.mem_cons, List.not_mem_nil, or_false] at hz
          rcases hz with rfl
          · exact Or.inr ⟨by decide, "java/lang/IndexOutOfBoundsException", (z_w 847 ((lwt_4_2 22).trans rfl) (by decide +kernel)), by decide⟩), by decide, by decide, (z_w 848 ((lwt_4_2 23).trans rfl) (by decide +kernel)), (z_wn 460 ((lwt_2_5 25).trans rfl) (by decide +kernel)), rfl⟩, Or.inl ⟨5, dL_getOr_20, by decide, rfl⟩, ?_⟩
      refine j_iconst (v := 2) dL_getOr_22 (by decide) ?_
      refine j_iret dL_getOr_23 rfl rfl ?_ (Nat.le_of_ble_eq_true rfl) (Nat.le_of_ble_eq_true rfl)
      exact ⟨_, by rw [hk], by unfold k_getOr; rw [if_neg (by rw [hk]; decide)]; exact LT, fun z => absurd (hk.symm.trans z) (by decide)⟩
  · rintro _ w1 ⟨hk, rfl, hW1, hh1⟩
    have hk : t_getOr C a0 a1 a2 = 0 := hk
    have LT1 : z_LX x (k_getOr C a0 a1 a2) M n w1 := LT.cls (by unfold k_getOr; rw [if_pos hk]; exact hW1) (okk_getOr _ _ _ LT.1.2) hh1
    refine j_i2l dL_getOr_9 ?_
    obtain ⟨-, -, ⟨ov75, og75⟩, -⟩ := id LT1
    refine j_put (w' := _) dL_getOr_10 fL_13 tX9_0 og75 ⟨rfl, rfl⟩ rfl ?_
    refine j_seal (n := x) LT1.x1 ?_
    intro w2 u2
    have LT2 := LT1.out u2
    refine j_goto (tgt := 24) dL_getOr_13 (by decide) ?_
    refine j_iconst (v := 0) dL_getOr_24 (by decide) ?_
    refine j_iret dL_getOr_25 rfl rfl ?_ (Nat.le_of_ble_eq_true rfl) (Nat.le_of_ble_eq_true rfl)
    exact ⟨_, by rw [hk], LT2, fun _ => rfl⟩
set_option maxRecDepth 100000 in
set_option maxHeartbeats 4000000 in
theorem lw_has (hl : l.stackTraces = false) (w : z_W) (x : Nat) (C M : sp_S) (n : Int64) (LT : z_LX x C M n w) (a0 : Int32) (a1 : Int32) : z_Con G l mL_has 27 14 120 w [.ref 0, .int a0, .int a1, .ref x] (fun v w9 => ∃ n9 : Int64, v = some (.int (t_has C a0 a1)) ∧ z_LX x (k_has C a0 a1) M n9 w9 ∧ (t_has C a0 a1 = 0 → n9 = (a_has C a0 a1).toInt64)) (fun _ _ => False) := by
  refine z_bodyW hl (by decide) (by decide) (Nat.le_of_ble_eq_true rfl) ?_
  show z_J G l mL_has _ 0 [(0, _), (1, _), (2, _), (3, _)] [] _ 0 0
  refine j_aload_n dL_has_0 rfl rfl ?_
  refine j_aload_n dL_has_1 rfl rfl ?_
  refine j_iload_n dL_has_2 rfl ?_
  refine j_iload_n dL_has_3 rfl ?_
  obtain ⟨fs76, gs76⟩ := LT.rc
  refine j_tryV (q := (RX8, TX8, 9)) dL_has_4 kX8_has lL_143 inX8_has seX8_has gs76 rfl (px_has hl w C LT.1.1 LT.1.2 a0 a1) (Nat.le_of_ble_eq_true rfl) ⟨(Nat.le_of_ble_eq_true rfl), (Nat.le_of_ble_eq_true rfl)⟩ rfl (Nat.le_of_ble_eq_true rfl) rfl ?_ ?_
  · rintro E _ ⟨hE, rfl⟩
    rcases hE with hE | hE
    · obtain ⟨hE, hk⟩ := hE
      have hk : t_has C a0 a1 = 1 := hk
      have hE : E = "java/lang/IndexOutOfBoundsException" := hE
      subst hE
      refine ⟨21, 23, ⟨[], (⟨0, 18, 21, 19⟩ : ExceptionTableEntry), _, "java/lang/IndexOutOfBoundsException", rfl, (fun z hz => by cases hz), by decide, by decide, (z_w 847 ((lwt_4_2 22).trans rfl) (by decide +kernel)), (z_wn 860 ((lwt_4_3 5).trans rfl) (by decide +kernel)), rfl⟩, Or.inl ⟨4, dL_has_21, by decide, rfl⟩, ?_⟩
      refine j_iconst (v := 1) dL_has_23 (by decide) ?_
      refine j_iret dL_has_24 rfl rfl ?_ (Nat.le_of_ble_eq_true rfl) (Nat.le_of_ble_eq_true rfl)
      exact ⟨_, by rw [hk], by unfold k_has; rw [if_neg (by rw [hk]; decide)]; exact LT, fun z => absurd (hk.symm.trans z) (by decide)⟩
    · obtain ⟨hE, hk⟩ := hE
      have hk : t_has C a0 a1 = 2 := hk
      have hE : E = "java/lang/IllegalArgumentException" := hE
      subst hE
      refine ⟨25, 27, ⟨[(⟨0, 18, 21, 19⟩ : ExceptionTableEntry)], (⟨0, 18, 25, 21⟩ : ExceptionTableEntry), _, "java/lang/IllegalArgumentException", rfl, (fun z hz => by
          simp only [List.mem_cons, List.not_mem_nil, or_false] at hz
          rcases hz with rfl
          · exact Or.inr ⟨by decide, "java/lang/IndexOutOfBoundsException", (z_w 847 ((lwt_4_2 22).trans rfl) (by decide +kernel)), by decide⟩), by decide, by decide, (z_w 848 ((lwt_4_2 23).trans rfl) (by decide +kernel)), (z_wn 460 ((lwt_2_5 25).trans rfl) (by decide +kernel)), rfl⟩, Or.inl ⟨4, dL_has_25, by decide, rfl⟩, ?_⟩
      refine j_iconst (v := 2) dL_has_27 (by decide) ?_
      refine j_iret dL_has_28 rfl rfl ?_ (Nat.le_of_ble_eq_true rfl) (Nat.le_of_ble_eq_true rfl)
      exact ⟨_, by rw [hk], by unfold k_has; rw [if_neg (by rw [hk]; decide)]; exact LT, fun z => absurd (hk.symm.trans z) (by decide)⟩
  · rintro _ w1 ⟨hk, rfl, hW1, hh1⟩
    have hk : t_has C a0 a1 = 0 := hk
    have LT1 : z_LX x (k_has C a0 a1) M n w1 := LT.cls (by unfold k_has; rw [if_pos hk]; exact hW1) (okk_has _ _ LT.1.2) hh1
    refine j_if_eq (tgt := 14) dL_has_7 (by decide) (fun c_7_29 => ?_) (fun c_7_29 => ?_)
    · refine j_lconst (v := 0) dL_has_14 (by decide) ?_
      obtain ⟨-, -, ⟨ov77, og77⟩, -⟩ := id LT1
      refine j_put (w' := _) dL_has_15 fL_13 tX9_0 og77 ⟨rfl, rfl⟩ rfl ?_
      refine j_seal (n := x) LT1.x1 ?_
      intro w2 u2
      have LT2 := LT1.out u2
      refine j_goto (tgt := 29) dL_has_18 (by decide) ?_
      refine j_iconst (v := 0) dL_has_29 (by decide) ?_
      refine j_iret dL_has_30 rfl rfl ?_ (Nat.le_of_ble_eq_true rfl) (Nat.le_of_ble_eq_true rfl)
      first | exact ⟨_, by rw [hk], LT2, fun _ => by show _ = (z_bi _).toInt64; rw [z_bF c_7_29]; rfl⟩ | exact ⟨_, by rw [hk], LT2, fun _ => by show _ = (z_bi _).toInt64; rw [z_bt c_7_29]; rfl⟩
    · refine j_lconst (v := 1) dL_has_10 (by decide) ?_
      refine j_goto (tgt := 15) dL_has_11 (by decide) ?_
      obtain ⟨-, -, ⟨ov78, og78⟩, -⟩ := id LT1
      refine j_put (w' := _) dL_has_15 fL_13 tX9_0 og78 ⟨rfl, rfl⟩ rfl ?_
      refine j_seal (n := x) LT1.x1 ?_
      intro w3 u3
      have LT3 := LT1.out u3
      refine j_goto (tgt := 29) dL_has_18 (by decide) ?_
      refine j_iconst (v := 0) dL_has_29 (by decide) ?_
      refine j_iret dL_has_30 rfl rfl ?_ (Nat.le_of_ble_eq_true rfl) (Nat.le_of_ble_eq_true rfl)
      first | exact ⟨_, by rw [hk], LT3, fun _ => by show _ = (z_bi _).toInt64; rw [z_bF c_7_29]; rfl⟩ | exact ⟨_, by rw [hk], LT3, fun _ => by show _ = (z_bi _).toInt64; rw [z_bt c_7_29]; rfl⟩
set_option maxRecDepth 100000 in
set_option maxHeartbeats 4000000 in
theorem lw_size (hl : l.stackTraces = false) (w : z_W) (x : Nat) (C M : sp_S) (n : Int64) (LT : z_LX x C M n w) (a0 : Int32) : z_Con G l mL_size 27 14 120 w [.ref 0, .int a0, .ref x] (fun v w9 => ∃ n9 : Int64, v = some (.int (t_size C a0)) ∧ z_LX x (k_size C a0) M n9 w9 ∧ (t_size C a0 = 0 → n9 = (a_size C a0).toInt64)) (fun _ _ => False) := by
  refine z_bodyW hl (by decide) (by decide) (Nat.le_of_ble_eq_true rfl) ?_
  show z_J G l mL_size _ 0 [(0, _), (1, _), (2, _)] [] _ 0 0
  refine j_aload_n dL_size_0 rfl rfl ?_
  refine j_aload_n dL_size_1 rfl rfl ?_
  refine j_iload_n dL_size_2 rfl ?_
  obtain ⟨fs79, gs79⟩ := LT.rc
  refine j_tryV (q := (RX8, TX8, 9)) dL_size_3 kX8_size lL_147 inX8_size seX8_size gs79 rfl (px_size hl w C LT.1.1 LT.1.2 a0) (Nat.le_of_ble_eq_true rfl) ⟨(Nat.le_of_ble_eq_true rfl), (Nat.le_of_ble_eq_true rfl)⟩ rfl (Nat.le_of_ble_eq_true rfl) rfl ?_ ?_
  · rintro E _ ⟨hE, rfl⟩
    obtain ⟨hE, hk⟩ := hE
    have hk : t_size C a0 = 1 := hk
    have hE : E = "java/lang/IndexOutOfBoundsException" := hE
    subst hE
    refine ⟨13, 14, ⟨[], (⟨0, 10, 13, 19⟩ : ExceptionTableEntry), _, "java/lang/IndexOutOfBoundsException", rfl, (fun z hz => by cases hz), by decide, by decide, (z_w 847 ((lwt_4_2 22).trans rfl) (by decide +kernel)), (z_wn 860 ((lwt_4_3 5).trans rfl) (by decide +kernel)), rfl⟩, Or.inr ⟨3, dL_size_13, by decide, rfl⟩, ?_⟩
    refine j_iconst (v := 1) dL_size_14 (by decide) ?_
    refine j_iret dL_size_15 rfl rfl ?_ (Nat.le_of_ble_eq_true rfl) (Nat.le_of_ble_eq_true rfl)
    exact ⟨_, by rw [hk], by unfold k_size; rw [if_neg (by rw [hk]; decide)]; exact LT, fun z => absurd (hk.symm.trans z) (by decide)⟩
  · rintro _ w1 ⟨hk, rfl, hW1, hh1⟩
    have hk : t_size C a0 = 0 := hk
    have LT1 : z_LX x (k_size C a0) M n w1 := LT.cls (by unfold k_size; rw [if_pos hk]; exact hW1) (okk_size _ LT.1.2) hh1
    refine j_i2l dL_size_6 ?_
    obtain ⟨-, -, ⟨ov80, og80⟩, -⟩ := id LT1
    refine j_put (w' := _) dL_size_7 fL_13 tX9_0 og80 ⟨rfl, rfl⟩ rfl ?_
    refine j_seal (n := x) LT1.x1 ?_
    intro w2 u2
    have LT2 := LT1.out u2
    refine j_goto (tgt := 16) dL_size_10 (by decide) ?_
    refine j_iconst (v := 0) dL_size_16 (by decide) ?_
    refine j_iret dL_size_17 rfl rfl ?_ (Nat.le_of_ble_eq_true rfl) (Nat.le_of_ble_eq_true rfl)
    exact ⟨_, by rw [hk], LT2, fun _ => rfl⟩
set_option maxRecDepth 100000 in
set_option maxHeartbeats 4000000 in
theorem lw_text (hl : l.stackTraces = false) (w : z_W) (x : Nat) (C M : sp_S) (n : Int64) (LT : z_LX x C M n w) (a0 : Int32) : z_Con G l mL_text 27 68 2460 w [.ref 0, .int a0, .ref x] (fun v w9 => ∃ n9 : Int64, v = some (.int (sp_k3 a0)) ∧ z_LX x C M n9 w9 ∧ (sp_k3 a0 = 0 → z_LT x w9 (tx_pt (sp_T C (sp_i a0))))) (fun _ _ => False) := by
  refine z_bodyW hl (by decide) (by decide) (Nat.le_of_ble_eq_true rfl) ?_
  show z_J G l mL_text _ 0 [(0, _), (1, _), (2, _)] [] _ 0 0
  refine j_aload_n dL_text_0 rfl rfl ?_
  refine j_aload_n dL_text_1 rfl rfl ?_
  refine j_iload_n dL_text_2 rfl ?_
  obtain ⟨fs81, gs81⟩ := LT.rc
  refine j_tryV (q := (RX8, TX8, 9)) dL_text_3 kX8_text lL_150 inX8_text seX8_text gs81 rfl (pu_text hl w C a0 LT.1.1 LT.fn) (Nat.le_of_ble_eq_true rfl) ⟨(Nat.le_of_ble_eq_true rfl), (Nat.le_of_ble_eq_true rfl)⟩ rfl (Nat.le_of_ble_eq_true rfl) rfl ?_ ?_
  · rintro E _ ⟨⟨hE, hk⟩, rfl⟩
    have hE : E = "java/lang/IndexOutOfBoundsException" := hE
    subst hE
    refine ⟨12, 13, ⟨[], (⟨0, 9, 12, 19⟩ : ExceptionTableEntry), _, "java/lang/IndexOutOfBoundsException", rfl, (fun z hz => by cases hz), by decide, by decide, (z_w 847 ((lwt_4_2 22).trans rfl) (by decide +kernel)), (z_wn 860 ((lwt_4_3 5).trans rfl) (by decide +kernel)), rfl⟩, Or.inr ⟨3, dL_text_12, by decide, rfl⟩, ?_⟩
    refine j_iconst (v := 1) dL_text_13 (by decide) ?_
    refine j_iret dL_text_14 rfl rfl ?_ (Nat.le_of_ble_eq_true rfl) (Nat.le_of_ble_eq_true rfl)
    exact ⟨_, by rw [hk], LT, fun z => absurd (hk.symm.trans z) (by decide)⟩
  · rintro _ w1 ⟨hk, x1, rfl, lf1, ht1⟩
    have LT1 := LT.cl2 lf1
    obtain ⟨-, -, ⟨ov82, og82⟩, -⟩ := id LT1
    refine j_put (w' := _) dL_text_6 fL_114 tX9_1 og82 (Or.inl ⟨_, rfl⟩) rfl ?_
    refine j_seal (n := x) LT1.x1 ?_
    intro w2 u2
    have LT2 := LT1.out u2
    refine j_goto (tgt := 15) dL_text_9 (by decide) ?_
    refine j_iconst (v := 0) dL_text_15 (by decide) ?_
    refine j_iret dL_text_16 rfl rfl ?_ (Nat.le_of_ble_eq_true rfl) (Nat.le_of_ble_eq_true rfl)
    exact ⟨_, by rw [hk], LT2, fun _ => z_LT.of LT.x2 u2 ht1⟩
set_option maxRecDepth 100000 in
set_option maxHeartbeats 4000000 in
theorem lw_areLike (hl : l.stackTraces = false) (w : z_W) (x : Nat) (C M : sp_S) (n : Int64) (LT : z_LX x C M n w) (a0 : Int32) (a1 : Int32) : z_Con G l mL_areLike 27 14 120 w [.ref 0, .int a0, .int a1, .ref x] (fun v w9 => ∃ n9 : Int64, v = some (.int (t_areLike C a0 a1)) ∧ z_LX x (k_areLike C a0 a1) M n9 w9 ∧ (t_areLike C a0 a1 = 0 → n9 = (a_areLike C a0 a1).toInt64)) (fun _ _ => False) := by
  refine z_bodyW hl (by decide) (by decide) (Nat.le_of_ble_eq_true rfl) ?_
  show z_J G l mL_areLike _ 0 [(0, _), (1, _), (2, _), (3, _)] [] _ 0 0
  refine j_aload_n dL_areLike_0 rfl rfl ?_
  refine j_aload_n dL_areLike_1 rfl rfl ?_
  refine j_iload_n dL_areLike_2 rfl ?_
  refine j_iload_n dL_areLike_3 rfl ?_
  obtain ⟨fs83, gs83⟩ := LT.rc
  refine j_tryV (q := (RX8, TX8, 9)) dL_areLike_4 kX8_areLike lL_153 inX8_areLike seX8_areLike gs83 rfl (px_areLike hl w C LT.1.1 LT.1.2 a0 a1) (Nat.le_of_ble_eq_true rfl) ⟨(Nat.le_of_ble_eq_true rfl), (Nat.le_of_ble_eq_true rfl)⟩ rfl (Nat.le_of_ble_eq_true rfl) rfl ?_ ?_
  · rintro E _ ⟨hE, rfl⟩
    obtain ⟨hE, hk⟩ := hE
    have hk : t_areLike C a0 a1 = 1 := hk
    have hE : E = "java/lang/IndexOutOfBoundsException" := hE
    subst hE
    refine ⟨21, 23, ⟨[], (⟨0, 18, 21, 19⟩ : ExceptionTableEntry), _, "java/lang/IndexOutOfBoundsException", rfl, (fun z hz => by cases hz), by decide, by decide, (z_w 847 ((lwt_4_2 22).trans rfl) (by decide +kernel)), (z_wn 860 ((lwt_4_3 5).trans rfl) (by decide +kernel)), rfl⟩, Or.inl ⟨4, dL_areLike_21, by decide, rfl⟩, ?_⟩
    refine j_iconst (v := 1) dL_areLike_23 (by decide) ?_
    refine j_iret dL_areLike_24 rfl rfl ?_ (Nat.le_of_ble_eq_true rfl) (Nat.le_of_ble_eq_true rfl)
    exact ⟨_, by rw [hk], by unfold k_areLike; rw [if_neg (by rw [hk]; decide)]; exact LT, fun z => absurd (hk.symm.trans z) (by decide)⟩
  · rintro _ w1 ⟨hk, rfl, hW1, hh1⟩
    have hk : t_areLike C a0 a1 = 0 := hk
    have LT1 : z_LX x (k_areLike C a0 a1) M n w1 := LT.cls (by unfold k_areLike; rw [if_pos hk]; exact hW1) (okk_areLike _ _ LT.1.2) hh1
    refine j_if_eq (tgt := 14) dL_areLike_7 (by decide) (fun c_7_20 => ?_) (fun c_7_20 => ?_)
    · refine j_lconst (v := 0) dL_areLike_14 (by decide) ?_
      obtain ⟨-, -, ⟨ov84, og84⟩, -⟩ := id LT1
      refine j_put (w' := _) dL_areLike_15 fL_13 tX9_0 og84 ⟨rfl, rfl⟩ rfl ?_
      refine j_seal (n := x) LT1.x1 ?_
      intro w2 u2
      have LT2 := LT1.out u2
      refine j_goto (tgt := 25) dL_areLike_18 (by decide) ?_
      refine j_iconst (v := 0) dL_areLike_25 (by decide) ?_
      refine j_iret dL_areLike_26 rfl rfl ?_ (Nat.le_of_ble_eq_true rfl) (Nat.le_of_ble_eq_true rfl)
      first | exact ⟨_, by rw [hk], LT2, fun _ => by show _ = (z_bi _).toInt64; rw [z_bF c_7_20]; rfl⟩ | exact ⟨_, by rw [hk], LT2, fun _ => by show _ = (z_bi _).toInt64; rw [z_bt c_7_20]; rfl⟩
    · refine j_lconst (v := 1) dL_areLike_10 (by decide) ?_
      refine j_goto (tgt := 15) dL_areLike_11 (by decide) ?_
      obtain ⟨-, -, ⟨ov85, og85⟩, -⟩ := id LT1
      refine j_put (w' := _) dL_areLike_15 fL_13 tX9_0 og85 ⟨rfl, rfl⟩ rfl ?_
      refine j_seal (n := x) LT1.x1 ?_
      intro w3 u3
      have LT3 := LT1.out u3
      refine j_goto (tgt := 25) dL_areLike_18 (by decide) ?_
      refine j_iconst (v := 0) dL_areLike_25 (by decide) ?_
      refine j_iret dL_areLike_26 rfl rfl ?_ (Nat.le_of_ble_eq_true rfl) (Nat.le_of_ble_eq_true rfl)
      first | exact ⟨_, by rw [hk], LT3, fun _ => by show _ = (z_bi _).toInt64; rw [z_bF c_7_20]; rfl⟩ | exact ⟨_, by rw [hk], LT3, fun _ => by show _ = (z_bi _).toInt64; rw [z_bt c_7_20]; rfl⟩
set_option maxRecDepth 100000 in
set_option maxHeartbeats 4000000 in
theorem lw_given (hl : l.stackTraces = false) (w : z_W) (x : Nat) (C M : sp_S) (n : Int64) (LT : z_LX x C M n w) (a0 : Int32) (a1 : Int32) (a2 : Int32) (a3 : Int32) : z_Con G l mL_given 27 14 120 w [.ref 0, .int a0, .int a1, .int a2, .int a3, .ref x] (fun v w9 => ∃ n9 : Int64, v = some (.int (t_given C a0 a1 a2 a3)) ∧ z_LX x (k_given C a0 a1 a2 a3) M n9 w9 ∧ (t_given C a0 a1 a2 a3 = 0 → n9 = (a_given C a0 a1 a2 a3).toInt64)) (fun _ _ => False) := by
  refine z_bodyW hl (by decide) (by decide) (Nat.le_of_ble_eq_true rfl) ?_
  show z_J G l mL_given _ 0 [(0, _), (1, _), (2, _), (3, _), (4, _), (5, _)] [] _ 0 0
  refine j_aload dL_given_0 rfl rfl ?_
  refine j_aload_n dL_given_2 rfl rfl ?_
  refine j_iload_n dL_given_3 rfl ?_
  refine j_iload_n dL_given_4 rfl ?_
  refine j_iload_n dL_given_5 rfl ?_
  refine j_iload dL_given_6 rfl ?_
  obtain ⟨fs86, gs86⟩ := LT.rc
  refine j_tryV (q := (RX8, TX8, 9)) dL_given_8 kX8_given lL_156 inX8_given seX8_given gs86 rfl (px_given hl w C LT.1.1 LT.1.2 a0 a1 a2 a3) (Nat.le_of_ble_eq_true rfl) ⟨(Nat.le_of_ble_eq_true rfl), (Nat.le_of_ble_eq_true rfl)⟩ rfl (Nat.le_of_ble_eq_true rfl) rfl ?_ ?_
  · rintro E _ ⟨hE, rfl⟩
    obtain ⟨hE, hk⟩ := hE
    have hk : t_given C a0 a1 a2 a3 = 1 := hk
    have hE : E = "java/lang/IllegalArgumentException" := hE
    subst hE
    refine ⟨18, 20, ⟨[], (⟨0, 15, 18, 21⟩ : ExceptionTableEntry), _, "java/lang/IllegalArgumentException", rfl, (fun z hz => by cases hz), by decide, by decide, (z_w 848 ((lwt_4_2 23).trans rfl) (by decide +kernel)), (z_wn 460 ((lwt_2_5 25).trans rfl) (by decide +kernel)), rfl⟩, Or.inl ⟨6, dL_given_18, by decide, rfl⟩, ?_⟩
    refine j_iconst (v := 1) dL_given_20 (by decide) ?_
    refine j_iret dL_given_21 rfl rfl ?_ (Nat.le_of_ble_eq_true rfl) (Nat.le_of_ble_eq_true rfl)
    exact ⟨_, by rw [hk], by unfold k_given; rw [if_neg (by rw [hk]; decide)]; exact LT, fun z => absurd (hk.symm.trans z) (by decide)⟩
  · rintro _ w1 ⟨hk, rfl, hW1, hh1⟩
    have hk : t_given C a0 a1 a2 a3 = 0 := hk
    have LT1 : z_LX x (k_given C a0 a1 a2 a3) M n w1 := LT.cls (by unfold k_given; rw [if_pos hk]; exact hW1) (okk_given _ _ _ _ LT.1.2) hh1
    refine j_i2l dL_given_11 ?_
    obtain ⟨-, -, ⟨ov87, og87⟩, -⟩ := id LT1
    refine j_put (w' := _) dL_given_12 fL_13 tX9_0 og87 ⟨rfl, rfl⟩ rfl ?_
    refine j_seal (n := x) LT1.x1 ?_
    intro w2 u2
    have LT2 := LT1.out u2
    refine j_goto (tgt := 22) dL_given_15 (by decide) ?_
    refine j_iconst (v := 0) dL_given_22 (by decide) ?_
    refine j_iret dL_given_23 rfl rfl ?_ (Nat.le_of_ble_eq_true rfl) (Nat.le_of_ble_eq_true rfl)
    exact ⟨_, by rw [hk], LT2, fun _ => rfl⟩
set_option maxRecDepth 100000 in
set_option maxHeartbeats 4000000 in
theorem lw_tested (hl : l.stackTraces = false) (w : z_W) (x : Nat) (C M : sp_S) (n : Int64) (LT : z_LX x C M n w) (a0 : Int32) (a1 : Int32) (a2 : Int32) : z_Con G l mL_tested 27 14 120 w [.ref 0, .int a0, .int a1, .int a2, .ref x] (fun v w9 => ∃ n9 : Int64, v = some (.int (t_tested C a0 a1 a2)) ∧ z_LX x (k_tested C a0 a1 a2) M n9 w9 ∧ (t_tested C a0 a1 a2 = 0 → n9 = (a_tested C a0 a1 a2).toInt64)) (fun _ _ => False) := by
  refine z_bodyW hl (by decide) (by decide) (Nat.le_of_ble_eq_true rfl) ?_
  show z_J G l mL_tested _ 0 [(0, _), (1, _), (2, _), (3, _), (4, _)] [] _ 0 0
  refine j_aload dL_tested_0 rfl rfl ?_
  refine j_aload_n dL_tested_2 rfl rfl ?_
  refine j_iload_n dL_tested_3 rfl ?_
  refine j_iload_n dL_tested_4 rfl ?_
  refine j_iload_n dL_tested_5 rfl ?_
  obtain ⟨fs88, gs88⟩ := LT.rc
  refine j_tryV (q := (RX8, TX8, 9)) dL_tested_6 kX8_tested lL_159 inX8_tested seX8_tested gs88 rfl (px_tested hl w C LT.1.1 LT.1.2 a0 a1 a2) (Nat.le_of_ble_eq_true rfl) ⟨(Nat.le_of_ble_eq_true rfl), (Nat.le_of_ble_eq_true rfl)⟩ rfl (Nat.le_of_ble_eq_true rfl) rfl ?_ ?_
  · rintro E _ ⟨hE, rfl⟩
    obtain ⟨hE, hk⟩ := hE
    have hk : t_tested C a0 a1 a2 = 1 := hk
    have hE : E = "java/lang/IllegalArgumentException" := hE
    subst hE
    refine ⟨16, 18, ⟨[], (⟨0, 13, 16, 21⟩ : ExceptionTableEntry), _, "java/lang/IllegalArgumentException", rfl, (fun z hz => by cases hz), by decide, by decide, (z_w 848 ((lwt_4_2 23).trans rfl) (by decide +kernel)), (z_wn 460 ((lwt_2_5 25).trans rfl) (by decide +kernel)), rfl⟩, Or.inl ⟨5, dL_tested_16, by decide, rfl⟩, ?_⟩
    refine j_iconst (v := 1) dL_tested_18 (by decide) ?_
    refine j_iret dL_tested_19 rfl rfl ?_ (Nat.le_of_ble_eq_true rfl) (Nat.le_of_ble_eq_true rfl)
    exact ⟨_, by rw [hk], by unfold k_tested; rw [if_neg (by rw [hk]; decide)]; exact LT, fun z => absurd (hk.symm.trans z) (by decide)⟩
  · rintro _ w1 ⟨hk, rfl, hW1, hh1⟩
    have hk : t_tested C a0 a1 a2 = 0 := hk
    have LT1 : z_LX x (k_tested C a0 a1 a2) M n w1 := LT.cls (by unfold k_tested; rw [if_pos hk]; exact hW1) (okk_tested _ _ _ LT.1.2) hh1
    refine j_i2l dL_tested_9 ?_
    obtain ⟨-, -, ⟨ov89, og89⟩, -⟩ := id LT1
    refine j_put (w' := _) dL_tested_10 fL_13 tX9_0 og89 ⟨rfl, rfl⟩ rfl ?_
    refine j_seal (n := x) LT1.x1 ?_
    intro w2 u2
    have LT2 := LT1.out u2
    refine j_goto (tgt := 20) dL_tested_13 (by decide) ?_
    refine j_iconst (v := 0) dL_tested_20 (by decide) ?_
    refine j_iret dL_tested_21 rfl rfl ?_ (Nat.le_of_ble_eq_true rfl) (Nat.le_of_ble_eq_true rfl)
    exact ⟨_, by rw [hk], LT2, fun _ => rfl⟩
set_option maxRecDepth 100000 in
set_option maxHeartbeats 4000000 in
theorem lw_house (hl : l.stackTraces = false) (w : z_W) (x : Nat) (C M : sp_S) (n : Int64) (LT : z_LX x C M n w) (a0 : Int32) : z_Con G l mL_house 27 14 120 w [.ref 0, .int a0, .ref x] (fun v w9 => ∃ n9 : Int64, v = some (.int (t_house C a0)) ∧ z_LX x (k_house C a0) M n9 w9 ∧ (t_house C a0 = 0 → n9 = (a_house C a0).toInt64)) (fun _ _ => False) := by
  refine z_bodyW hl (by decide) (by decide) (Nat.le_of_ble_eq_true rfl) ?_
  show z_J G l mL_house _ 0 [(0, _), (1, _), (2, _)] [] _ 0 0
  refine j_aload_n dL_house_0 rfl rfl ?_
  refine j_aload_n dL_house_1 rfl rfl ?_
  refine j_iload_n dL_house_2 rfl ?_
  obtain ⟨fs90, gs90⟩ := LT.rc
  refine j_tryV (q := (RX8, TX8, 9)) dL_house_3 kX8_house lL_162 inX8_house seX8_house gs90 rfl (px_house hl w C LT.1.1 LT.1.2 a0) (Nat.le_of_ble_eq_true rfl) ⟨(Nat.le_of_ble_eq_true rfl), (Nat.le_of_ble_eq_true rfl)⟩ rfl (Nat.le_of_ble_eq_true rfl) rfl ?_ ?_
  · rintro E _ ⟨hE, rfl⟩
    obtain ⟨hE, hk⟩ := hE
    have hk : t_house C a0 = 1 := hk
    have hE : E = "java/lang/IllegalArgumentException" := hE
    subst hE
    refine ⟨13, 14, ⟨[], (⟨0, 10, 13, 21⟩ : ExceptionTableEntry), _, "java/lang/IllegalArgumentException", rfl, (fun z hz => by cases hz), by decide, by decide, (z_w 848 ((lwt_4_2 23).trans rfl) (by decide +kernel)), (z_wn 460 ((lwt_2_5 25).trans rfl) (by decide +kernel)), rfl⟩, Or.inr ⟨3, dL_house_13, by decide, rfl⟩, ?_⟩
    refine j_iconst (v := 1) dL_house_14 (by decide) ?_
    refine j_iret dL_house_15 rfl rfl ?_ (Nat.le_of_ble_eq_true rfl) (Nat.le_of_ble_eq_true rfl)
    exact ⟨_, by rw [hk], by unfold k_house; rw [if_neg (by rw [hk]; decide)]; exact LT, fun z => absurd (hk.symm.trans z) (by decide)⟩
  · rintro _ w1 ⟨hk, rfl, hW1, hh1⟩
    have hk : t_house C a0 = 0 := hk
    have LT1 : z_LX x (k_house C a0) M n w1 := LT.cls (by unfold k_house; rw [if_pos hk]; exact hW1) (okk_house _ LT.1.2) hh1
    refine j_i2l dL_house_6 ?_
    obtain ⟨-, -, ⟨ov91, og91⟩, -⟩ := id LT1
    refine j_put (w' := _) dL_house_7 fL_13 tX9_0 og91 ⟨rfl, rfl⟩ rfl ?_
    refine j_seal (n := x) LT1.x1 ?_
    intro w2 u2
    have LT2 := LT1.out u2
    refine j_goto (tgt := 16) dL_house_10 (by decide) ?_
    refine j_iconst (v := 0) dL_house_16 (by decide) ?_
    refine j_iret dL_house_17 rfl rfl ?_ (Nat.le_of_ble_eq_true rfl) (Nat.le_of_ble_eq_true rfl)
    exact ⟨_, by rw [hk], LT2, fun _ => rfl⟩
end ZLw
end ZM0
section ZM1
section ZLaw
variable {G : z_G} {l : Launch}
abbrev mL_law : z_M := (yL_law, cL_law, 7, some .boolean, [])
abbrev z_SL : z_S := (2048, 793551, 6715452, ([], z_no), (fun v _ => v = some (.int 1)), fun _ _ => False)
abbrev z_lol (x i : Nat) : List (Nat × Value) := [(0, .retAddr 8), (1, .ref 0), (2, .ref 1000), (3, .ref x), (4, .int (nI i))]
set_option maxRecDepth 100000 in
set_option maxHeartbeats 4000000 in
theorem lc_0 (hl : l.stackTraces = false) {w : z_W} {x i kc ks : Nat} {S : sp_S} {n : Int64} (LT : z_LX x S S n w) (hi6 : i + 6 ≤ z_sn G) (hsn : z_sn G ≤ 3072) (hkc : kc + 200 ≤ 793551) (hks : ks + 6000 ≤ 6715452) (KK : ∀ (S9 : sp_S) (n9 : Int64) (w9 : z_W), z_LX x S9 S9 n9 w9 → z_J G l mL_law z_SL 2258 (z_lol x i) [] w9 (kc + 200) (ks + 6000)) : z_J G l mL_law z_SL 248 (z_lol x i) [] w kc ks := by
  show z_J G l mL_law _ 248 [(0, _), (1, _), (2, _), (3, _), (4, _)] [] _ _ _
  refine j_aload_n dL_law_248 rfl rfl ?_
  refine j_aload_n dL_law_249 rfl rfl ?_
  refine j_iload dL_law_250 rfl ?_
  refine j_iconst (v := 1) dL_law_252 (by decide) ?_
  refine j_iadd dL_law_253 ?_
  refine j_top (congrArg Value.int (show nI i + (1 : Int32) = nI (i + 1) from nI_add i 1)) ?_
  refine j_sld dL_law_254 (by omega) (by omega) ?_
  refine j_aload_n dL_law_255 rfl rfl ?_
  refine j_iload dL_law_256 rfl ?_
  refine j_iconst (v := 2) dL_law_258 (by decide) ?_
  refine j_iadd dL_law_259 ?_
  refine j_top (congrArg Value.int (show nI i + (2 : Int32) = nI (i + 2) from nI_add i 2)) ?_
  refine j_sld dL_law_260 (by omega) (by omega) ?_
  refine j_aload_n dL_law_261 rfl rfl ?_
  refine j_callSW dL_law_262 kL_type lL_170 stL_type (lw_type hl w _ _ _ _ LT (z_sc G (i + 1)) (z_sc G (i + 2))) (Nat.le_of_ble_eq_true rfl) ⟨(by show _ ≤ 793551; omega), (by show _ ≤ 6715452; omega)⟩ rfl (Nat.le_of_ble_eq_true rfl) rfl rfl (fun _ _ h => h.elim) ?_
  rintro _ w1 ⟨n1, rfl, LT1, hn1⟩
  refine j_istore (lo' := [(5, _), (0, _), (1, _), (2, _), (3, _), (4, _)]) dL_law_265 (by decide) rfl ?_
  refine j_aload_n dL_law_267 rfl rfl ?_
  refine j_aload_n dL_law_268 rfl rfl ?_
  refine j_iload dL_law_269 rfl ?_
  refine j_iconst (v := 1) dL_law_271 (by decide) ?_
  refine j_iadd dL_law_272 ?_
  refine j_top (congrArg Value.int (show nI i + (1 : Int32) = nI (i + 1) from nI_add i 1)) ?_
  refine j_sld dL_law_273 (by omega) (by omega) ?_
  refine j_aload_n dL_law_274 rfl rfl ?_
  refine j_iload dL_law_275 rfl ?_
  refine j_iconst (v := 2) dL_law_277 (by decide) ?_
  refine j_iadd dL_law_278 ?_
  refine j_top (congrArg Value.int (show nI i + (2 : Int32) = nI (i + 2) from nI_add i 2)) ?_
  refine j_sld dL_law_279 (by omega) (by omega) ?_
  obtain ⟨-, ⟨s1, hs1, -⟩, -⟩ := id LT1
  refine j_callV (q := (RX11, TX11, 8)) dL_law_280 kX11_type lL_175 inX11_type seX11_type hs1.m rfl (kx_type hl w1 LT1 (z_sc G (i + 1)) (z_sc G (i + 2))) (Nat.le_of_ble_eq_true rfl) ⟨(by show _ ≤ 793551; omega), (by show _ ≤ 6715452; omega)⟩ rfl (Nat.le_of_ble_eq_true rfl) rfl rfl (fun _ _ h => h.elim) ?_
  rintro _ w2 ⟨r2, rfl, LT2, th2, hr2⟩
  refine j_istore (lo' := [(6, _), (5, _), (0, _), (1, _), (2, _), (3, _), (4, _)]) dL_law_283 (by decide) rfl ?_
  refine j_goto (tgt := 2258) dL_law_285 (by decide) ?_
  refine j_widen (kc' := kc + 200) (ks' := ks + 6000) (by omega) (by omega) ?_
  exact j_lo2 (KK _ _ _ LT2) (z_q1 rfl (z_q1 rfl (z_q1 rfl (z_q1 rfl (z_q1 rfl z_q0)))))
set_option maxRecDepth 100000 in
set_option maxHeartbeats 4000000 in
theorem lc_1 (hl : l.stackTraces = false) {w : z_W} {x i kc ks : Nat} {S : sp_S} {n : Int64} (LT : z_LX x S S n w) (hi6 : i + 6 ≤ z_sn G) (hsn : z_sn G ≤ 3072) (hkc : kc + 200 ≤ 793551) (hks : ks + 6000 ≤ 6715452) (KK : ∀ (S9 : sp_S) (n9 : Int64) (w9 : z_W), z_LX x S9 S9 n9 w9 → z_J G l mL_law z_SL 2258 (z_lol x i) [] w9 (kc + 200) (ks + 6000)) : z_J G l mL_law z_SL 288 (z_lol x i) [] w kc ks := by
  show z_J G l mL_law _ 288 [(0, _), (1, _), (2, _), (3, _), (4, _)] [] _ _ _
  refine j_aload_n dL_law_288 rfl rfl ?_
  refine j_aload_n dL_law_289 rfl rfl ?_
  refine j_iload dL_law_290 rfl ?_
  refine j_iconst (v := 1) dL_law_292 (by decide) ?_
  refine j_iadd dL_law_293 ?_
  refine j_top (congrArg Value.int (show nI i + (1 : Int32) = nI (i + 1) from nI_add i 1)) ?_
  refine j_sld dL_law_294 (by omega) (by omega) ?_
  refine j_aload_n dL_law_295 rfl rfl ?_
  refine j_iload dL_law_296 rfl ?_
  refine j_iconst (v := 2) dL_law_298 (by decide) ?_
  refine j_iadd dL_law_299 ?_
  refine j_top (congrArg Value.int (show nI i + (2 : Int32) = nI (i + 2) from nI_add i 2)) ?_
  refine j_sld dL_law_300 (by omega) (by omega) ?_
  refine j_aload_n dL_law_301 rfl rfl ?_
  refine j_callSW dL_law_302 kL_drop lL_176 stL_drop (lw_drop hl w _ _ _ _ LT (z_sc G (i + 1)) (z_sc G (i + 2))) (Nat.le_of_ble_eq_true rfl) ⟨(by show _ ≤ 793551; omega), (by show _ ≤ 6715452; omega)⟩ rfl (Nat.le_of_ble_eq_true rfl) rfl rfl (fun _ _ h => h.elim) ?_
  rintro _ w1 ⟨n1, rfl, LT1, hn1⟩
  refine j_istore (lo' := [(5, _), (0, _), (1, _), (2, _), (3, _), (4, _)]) dL_law_305 (by decide) rfl ?_
  refine j_aload_n dL_law_307 rfl rfl ?_
  refine j_aload_n dL_law_308 rfl rfl ?_
  refine j_iload dL_law_309 rfl ?_
  refine j_iconst (v := 1) dL_law_311 (by decide) ?_
  refine j_iadd dL_law_312 ?_
  refine j_top (congrArg Value.int (show nI i + (1 : Int32) = nI (i + 1) from nI_add i 1)) ?_
  refine j_sld dL_law_313 (by omega) (by omega) ?_
  refine j_aload_n dL_law_314 rfl rfl ?_
  refine j_iload dL_law_315 rfl ?_
  refine j_iconst (v := 2) dL_law_317 (by decide) ?_
  refine j_iadd dL_law_318 ?_
  refine j_top (congrArg Value.int (show nI i + (2 : Int32) = nI (i + 2) from nI_add i 2)) ?_
  refine j_sld dL_law_319 (by omega) (by omega) ?_
  obtain ⟨-, ⟨s2, hs2, -⟩, -⟩ := id LT1
  refine j_callV (q := (RX11, TX11, 8)) dL_law_320 kX11_drop lL_178 inX11_drop seX11_drop hs2.m rfl (kx_drop hl w1 LT1 (z_sc G (i + 1)) (z_sc G (i + 2))) (Nat.le_of_ble_eq_true rfl) ⟨(by show _ ≤ 793551; omega), (by show _ ≤ 6715452; omega)⟩ rfl (Nat.le_of_ble_eq_true rfl) rfl rfl (fun _ _ h => h.elim) ?_
  rintro _ w2 ⟨r2, rfl, LT2, th2, hr2⟩
  refine j_istore (lo' := [(6, _), (5, _), (0, _), (1, _), (2, _), (3, _), (4, _)]) dL_law_323 (by decide) rfl ?_
  refine j_goto (tgt := 2258) dL_law_325 (by decide) ?_
  refine j_widen (kc' := kc + 200) (ks' := ks + 6000) (by omega) (by omega) ?_
  exact j_lo2 (KK _ _ _ LT2) (z_q1 rfl (z_q1 rfl (z_q1 rfl (z_q1 rfl (z_q1 rfl z_q0)))))
set_option maxRecDepth 100000 in
set_option maxHeartbeats 4000000 in
theorem lc_2 (hl : l.stackTraces = false) {w : z_W} {x i kc ks : Nat} {S : sp_S} {n : Int64} (LT : z_LX x S S n w) (hi6 : i + 6 ≤ z_sn G) (hsn : z_sn G ≤ 3072) (hkc : kc + 200 ≤ 793551) (hks : ks + 6000 ≤ 6715452) (KK : ∀ (S9 : sp_S) (n9 : Int64) (w9 : z_W), z_LX x S9 S9 n9 w9 → z_J G l mL_law z_SL 2258 (z_lol x i) [] w9 (kc + 200) (ks + 6000)) : z_J G l mL_law z_SL 328 (z_lol x i) [] w kc ks := by
  show z_J G l mL_law _ 328 [(0, _), (1, _), (2, _), (3, _), (4, _)] [] _ _ _
  refine j_aload_n dL_law_328 rfl rfl ?_
  refine j_aload_n dL_law_329 rfl rfl ?_
  refine j_iload dL_law_330 rfl ?_
  refine j_iconst (v := 1) dL_law_332 (by decide) ?_
  refine j_iadd dL_law_333 ?_
  refine j_top (congrArg Value.int (show nI i + (1 : Int32) = nI (i + 1) from nI_add i 1)) ?_
  refine j_sld dL_law_334 (by omega) (by omega) ?_
  refine j_aload_n dL_law_335 rfl rfl ?_
  refine j_iload dL_law_336 rfl ?_
  refine j_iconst (v := 2) dL_law_338 (by decide) ?_
  refine j_iadd dL_law_339 ?_
  refine j_top (congrArg Value.int (show nI i + (2 : Int32) = nI (i + 2) from nI_add i 2)) ?_
  refine j_sld dL_law_340 (by omega) (by omega) ?_
  refine j_if_eq (tgt := 348) dL_law_341 (by decide) (fun c_341_14 => ?_) (fun c_341_14 => ?_)
  · refine j_iconst (v := 0) dL_law_348 (by decide) ?_
    refine j_aload_n dL_law_349 rfl rfl ?_
    refine j_callSW dL_law_350 kL_fix lL_179 stL_fix (lw_fix hl w _ _ _ _ LT (z_sc G (i + 1)) false) (Nat.le_of_ble_eq_true rfl) ⟨(by show _ ≤ 793551; omega), (by show _ ≤ 6715452; omega)⟩ rfl (Nat.le_of_ble_eq_true rfl) rfl rfl (fun _ _ h => h.elim) ?_
    rintro _ w1 ⟨n1, rfl, LT1, hn1⟩
    refine j_istore (lo' := [(5, _), (0, _), (1, _), (2, _), (3, _), (4, _)]) dL_law_353 (by decide) rfl ?_
    refine j_aload_n dL_law_355 rfl rfl ?_
    refine j_aload_n dL_law_356 rfl rfl ?_
    refine j_iload dL_law_357 rfl ?_
    refine j_iconst (v := 1) dL_law_359 (by decide) ?_
    refine j_iadd dL_law_360 ?_
    refine j_top (congrArg Value.int (show nI i + (1 : Int32) = nI (i + 1) from nI_add i 1)) ?_
    refine j_sld dL_law_361 (by omega) (by omega) ?_
    refine j_aload_n dL_law_362 rfl rfl ?_
    refine j_iload dL_law_363 rfl ?_
    refine j_iconst (v := 2) dL_law_365 (by decide) ?_
    refine j_iadd dL_law_366 ?_
    refine j_top (congrArg Value.int (show nI i + (2 : Int32) = nI (i + 2) from nI_add i 2)) ?_
    refine j_sld dL_law_367 (by omega) (by omega) ?_
    refine j_if_eq (tgt := 375) dL_law_368 (by decide) (fun c_368_33 => ?_) (fun c_368_33 => ?_)
    · refine j_iconst (v := 0) dL_law_375 (by decide) ?_
      obtain ⟨-, ⟨s3, hs3, -⟩, -⟩ := id LT1
      refine j_callV (q := (RX11, TX11, 8)) dL_law_376 kX11_fix lL_182 inX11_fix seX11_fix hs3.m rfl (kx_fix hl w1 LT1 (z_sc G (i + 1)) false) (Nat.le_of_ble_eq_true rfl) ⟨(by show _ ≤ 793551; omega), (by show _ ≤ 6715452; omega)⟩ rfl (Nat.le_of_ble_eq_true rfl) rfl rfl (fun _ _ h => h.elim) ?_
      rintro _ w2 ⟨r2, rfl, LT2, th2, hr2⟩
      refine j_istore (lo' := [(6, _), (5, _), (0, _), (1, _), (2, _), (3, _), (4, _)]) dL_law_379 (by decide) rfl ?_
      refine j_goto (tgt := 2258) dL_law_381 (by decide) ?_
      refine j_widen (kc' := kc + 200) (ks' := ks + 6000) (by omega) (by omega) ?_
      exact j_lo2 (KK _ _ _ LT2) (z_q1 rfl (z_q1 rfl (z_q1 rfl (z_q1 rfl (z_q1 rfl z_q0)))))
    · exact absurd c_341_14 c_368_33
  · refine j_iconst (v := 1) dL_law_344 (by decide) ?_
    refine j_goto (tgt := 349) dL_law_345 (by decide) ?_
    refine j_aload_n dL_law_349 rfl rfl ?_
    refine j_callSW dL_law_350 kL_fix lL_179 stL_fix (lw_fix hl w _ _ _ _ LT (z_sc G (i + 1)) true) (Nat.le_of_ble_eq_true rfl) ⟨(by show _ ≤ 793551; omega), (by show _ ≤ 6715452; omega)⟩ rfl (Nat.le_of_ble_eq_true rfl) rfl rfl (fun _ _ h => h.elim) ?_
    rintro _ w3 ⟨n3, rfl, LT3, hn3⟩
    refine j_istore (lo' := [(5, _), (0, _), (1, _), (2, _), (3, _), (4, _)]) dL_law_353 (by decide) rfl ?_
    refine j_aload_n dL_law_355 rfl rfl ?_
    refine j_aload_n dL_law_356 rfl rfl ?_
    refine j_iload dL_law_357 rfl ?_
    refine j_iconst (v := 1) dL_law_359 (by decide) ?_
    refine j_iadd dL_law_360 ?_
    refine j_top (congrArg Value.int (show nI i + (1 : Int32) = nI (i + 1) from nI_add i 1)) ?_
    refine j_sld dL_law_361 (by omega) (by omega) ?_
    refine j_aload_n dL_law_362 rfl rfl ?_
    refine j_iload dL_law_363 rfl ?_
    refine j_iconst (v := 2) dL_law_365 (by decide) ?_
    refine j_iadd dL_law_366 ?_
    refine j_top (congrArg Value.int (show nI i + (2 : Int32) = nI (i + 2) from nI_add i 2)) ?_
    refine j_sld dL_law_367 (by omega) (by omega) ?_
    refine j_if_eq (tgt := 375) dL_law_368 (by decide) (fun c_368_62 => ?_) (fun c_368_62 => ?_)
    · exact absurd c_368_62 c_341_14
    · refine j_iconst (v := 1) dL_law_371 (by decide) ?_
      refine j_goto (tgt := 376) dL_law_372 (by decide) ?_
      obtain ⟨-, ⟨s4, hs4, -⟩, -⟩ := id LT3
      refine j_callV (q := (RX11, TX11, 8)) dL_law_376 kX11_fix lL_182 inX11_fix seX11_fix hs4.m rfl (kx_fix hl w3 LT3 (z_sc G (i + 1)) true) (Nat.le_of_ble_eq_true rfl) ⟨(by show _ ≤ 793551; omega), (by show _ ≤ 6715452; omega)⟩ rfl (Nat.le_of_ble_eq_true rfl) rfl rfl (fun _ _ h => h.elim) ?_
      rintro _ w4 ⟨r4, rfl, LT4, th4, hr4⟩
      refine j_istore (lo' := [(6, _), (5, _), (0, _), (1, _), (2, _), (3, _), (4, _)]) dL_law_379 (by decide) rfl ?_
      refine j_goto (tgt := 2258) dL_law_381 (by decide) ?_
      refine j_widen (kc' := kc + 200) (ks' := ks + 6000) (by omega) (by omega) ?_
      exact j_lo2 (KK _ _ _ LT4) (z_q1 rfl (z_q1 rfl (z_q1 rfl (z_q1 rfl (z_q1 rfl z_q0)))))
set_option maxRecDepth 100000 in
set_option maxHeartbeats 4000000 in
theorem lc_3 (hl : l.stackTraces = false) {w : z_W} {x i kc ks : Nat} {S : sp_S} {n : Int64} (LT : z_LX x S S n w) (hi6 : i + 6 ≤ z_sn G) (hsn : z_sn G ≤ 3072) (hkc : kc + 200 ≤ 793551) (hks : ks + 6000 ≤ 6715452) (KK : ∀ (S9 : sp_S) (n9 : Int64) (w9 : z_W), z_LX x S9 S9 n9 w9 → z_J G l mL_law z_SL 2258 (z_lol x i) [] w9 (kc + 200) (ks + 6000)) : z_J G l mL_law z_SL 384 (z_lol x i) [] w kc ks := by
  show z_J G l mL_law _ 384 [(0, _), (1, _), (2, _), (3, _), (4, _)] [] _ _ _
  refine j_aload_n dL_law_384 rfl rfl ?_
  refine j_aload_n dL_law_385 rfl rfl ?_
  refine j_iload dL_law_386 rfl ?_
  refine j_iconst (v := 1) dL_law_388 (by decide) ?_
  refine j_iadd dL_law_389 ?_
  refine j_top (congrArg Value.int (show nI i + (1 : Int32) = nI (i + 1) from nI_add i 1)) ?_
  refine j_sld dL_law_390 (by omega) (by omega) ?_
  refine j_aload_n dL_law_391 rfl rfl ?_
  refine j_iload dL_law_392 rfl ?_
  refine j_iconst (v := 2) dL_law_394 (by decide) ?_
  refine j_iadd dL_law_395 ?_
  refine j_top (congrArg Value.int (show nI i + (2 : Int32) = nI (i + 2) from nI_add i 2)) ?_
  refine j_sld dL_law_396 (by omega) (by omega) ?_
  refine j_aload_n dL_law_397 rfl rfl ?_
  refine j_callSW dL_law_398 kL_hear lL_183 stL_hear (lw_hear hl w _ _ _ _ LT (z_sc G (i + 1)) (z_sc G (i + 2))) (Nat.le_of_ble_eq_true rfl) ⟨(by show _ ≤ 793551; omega), (by show _ ≤ 6715452; omega)⟩ rfl (Nat.le_of_ble_eq_true rfl) rfl rfl (fun _ _ h => h.elim) ?_
  rintro _ w1 ⟨n1, rfl, LT1, hn1⟩
  refine j_istore (lo' := [(5, _), (0, _), (1, _), (2, _), (3, _), (4, _)]) dL_law_401 (by decide) rfl ?_
  refine j_aload_n dL_law_403 rfl rfl ?_
  refine j_aload_n dL_law_404 rfl rfl ?_
  refine j_iload dL_law_405 rfl ?_
  refine j_iconst (v := 1) dL_law_407 (by decide) ?_
  refine j_iadd dL_law_408 ?_
  refine j_top (congrArg Value.int (show nI i + (1 : Int32) = nI (i + 1) from nI_add i 1)) ?_
  refine j_sld dL_law_409 (by omega) (by omega) ?_
  refine j_aload_n dL_law_410 rfl rfl ?_
  refine j_iload dL_law_411 rfl ?_
  refine j_iconst (v := 2) dL_law_413 (by decide) ?_
  refine j_iadd dL_law_414 ?_
  refine j_top (congrArg Value.int (show nI i + (2 : Int32) = nI (i + 2) from nI_add i 2)) ?_
  refine j_sld dL_law_415 (by omega) (by omega) ?_
  obtain ⟨-, ⟨s5, hs5, -⟩, -⟩ := id LT1
  refine j_callV (q := (RX11, TX11, 8)) dL_law_416 kX11_hear lL_185 inX11_hear seX11_hear hs5.m rfl (kx_hear hl w1 LT1 (z_sc G (i + 1)) (z_sc G (i + 2))) (Nat.le_of_ble_eq_true rfl) ⟨(by show _ ≤ 793551; omega), (by show _ ≤ 6715452; omega)⟩ rfl (Nat.le_of_ble_eq_true rfl) rfl rfl (fun _ _ h => h.elim) ?_
  rintro _ w2 ⟨r2, rfl, LT2, th2, hr2⟩
  refine j_istore (lo' := [(6, _), (5, _), (0, _), (1, _), (2, _), (3, _), (4, _)]) dL_law_419 (by decide) rfl ?_
  refine j_goto (tgt := 2258) dL_law_421 (by decide) ?_
  refine j_widen (kc' := kc + 200) (ks' := ks + 6000) (by omega) (by omega) ?_
  exact j_lo2 (KK _ _ _ LT2) (z_q1 rfl (z_q1 rfl (z_q1 rfl (z_q1 rfl (z_q1 rfl z_q0)))))
set_option maxRecDepth 100000 in
set_option maxHeartbeats 4000000 in
theorem lc_4 (hl : l.stackTraces = false) {w : z_W} {x i kc ks : Nat} {S : sp_S} {n : Int64} (LT : z_LX x S S n w) (hi6 : i + 6 ≤ z_sn G) (hsn : z_sn G ≤ 3072) (hkc : kc + 200 ≤ 793551) (hks : ks + 6000 ≤ 6715452) (KK : ∀ (S9 : sp_S) (n9 : Int64) (w9 : z_W), z_LX x S9 S9 n9 w9 → z_J G l mL_law z_SL 2258 (z_lol x i) [] w9 (kc + 200) (ks + 6000)) : z_J G l mL_law z_SL 424 (z_lol x i) [] w kc ks := by
  show z_J G l mL_law _ 424 [(0, _), (1, _), (2, _), (3, _), (4, _)] [] _ _ _
  refine j_aload_n dL_law_424 rfl rfl ?_
  refine j_aload_n dL_law_425 rfl rfl ?_
  refine j_iload dL_law_426 rfl ?_
  refine j_iconst (v := 1) dL_law_428 (by decide) ?_
  refine j_iadd dL_law_429 ?_
  refine j_top (congrArg Value.int (show nI i + (1 : Int32) = nI (i + 1) from nI_add i 1)) ?_
  refine j_sld dL_law_430 (by omega) (by omega) ?_
  refine j_aload_n dL_law_431 rfl rfl ?_
  refine j_iload dL_law_432 rfl ?_
  refine j_iconst (v := 2) dL_law_434 (by decide) ?_
  refine j_iadd dL_law_435 ?_
  refine j_top (congrArg Value.int (show nI i + (2 : Int32) = nI (i + 2) from nI_add i 2)) ?_
  refine j_sld dL_law_436 (by omega) (by omega) ?_
  refine j_aload_n dL_law_437 rfl rfl ?_
  refine j_iload dL_law_438 rfl ?_
  refine j_iconst (v := 3) dL_law_440 (by decide) ?_
  refine j_iadd dL_law_441 ?_
  refine j_top (congrArg Value.int (show nI i + (3 : Int32) = nI (i + 3) from nI_add i 3)) ?_
  refine j_sld dL_law_442 (by omega) (by omega) ?_
  refine j_aload_n dL_law_443 rfl rfl ?_
  refine j_callSW dL_law_444 kL_rest lL_186 stL_rest (lw_rest hl w _ _ _ _ LT (z_sc G (i + 1)) (z_sc G (i + 2)) (z_sc G (i + 3))) (Nat.le_of_ble_eq_true rfl) ⟨(by show _ ≤ 793551; omega), (by show _ ≤ 6715452; omega)⟩ rfl (Nat.le_of_ble_eq_true rfl) rfl rfl (fun _ _ h => h.elim) ?_
  rintro _ w1 ⟨n1, rfl, LT1, hn1⟩
  refine j_istore (lo' := [(5, _), (0, _), (1, _), (2, _), (3, _), (4, _)]) dL_law_447 (by decide) rfl ?_
  refine j_aload_n dL_law_449 rfl rfl ?_
  refine j_aload_n dL_law_450 rfl rfl ?_
  refine j_iload dL_law_451 rfl ?_
  refine j_iconst (v := 1) dL_law_453 (by decide) ?_
  refine j_iadd dL_law_454 ?_
  refine j_top (congrArg Value.int (show nI i + (1 : Int32) = nI (i + 1) from nI_add i 1)) ?_
  refine j_sld dL_law_455 (by omega) (by omega) ?_
  refine j_aload_n dL_law_456 rfl rfl ?_
  refine j_iload dL_law_457 rfl ?_
  refine j_iconst (v := 2) dL_law_459 (by decide) ?_
  refine j_iadd dL_law_460 ?_
  refine j_top (congrArg Value.int (show nI i + (2 : Int32) = nI (i + 2) from nI_add i 2)) ?_
  refine j_sld dL_law_461 (by omega) (by omega) ?_
  refine j_aload_n dL_law_462 rfl rfl ?_
  refine j_iload dL_law_463 rfl ?_
  refine j_iconst (v := 3) dL_law_465 (by decide) ?_
  refine j_iadd dL_law_466 ?_
  refine j_top (congrArg Value.int (show nI i + (3 : Int32) = nI (i + 3) from nI_add i 3)) ?_
  refine j_sld dL_law_467 (by omega) (by omega) ?_
  obtain ⟨-, ⟨s6, hs6, -⟩, -⟩ := id LT1
  refine j_callV (q := (RX11, TX11, 8)) dL_law_468 kX11_rest lL_189 inX11_rest seX11_rest hs6.m rfl (kx_rest hl w1 LT1 (z_sc G (i + 1)) (z_sc G (i + 2)) (z_sc G (i + 3))) (Nat.le_of_ble_eq_true rfl) ⟨(by show _ ≤ 793551; omega), (by show _ ≤ 6715452; omega)⟩ rfl (Nat.le_of_ble_eq_true rfl) rfl rfl (fun _ _ h => h.elim) ?_
  rintro _ w2 ⟨r2, rfl, LT2, th2, hr2⟩
  refine j_istore (lo' := [(6, _), (5, _), (0, _), (1, _), (2, _), (3, _), (4, _)]) dL_law_471 (by decide) rfl ?_
  refine j_goto (tgt := 2258) dL_law_473 (by decide) ?_
  refine j_widen (kc' := kc + 200) (ks' := ks + 6000) (by omega) (by omega) ?_
  exact j_lo2 (KK _ _ _ LT2) (z_q1 rfl (z_q1 rfl (z_q1 rfl (z_q1 rfl (z_q1 rfl z_q0)))))
set_option maxRecDepth 100000 in
set_option maxHeartbeats 4000000 in
theorem lc_5 (hl : l.stackTraces = false) {w : z_W} {x i kc ks : Nat} {S : sp_S} {n : Int64} (LT : z_LX x S S n w) (hi6 : i + 6 ≤ z_sn G) (hsn : z_sn G ≤ 3072) (hkc : kc + 200 ≤ 793551) (hks : ks + 6000 ≤ 6715452) (KK : ∀ (S9 : sp_S) (n9 : Int64) (w9 : z_W), z_LX x S9 S9 n9 w9 → z_J G l mL_law z_SL 2258 (z_lol x i) [] w9 (kc + 200) (ks + 6000)) : z_J G l mL_law z_SL 476 (z_lol x i) [] w kc ks := by
  show z_J G l mL_law _ 476 [(0, _), (1, _), (2, _), (3, _), (4, _)] [] _ _ _
  refine j_aload_n dL_law_476 rfl rfl ?_
  refine j_aload_n dL_law_477 rfl rfl ?_
  refine j_iload dL_law_478 rfl ?_
  refine j_iconst (v := 1) dL_law_480 (by decide) ?_
  refine j_iadd dL_law_481 ?_
  refine j_top (congrArg Value.int (show nI i + (1 : Int32) = nI (i + 1) from nI_add i 1)) ?_
  refine j_sld dL_law_482 (by omega) (by omega) ?_
  refine j_aload_n dL_law_483 rfl rfl ?_
  refine j_iload dL_law_484 rfl ?_
  refine j_iconst (v := 2) dL_law_486 (by decide) ?_
  refine j_iadd dL_law_487 ?_
  refine j_top (congrArg Value.int (show nI i + (2 : Int32) = nI (i + 2) from nI_add i 2)) ?_
  refine j_sld dL_law_488 (by omega) (by omega) ?_
  refine j_aload_n dL_law_489 rfl rfl ?_
  refine j_iload dL_law_490 rfl ?_
  refine j_iconst (v := 3) dL_law_492 (by decide) ?_
  refine j_iadd dL_law_493 ?_
  refine j_top (congrArg Value.int (show nI i + (3 : Int32) = nI (i + 3) from nI_add i 3)) ?_
  refine j_sld dL_law_494 (by omega) (by omega) ?_
  refine j_aload_n dL_law_495 rfl rfl ?_
  refine j_callSW dL_law_496 kL_removeIf lL_190 stL_removeIf (lw_removeIf hl w _ _ _ _ LT (z_sc G (i + 1)) (z_sc G (i + 2)) (z_sc G (i + 3))) (Nat.le_of_ble_eq_true rfl) ⟨(by show _ ≤ 793551; omega), (by show _ ≤ 6715452; omega)⟩ rfl (Nat.le_of_ble_eq_true rfl) rfl rfl (fun _ _ h => h.elim) ?_
  rintro _ w1 ⟨n1, rfl, LT1, hn1⟩
  refine j_istore (lo' := [(5, _), (0, _), (1, _), (2, _), (3, _), (4, _)]) dL_law_499 (by decide) rfl ?_
  refine j_aload_n dL_law_501 rfl rfl ?_
  refine j_aload_n dL_law_502 rfl rfl ?_
  refine j_iload dL_law_503 rfl ?_
  refine j_iconst (v := 1) dL_law_505 (by decide) ?_
  refine j_iadd dL_law_506 ?_
  refine j_top (congrArg Value.int (show nI i + (1 : Int32) = nI (i + 1) from nI_add i 1)) ?_
  refine j_sld dL_law_507 (by omega) (by omega) ?_
  refine j_aload_n dL_law_508 rfl rfl ?_
  refine j_iload dL_law_509 rfl ?_
  refine j_iconst (v := 2) dL_law_511 (by decide) ?_
  refine j_iadd dL_law_512 ?_
  refine j_top (congrArg Value.int (show nI i + (2 : Int32) = nI (i + 2) from nI_add i 2)) ?_
  refine j_sld dL_law_513 (by omega) (by omega) ?_
  refine j_aload_n dL_law_514 rfl rfl ?_
  refine j_iload dL_law_515 rfl ?_
  refine j_iconst (v := 3) dL_law_517 (by decide) ?_
  refine j_iadd dL_law_518 ?_
  refine j_top (congrArg Value.int (show nI i + (3 : Int32) = nI (i + 3) from nI_add i 3)) ?_
  refine j_sld dL_law_519 (by omega) (by omega) ?_
  obtain ⟨-, ⟨s7, hs7, -⟩, -⟩ := id LT1
  refine j_callV (q := (RX11, TX11, 8)) dL_law_520 kX11_removeIf lL_192 inX11_removeIf seX11_removeIf hs7.m rfl (kx_removeIf hl w1 LT1 (z_sc G (i + 1)) (z_sc G (i + 2)) (z_sc G (i + 3))) (Nat.le_of_ble_eq_true rfl) ⟨(by show _ ≤ 793551; omega), (by show _ ≤ 6715452; omega)⟩ rfl (Nat.le_of_ble_eq_true rfl) rfl rfl (fun _ _ h => h.elim) ?_
  rintro _ w2 ⟨r2, rfl, LT2, th2, hr2⟩
  refine j_istore (lo' := [(6, _), (5, _), (0, _), (1, _), (2, _), (3, _), (4, _)]) dL_law_523 (by decide) rfl ?_
  refine j_goto (tgt := 2258) dL_law_525 (by decide) ?_
  refine j_widen (kc' := kc + 200) (ks' := ks + 6000) (by omega) (by omega) ?_
  exact j_lo2 (KK _ _ _ LT2) (z_q1 rfl (z_q1 rfl (z_q1 rfl (z_q1 rfl (z_q1 rfl z_q0)))))
set_option maxRecDepth 100000 in
set_option maxHeartbeats 4000000 in
theorem lc_6 (hl : l.stackTraces = false) {w : z_W} {x i kc ks : Nat} {S : sp_S} {n : Int64} (LT : z_LX x S S n w) (hi6 : i + 6 ≤ z_sn G) (hsn : z_sn G ≤ 3072) (hkc : kc + 200 ≤ 793551) (hks : ks + 6000 ≤ 6715452) (KK : ∀ (S9 : sp_S) (n9 : Int64) (w9 : z_W), z_LX x S9 S9 n9 w9 → z_J G l mL_law z_SL 2258 (z_lol x i) [] w9 (kc + 200) (ks + 6000)) : z_J G l mL_law z_SL 528 (z_lol x i) [] w kc ks := by
  show z_J G l mL_law _ 528 [(0, _), (1, _), (2, _), (3, _), (4, _)] [] _ _ _
  refine j_aload_n dL_law_528 rfl rfl ?_
  refine j_aload_n dL_law_529 rfl rfl ?_
  refine j_iload dL_law_530 rfl ?_
  refine j_iconst (v := 1) dL_law_532 (by decide) ?_
  refine j_iadd dL_law_533 ?_
  refine j_top (congrArg Value.int (show nI i + (1 : Int32) = nI (i + 1) from nI_add i 1)) ?_
  refine j_sld dL_law_534 (by omega) (by omega) ?_
  refine j_aload_n dL_law_535 rfl rfl ?_
  refine j_iload dL_law_536 rfl ?_
  refine j_iconst (v := 2) dL_law_538 (by decide) ?_
  refine j_iadd dL_law_539 ?_
  refine j_top (congrArg Value.int (show nI i + (2 : Int32) = nI (i + 2) from nI_add i 2)) ?_
  refine j_sld dL_law_540 (by omega) (by omega) ?_
  refine j_aload_n dL_law_541 rfl rfl ?_
  refine j_iload dL_law_542 rfl ?_
  refine j_iconst (v := 3) dL_law_544 (by decide) ?_
  refine j_iadd dL_law_545 ?_
  refine j_top (congrArg Value.int (show nI i + (3 : Int32) = nI (i + 3) from nI_add i 3)) ?_
  refine j_sld dL_law_546 (by omega) (by omega) ?_
  refine j_aload_n dL_law_547 rfl rfl ?_
  refine j_callSW dL_law_548 kL_replaceAll lL_193 stL_replaceAll (lw_replaceAll hl w _ _ _ _ LT (z_sc G (i + 1)) (z_sc G (i + 2)) (z_sc G (i + 3))) (Nat.le_of_ble_eq_true rfl) ⟨(by show _ ≤ 793551; omega), (by show _ ≤ 6715452; omega)⟩ rfl (Nat.le_of_ble_eq_true rfl) rfl rfl (fun _ _ h => h.elim) ?_
  rintro _ w1 ⟨n1, rfl, LT1, hn1⟩
  refine j_istore (lo' := [(5, _), (0, _), (1, _), (2, _), (3, _), (4, _)]) dL_law_551 (by decide) rfl ?_
  refine j_aload_n dL_law_553 rfl rfl ?_
  refine j_aload_n dL_law_554 rfl rfl ?_
  refine j_iload dL_law_555 rfl ?_
  refine j_iconst (v := 1) dL_law_557 (by decide) ?_
  refine j_iadd dL_law_558 ?_
  refine j_top (congrArg Value.int (show nI i + (1 : Int32) = nI (i + 1) from nI_add i 1)) ?_
  refine j_sld dL_law_559 (by omega) (by omega) ?_
  refine j_aload_n dL_law_560 rfl rfl ?_
  refine j_iload dL_law_561 rfl ?_
  refine j_iconst (v := 2) dL_law_563 (by decide) ?_
  refine j_iadd dL_law_564 ?_
  refine j_top (congrArg Value.int (show nI i + (2 : Int32) = nI (i + 2) from nI_add i 2)) ?_
  refine j_sld dL_law_565 (by omega) (by omega) ?_
  refine j_aload_n dL_law_566 rfl rfl ?_
  refine j_iload dL_law_567 rfl ?_
  refine j_iconst (v := 3) dL_law_569 (by decide) ?_
  refine j_iadd dL_law_570 ?_
  refine j_top (congrArg Value.int (show nI i + (3 : Int32) = nI (i + 3) from nI_add i 3)) ?_
  refine j_sld dL_law_571 (by omega) (by omega) ?_
  obtain ⟨-, ⟨s8, hs8, -⟩, -⟩ := id LT1
  refine j_callV (q := (RX11, TX11, 8)) dL_law_572 kX11_replaceAll lL_195 inX11_replaceAll seX11_replaceAll hs8.m rfl (kx_replaceAll hl w1 LT1 (z_sc G (i + 1)) (z_sc G (i + 2)) (z_sc G (i + 3))) (Nat.le_of_ble_eq_true rfl) ⟨(by show _ ≤ 793551; omega), (by show _ ≤ 6715452; omega)⟩ rfl (Nat.le_of_ble_eq_true rfl) rfl rfl (fun _ _ h => h.elim) ?_
  rintro _ w2 ⟨r2, rfl, LT2, th2, hr2⟩
  refine j_istore (lo' := [(6, _), (5, _), (0, _), (1, _), (2, _), (3, _), (4, _)]) dL_law_575 (by decide) rfl ?_
  refine j_goto (tgt := 2258) dL_law_577 (by decide) ?_
  refine j_widen (kc' := kc + 200) (ks' := ks + 6000) (by omega) (by omega) ?_
  exact j_lo2 (KK _ _ _ LT2) (z_q1 rfl (z_q1 rfl (z_q1 rfl (z_q1 rfl (z_q1 rfl z_q0)))))
set_option maxRecDepth 100000 in
set_option maxHeartbeats 4000000 in
theorem lc_7 (hl : l.stackTraces = false) {w : z_W} {x i kc ks : Nat} {S : sp_S} {n : Int64} (LT : z_LX x S S n w) (hi6 : i + 6 ≤ z_sn G) (hsn : z_sn G ≤ 3072) (hkc : kc + 200 ≤ 793551) (hks : ks + 6000 ≤ 6715452) (KK : ∀ (S9 : sp_S) (n9 : Int64) (w9 : z_W), z_LX x S9 S9 n9 w9 → z_J G l mL_law z_SL 2258 (z_lol x i) [] w9 (kc + 200) (ks + 6000)) : z_J G l mL_law z_SL 580 (z_lol x i) [] w kc ks := by
  show z_J G l mL_law _ 580 [(0, _), (1, _), (2, _), (3, _), (4, _)] [] _ _ _
  refine j_aload_n dL_law_580 rfl rfl ?_
  refine j_aload_n dL_law_581 rfl rfl ?_
  refine j_iload dL_law_582 rfl ?_
  refine j_iconst (v := 1) dL_law_584 (by decide) ?_
  refine j_iadd dL_law_585 ?_
  refine j_top (congrArg Value.int (show nI i + (1 : Int32) = nI (i + 1) from nI_add i 1)) ?_
  refine j_sld dL_law_586 (by omega) (by omega) ?_
  refine j_aload_n dL_law_587 rfl rfl ?_
  refine j_callSW dL_law_588 kL_copy lL_196 stL_copy (lw_copy hl w _ _ _ _ LT (z_sc G (i + 1))) (Nat.le_of_ble_eq_true rfl) ⟨(by show _ ≤ 793551; omega), (by show _ ≤ 6715452; omega)⟩ rfl (Nat.le_of_ble_eq_true rfl) rfl rfl (fun _ _ h => h.elim) ?_
  rintro _ w1 ⟨n1, rfl, LT1, hn1⟩
  refine j_istore (lo' := [(5, _), (0, _), (1, _), (2, _), (3, _), (4, _)]) dL_law_591 (by decide) rfl ?_
  refine j_aload_n dL_law_593 rfl rfl ?_
  refine j_aload_n dL_law_594 rfl rfl ?_
  refine j_iload dL_law_595 rfl ?_
  refine j_iconst (v := 1) dL_law_597 (by decide) ?_
  refine j_iadd dL_law_598 ?_
  refine j_top (congrArg Value.int (show nI i + (1 : Int32) = nI (i + 1) from nI_add i 1)) ?_
  refine j_sld dL_law_599 (by omega) (by omega) ?_
  obtain ⟨-, ⟨s9, hs9, -⟩, -⟩ := id LT1
  refine j_callV (q := (RX11, TX11, 8)) dL_law_600 kX11_copy lL_199 inX11_copy seX11_copy hs9.m rfl (kx_copy hl w1 LT1 (z_sc G (i + 1))) (Nat.le_of_ble_eq_true rfl) ⟨(by show _ ≤ 793551; omega), (by show _ ≤ 6715452; omega)⟩ rfl (Nat.le_of_ble_eq_true rfl) rfl rfl (fun _ _ h => h.elim) ?_
  rintro _ w2 ⟨r2, rfl, LT2, th2, hr2⟩
  refine j_istore (lo' := [(6, _), (5, _), (0, _), (1, _), (2, _), (3, _), (4, _)]) dL_law_603 (by decide) rfl ?_
  refine j_goto (tgt := 2258) dL_law_605 (by decide) ?_
  refine j_widen (kc' := kc + 200) (ks' := ks + 6000) (by omega) (by omega) ?_
  exact j_lo2 (KK _ _ _ LT2) (z_q1 rfl (z_q1 rfl (z_q1 rfl (z_q1 rfl (z_q1 rfl z_q0)))))
set_option maxRecDepth 100000 in
set_option maxHeartbeats 4000000 in
theorem lc_8 (hl : l.stackTraces = false) {w : z_W} {x i kc ks : Nat} {S : sp_S} {n : Int64} (LT : z_LX x S S n w) (hi6 : i + 6 ≤ z_sn G) (hsn : z_sn G ≤ 3072) (hkc : kc + 200 ≤ 793551) (hks : ks + 6000 ≤ 6715452) (KK : ∀ (S9 : sp_S) (n9 : Int64) (w9 : z_W), z_LX x S9 S9 n9 w9 → z_J G l mL_law z_SL 2258 (z_lol x i) [] w9 (kc + 200) (ks + 6000)) : z_J G l mL_law z_SL 608 (z_lol x i) [] w kc ks := by
  show z_J G l mL_law _ 608 [(0, _), (1, _), (2, _), (3, _), (4, _)] [] _ _ _
  refine j_aload_n dL_law_608 rfl rfl ?_
  refine j_aload_n dL_law_609 rfl rfl ?_
  refine j_iload dL_law_610 rfl ?_
  refine j_iconst (v := 1) dL_law_612 (by decide) ?_
  refine j_iadd dL_law_613 ?_
  refine j_top (congrArg Value.int (show nI i + (1 : Int32) = nI (i + 1) from nI_add i 1)) ?_
  refine j_sld dL_law_614 (by omega) (by omega) ?_
  refine j_aload_n dL_law_615 rfl rfl ?_
  refine j_iload dL_law_616 rfl ?_
  refine j_iconst (v := 2) dL_law_618 (by decide) ?_
  refine j_iadd dL_law_619 ?_
  refine j_top (congrArg Value.int (show nI i + (2 : Int32) = nI (i + 2) from nI_add i 2)) ?_
  refine j_sld dL_law_620 (by omega) (by omega) ?_
  refine j_aload_n dL_law_621 rfl rfl ?_
  refine j_iload dL_law_622 rfl ?_
  refine j_iconst (v := 3) dL_law_624 (by decide) ?_
  refine j_iadd dL_law_625 ?_
  refine j_top (congrArg Value.int (show nI i + (3 : Int32) = nI (i + 3) from nI_add i 3)) ?_
  refine j_sld dL_law_626 (by omega) (by omega) ?_
  refine j_aload_n dL_law_627 rfl rfl ?_
  refine j_callSW dL_law_628 kL_put lL_200 stL_put (lw_put hl w _ _ _ _ LT (z_sc G (i + 1)) (z_sc G (i + 2)) (z_sc G (i + 3))) (Nat.le_of_ble_eq_true rfl) ⟨(by show _ ≤ 793551; omega), (by show _ ≤ 6715452; omega)⟩ rfl (Nat.le_of_ble_eq_true rfl) rfl rfl (fun _ _ h => h.elim) ?_
  rintro _ w1 ⟨n1, rfl, LT1, hn1⟩
  refine j_istore (lo' := [(5, _), (0, _), (1, _), (2, _), (3, _), (4, _)]) dL_law_631 (by decide) rfl ?_
  refine j_aload_n dL_law_633 rfl rfl ?_
  refine j_aload_n dL_law_634 rfl rfl ?_
  refine j_iload dL_law_635 rfl ?_
  refine j_iconst (v := 1) dL_law_637 (by decide) ?_
  refine j_iadd dL_law_638 ?_
  refine j_top (congrArg Value.int (show nI i + (1 : Int32) = nI (i + 1) from nI_add i 1)) ?_
  refine j_sld dL_law_639 (by omega) (by omega) ?_
  refine j_aload_n dL_law_640 rfl rfl ?_
  refine j_iload dL_law_641 rfl ?_
  refine j_iconst (v := 2) dL_law_643 (by decide) ?_
  refine j_iadd dL_law_644 ?_
  refine j_top (congrArg Value.int (show nI i + (2 : Int32) = nI (i + 2) from nI_add i 2)) ?_
  refine j_sld dL_law_645 (by omega) (by omega) ?_
  refine j_aload_n dL_law_646 rfl rfl ?_
  refine j_iload dL_law_647 rfl ?_
  refine j_iconst (v := 3) dL_law_649 (by decide) ?_
  refine j_iadd dL_law_650 ?_
  refine j_top (congrArg Value.int (show nI i + (3 : Int32) = nI (i + 3) from nI_add i 3)) ?_
  refine j_sld dL_law_651 (by omega) (by omega) ?_
  obtain ⟨-, ⟨s10, hs10, -⟩, -⟩ := id LT1
  refine j_callV (q := (RX11, TX11, 8)) dL_law_652 kX11_put lL_202 inX11_put seX11_put hs10.m rfl (kx_put hl w1 LT1 (z_sc G (i + 1)) (z_sc G (i + 2)) (z_sc G (i + 3))) (Nat.le_of_ble_eq_true rfl) ⟨(by show _ ≤ 793551; omega), (by show _ ≤ 6715452; omega)⟩ rfl (Nat.le_of_ble_eq_true rfl) rfl rfl (fun _ _ h => h.elim) ?_
  rintro _ w2 ⟨r2, rfl, LT2, th2, hr2⟩
  refine j_istore (lo' := [(6, _), (5, _), (0, _), (1, _), (2, _), (3, _), (4, _)]) dL_law_655 (by decide) rfl ?_
  refine j_goto (tgt := 2258) dL_law_657 (by decide) ?_
  refine j_widen (kc' := kc + 200) (ks' := ks + 6000) (by omega) (by omega) ?_
  exact j_lo2 (KK _ _ _ LT2) (z_q1 rfl (z_q1 rfl (z_q1 rfl (z_q1 rfl (z_q1 rfl z_q0)))))
set_option maxRecDepth 100000 in
set_option maxHeartbeats 4000000 in
theorem lc_9 (hl : l.stackTraces = false) {w : z_W} {x i kc ks : Nat} {S : sp_S} {n : Int64} (LT : z_LX x S S n w) (hi6 : i + 6 ≤ z_sn G) (hsn : z_sn G ≤ 3072) (hkc : kc + 200 ≤ 793551) (hks : ks + 6000 ≤ 6715452) (KK : ∀ (S9 : sp_S) (n9 : Int64) (w9 : z_W), z_LX x S9 S9 n9 w9 → z_J G l mL_law z_SL 2258 (z_lol x i) [] w9 (kc + 200) (ks + 6000)) : z_J G l mL_law z_SL 660 (z_lol x i) [] w kc ks := by
  show z_J G l mL_law _ 660 [(0, _), (1, _), (2, _), (3, _), (4, _)] [] _ _ _
  refine j_aload_n dL_law_660 rfl rfl ?_
  refine j_aload_n dL_law_661 rfl rfl ?_
  refine j_iload dL_law_662 rfl ?_
  refine j_iconst (v := 1) dL_law_664 (by decide) ?_
  refine j_iadd dL_law_665 ?_
  refine j_top (congrArg Value.int (show nI i + (1 : Int32) = nI (i + 1) from nI_add i 1)) ?_
  refine j_sld dL_law_666 (by omega) (by omega) ?_
  refine j_aload_n dL_law_667 rfl rfl ?_
  refine j_iload dL_law_668 rfl ?_
  refine j_iconst (v := 2) dL_law_670 (by decide) ?_
  refine j_iadd dL_law_671 ?_
  refine j_top (congrArg Value.int (show nI i + (2 : Int32) = nI (i + 2) from nI_add i 2)) ?_
  refine j_sld dL_law_672 (by omega) (by omega) ?_
  refine j_aload_n dL_law_673 rfl rfl ?_
  refine j_callSW dL_law_674 kL_remove lL_203 stL_remove (lw_remove hl w _ _ _ _ LT (z_sc G (i + 1)) (z_sc G (i + 2))) (Nat.le_of_ble_eq_true rfl) ⟨(by show _ ≤ 793551; omega), (by show _ ≤ 6715452; omega)⟩ rfl (Nat.le_of_ble_eq_true rfl) rfl rfl (fun _ _ h => h.elim) ?_
  rintro _ w1 ⟨n1, rfl, LT1, hn1⟩
  refine j_istore (lo' := [(5, _), (0, _), (1, _), (2, _), (3, _), (4, _)]) dL_law_677 (by decide) rfl ?_
  refine j_aload_n dL_law_679 rfl rfl ?_
  refine j_aload_n dL_law_680 rfl rfl ?_
  refine j_iload dL_law_681 rfl ?_
  refine j_iconst (v := 1) dL_law_683 (by decide) ?_
  refine j_iadd dL_law_684 ?_
  refine j_top (congrArg Value.int (show nI i + (1 : Int32) = nI (i + 1) from nI_add i 1)) ?_
  refine j_sld dL_law_685 (by omega) (by omega) ?_
  refine j_aload_n dL_law_686 rfl rfl ?_
  refine j_iload dL_law_687 rfl ?_
  refine j_iconst (v := 2) dL_law_689 (by decide) ?_
  refine j_iadd dL_law_690 ?_
  refine j_top (congrArg Value.int (show nI i + (2 : Int32) = nI (i + 2) from nI_add i 2)) ?_
  refine j_sld dL_law_691 (by omega) (by omega) ?_
  obtain ⟨-, ⟨s11, hs11, -⟩, -⟩ := id LT1
  refine j_callV (q := (RX11, TX11, 8)) dL_law_692 kX11_remove lL_205 inX11_remove seX11_remove hs11.m rfl (kx_remove hl w1 LT1 (z_sc G (i + 1)) (z_sc G (i + 2))) (Nat.le_of_ble_eq_true rfl) ⟨(by show _ ≤ 793551; omega), (by show _ ≤ 6715452; omega)⟩ rfl (Nat.le_of_ble_eq_true rfl) rfl rfl (fun _ _ h => h.elim) ?_
  rintro _ w2 ⟨r2, rfl, LT2, th2, hr2⟩
  refine j_istore (lo' := [(6, _), (5, _), (0, _), (1, _), (2, _), (3, _), (4, _)]) dL_law_695 (by decide) rfl ?_
  refine j_goto (tgt := 2258) dL_law_697 (by decide) ?_
  refine j_widen (kc' := kc + 200) (ks' := ks + 6000) (by omega) (by omega) ?_
  exact j_lo2 (KK _ _ _ LT2) (z_q1 rfl (z_q1 rfl (z_q1 rfl (z_q1 rfl (z_q1 rfl z_q0)))))
set_option maxRecDepth 100000 in
set_option maxHeartbeats 4000000 in
theorem lc_10 (hl : l.stackTraces = false) {w : z_W} {x i kc ks : Nat} {S : sp_S} {n : Int64} (LT : z_LX x S S n w) (hi6 : i + 6 ≤ z_sn G) (hsn : z_sn G ≤ 3072) (hkc : kc + 200 ≤ 793551) (hks : ks + 6000 ≤ 6715452) (KK : ∀ (S9 : sp_S) (n9 : Int64) (w9 : z_W), z_LX x S9 S9 n9 w9 → z_J G l mL_law z_SL 2258 (z_lol x i) [] w9 (kc + 200) (ks + 6000)) : z_J G l mL_law z_SL 700 (z_lol x i) [] w kc ks := by
  show z_J G l mL_law _ 700 [(0, _), (1, _), (2, _), (3, _), (4, _)] [] _ _ _
  refine j_aload_n dL_law_700 rfl rfl ?_
  refine j_aload_n dL_law_701 rfl rfl ?_
  refine j_iload dL_law_702 rfl ?_
  refine j_iconst (v := 1) dL_law_704 (by decide) ?_
  refine j_iadd dL_law_705 ?_
  refine j_top (congrArg Value.int (show nI i + (1 : Int32) = nI (i + 1) from nI_add i 1)) ?_
  refine j_sld dL_law_706 (by omega) (by omega) ?_
  refine j_aload_n dL_law_707 rfl rfl ?_
  refine j_iload dL_law_708 rfl ?_
  refine j_iconst (v := 2) dL_law_710 (by decide) ?_
  refine j_iadd dL_law_711 ?_
  refine j_top (congrArg Value.int (show nI i + (2 : Int32) = nI (i + 2) from nI_add i 2)) ?_
  refine j_sld dL_law_712 (by omega) (by omega) ?_
  refine j_aload_n dL_law_713 rfl rfl ?_
  refine j_iload dL_law_714 rfl ?_
  refine j_iconst (v := 3) dL_law_716 (by decide) ?_
  refine j_iadd dL_law_717 ?_
  refine j_top (congrArg Value.int (show nI i + (3 : Int32) = nI (i + 3) from nI_add i 3)) ?_
  refine j_sld dL_law_718 (by omega) (by omega) ?_
  refine j_aload_n dL_law_719 rfl rfl ?_
  refine j_callSW dL_law_720 kL_putIfAbsent lL_206 stL_putIfAbsent (lw_putIfAbsent hl w _ _ _ _ LT (z_sc G (i + 1)) (z_sc G (i + 2)) (z_sc G (i + 3))) (Nat.le_of_ble_eq_true rfl) ⟨(by show _ ≤ 793551; omega), (by show _ ≤ 6715452; omega)⟩ rfl (Nat.le_of_ble_eq_true rfl) rfl rfl (fun _ _ h => h.elim) ?_
  rintro _ w1 ⟨n1, rfl, LT1, hn1⟩
  refine j_istore (lo' := [(5, _), (0, _), (1, _), (2, _), (3, _), (4, _)]) dL_law_723 (by decide) rfl ?_
  refine j_aload_n dL_law_725 rfl rfl ?_
  refine j_aload_n dL_law_726 rfl rfl ?_
  refine j_iload dL_law_727 rfl ?_
  refine j_iconst (v := 1) dL_law_729 (by decide) ?_
  refine j_iadd dL_law_730 ?_
  refine j_top (congrArg Value.int (show nI i + (1 : Int32) = nI (i + 1) from nI_add i 1)) ?_
  refine j_sld dL_law_731 (by omega) (by omega) ?_
  refine j_aload_n dL_law_732 rfl rfl ?_
  refine j_iload dL_law_733 rfl ?_
  refine j_iconst (v := 2) dL_law_735 (by decide) ?_
  refine j_iadd dL_law_736 ?_
  refine j_top (congrArg Value.int (show nI i + (2 : Int32) = nI (i + 2) from nI_add i 2)) ?_
  refine j_sld dL_law_737 (by omega) (by omega) ?_
  refine j_aload_n dL_law_738 rfl rfl ?_
  refine j_iload dL_law_739 rfl ?_
  refine j_iconst (v := 3) dL_law_741 (by decide) ?_
  refine j_iadd dL_law_742 ?_
  refine j_top (congrArg Value.int (show nI i + (3 : Int32) = nI (i + 3) from nI_add i 3)) ?_
  refine j_sld dL_law_743 (by omega) (by omega) ?_
  obtain ⟨-, ⟨s12, hs12, -⟩, -⟩ := id LT1
  refine j_callV (q := (RX11, TX11, 8)) dL_law_744 kX11_putIfAbsent lL_208 inX11_putIfAbsent seX11_putIfAbsent hs12.m rfl (kx_putIfAbsent hl w1 LT1 (z_sc G (i + 1)) (z_sc G (i + 2)) (z_sc G (i + 3))) (Nat.le_of_ble_eq_true rfl) ⟨(by show _ ≤ 793551; omega), (by show _ ≤ 6715452; omega)⟩ rfl (Nat.le_of_ble_eq_true rfl) rfl rfl (fun _ _ h => h.elim) ?_
  rintro _ w2 ⟨r2, rfl, LT2, th2, hr2⟩
  refine j_istore (lo' := [(6, _), (5, _), (0, _), (1, _), (2, _), (3, _), (4, _)]) dL_law_747 (by decide) rfl ?_
  refine j_goto (tgt := 2258) dL_law_749 (by decide) ?_
  refine j_widen (kc' := kc + 200) (ks' := ks + 6000) (by omega) (by omega) ?_
  exact j_lo2 (KK _ _ _ LT2) (z_q1 rfl (z_q1 rfl (z_q1 rfl (z_q1 rfl (z_q1 rfl z_q0)))))
set_option maxRecDepth 100000 in
set_option maxHeartbeats 4000000 in
theorem lc_11 (hl : l.stackTraces = false) {w : z_W} {x i kc ks : Nat} {S : sp_S} {n : Int64} (LT : z_LX x S S n w) (hi6 : i + 6 ≤ z_sn G) (hsn : z_sn G ≤ 3072) (hkc : kc + 200 ≤ 793551) (hks : ks + 6000 ≤ 6715452) (KK : ∀ (S9 : sp_S) (n9 : Int64) (w9 : z_W), z_LX x S9 S9 n9 w9 → z_J G l mL_law z_SL 2258 (z_lol x i) [] w9 (kc + 200) (ks + 6000)) : z_J G l mL_law z_SL 752 (z_lol x i) [] w kc ks := by
  show z_J G l mL_law _ 752 [(0, _), (1, _), (2, _), (3, _), (4, _)] [] _ _ _
  refine j_aload_n dL_law_752 rfl rfl ?_
  refine j_aload_n dL_law_753 rfl rfl ?_
  refine j_iload dL_law_754 rfl ?_
  refine j_iconst (v := 1) dL_law_756 (by decide) ?_
  refine j_iadd dL_law_757 ?_
  refine j_top (congrArg Value.int (show nI i + (1 : Int32) = nI (i + 1) from nI_add i 1)) ?_
  refine j_sld dL_law_758 (by omega) (by omega) ?_
  refine j_aload_n dL_law_759 rfl rfl ?_
  refine j_iload dL_law_760 rfl ?_
  refine j_iconst (v := 2) dL_law_762 (by decide) ?_
  refine j_iadd dL_law_763 ?_
  refine j_top (congrArg Value.int (show nI i + (2 : Int32) = nI (i + 2) from nI_add i 2)) ?_
  refine j_sld dL_law_764 (by omega) (by omega) ?_
  refine j_aload_n dL_law_765 rfl rfl ?_
  refine j_iload dL_law_766 rfl ?_
  refine j_iconst (v := 3) dL_law_768 (by decide) ?_
  refine j_iadd dL_law_769 ?_
  refine j_top (congrArg Value.int (show nI i + (3 : Int32) = nI (i + 3) from nI_add i 3)) ?_
  refine j_sld dL_law_770 (by omega) (by omega) ?_
  refine j_aload_n dL_law_771 rfl rfl ?_
  refine j_callSW dL_law_772 kL_replace lL_209 stL_replace (lw_replace hl w _ _ _ _ LT (z_sc G (i + 1)) (z_sc G (i + 2)) (z_sc G (i + 3))) (Nat.le_of_ble_eq_true rfl) ⟨(by show _ ≤ 793551; omega), (by show _ ≤ 6715452; omega)⟩ rfl (Nat.le_of_ble_eq_true rfl) rfl rfl (fun _ _ h => h.elim) ?_
  rintro _ w1 ⟨n1, rfl, LT1, hn1⟩
  refine j_istore (lo' := [(5, _), (0, _), (1, _), (2, _), (3, _), (4, _)]) dL_law_775 (by decide) rfl ?_
  refine j_aload_n dL_law_777 rfl rfl ?_
  refine j_aload_n dL_law_778 rfl rfl ?_
  refine j_iload dL_law_779 rfl ?_
  refine j_iconst (v := 1) dL_law_781 (by decide) ?_
  refine j_iadd dL_law_782 ?_
  refine j_top (congrArg Value.int (show nI i + (1 : Int32) = nI (i + 1) from nI_add i 1)) ?_
  refine j_sld dL_law_783 (by omega) (by omega) ?_
  refine j_aload_n dL_law_784 rfl rfl ?_
  refine j_iload dL_law_785 rfl ?_
  refine j_iconst (v := 2) dL_law_787 (by decide) ?_
  refine j_iadd dL_law_788 ?_
  refine j_top (congrArg Value.int (show nI i + (2 : Int32) = nI (i + 2) from nI_add i 2)) ?_
  refine j_sld dL_law_789 (by omega) (by omega) ?_
  refine j_aload_n dL_law_790 rfl rfl ?_
  refine j_iload dL_law_791 rfl ?_
  refine j_iconst (v := 3) dL_law_793 (by decide) ?_
  refine j_iadd dL_law_794 ?_
  refine j_top (congrArg Value.int (show nI i + (3 : Int32) = nI (i + 3) from nI_add i 3)) ?_
  refine j_sld dL_law_795 (by omega) (by omega) ?_
  obtain ⟨-, ⟨s13, hs13, -⟩, -⟩ := id LT1
  refine j_callV (q := (RX11, TX11, 8)) dL_law_796 kX11_replace lL_211 inX11_replace seX11_replace hs13.m rfl (kx_replace hl w1 LT1 (z_sc G (i + 1)) (z_sc G (i + 2)) (z_sc G (i + 3))) (Nat.le_of_ble_eq_true rfl) ⟨(by show _ ≤ 793551; omega), (by show _ ≤ 6715452; omega)⟩ rfl (Nat.le_of_ble_eq_true rfl) rfl rfl (fun _ _ h => h.elim) ?_
  rintro _ w2 ⟨r2, rfl, LT2, th2, hr2⟩
  refine j_istore (lo' := [(6, _), (5, _), (0, _), (1, _), (2, _), (3, _), (4, _)]) dL_law_799 (by decide) rfl ?_
  refine j_goto (tgt := 2258) dL_law_801 (by decide) ?_
  refine j_widen (kc' := kc + 200) (ks' := ks + 6000) (by omega) (by omega) ?_
  exact j_lo2 (KK _ _ _ LT2) (z_q1 rfl (z_q1 rfl (z_q1 rfl (z_q1 rfl (z_q1 rfl z_q0)))))
set_option maxRecDepth 100000 in
set_option maxHeartbeats 4000000 in
theorem lc_12 (hl : l.stackTraces = false) {w : z_W} {x i kc ks : Nat} {S : sp_S} {n : Int64} (LT : z_LX x S S n w) (hi6 : i + 6 ≤ z_sn G) (hsn : z_sn G ≤ 3072) (hkc : kc + 200 ≤ 793551) (hks : ks + 6000 ≤ 6715452) (KK : ∀ (S9 : sp_S) (n9 : Int64) (w9 : z_W), z_LX x S9 S9 n9 w9 → z_J G l mL_law z_SL 2258 (z_lol x i) [] w9 (kc + 200) (ks + 6000)) : z_J G l mL_law z_SL 804 (z_lol x i) [] w kc ks := by
  show z_J G l mL_law _ 804 [(0, _), (1, _), (2, _), (3, _), (4, _)] [] _ _ _
  refine j_aload_n dL_law_804 rfl rfl ?_
  refine j_aload_n dL_law_805 rfl rfl ?_
  refine j_iload dL_law_806 rfl ?_
  refine j_iconst (v := 1) dL_law_808 (by decide) ?_
  refine j_iadd dL_law_809 ?_
  refine j_top (congrArg Value.int (show nI i + (1 : Int32) = nI (i + 1) from nI_add i 1)) ?_
  refine j_sld dL_law_810 (by omega) (by omega) ?_
  refine j_aload_n dL_law_811 rfl rfl ?_
  refine j_iload dL_law_812 rfl ?_
  refine j_iconst (v := 2) dL_law_814 (by decide) ?_
  refine j_iadd dL_law_815 ?_
  refine j_top (congrArg Value.int (show nI i + (2 : Int32) = nI (i + 2) from nI_add i 2)) ?_
  refine j_sld dL_law_816 (by omega) (by omega) ?_
  refine j_aload_n dL_law_817 rfl rfl ?_
  refine j_iload dL_law_818 rfl ?_
  refine j_iconst (v := 3) dL_law_820 (by decide) ?_
  refine j_iadd dL_law_821 ?_
  refine j_top (congrArg Value.int (show nI i + (3 : Int32) = nI (i + 3) from nI_add i 3)) ?_
  refine j_sld dL_law_822 (by omega) (by omega) ?_
  refine j_aload_n dL_law_823 rfl rfl ?_
  refine j_iload dL_law_824 rfl ?_
  refine j_iconst (v := 4) dL_law_826 (by decide) ?_
  refine j_iadd dL_law_827 ?_
  refine j_top (congrArg Value.int (show nI i + (4 : Int32) = nI (i + 4) from nI_add i 4)) ?_
  refine j_sld dL_law_828 (by omega) (by omega) ?_
  refine j_aload_n dL_law_829 rfl rfl ?_
  refine j_callSW dL_law_830 kL_replaceIf lL_212 stL_replaceIf (lw_replaceIf hl w _ _ _ _ LT (z_sc G (i + 1)) (z_sc G (i + 2)) (z_sc G (i + 3)) (z_sc G (i + 4))) (Nat.le_of_ble_eq_true rfl) ⟨(by show _ ≤ 793551; omega), (by show _ ≤ 6715452; omega)⟩ rfl (Nat.le_of_ble_eq_true rfl) rfl rfl (fun _ _ h => h.elim) ?_
  rintro _ w1 ⟨n1, rfl, LT1, hn1⟩
  refine j_istore (lo' := [(5, _), (0, _), (1, _), (2, _), (3, _), (4, _)]) dL_law_833 (by decide) rfl ?_
  refine j_aload_n dL_law_835 rfl rfl ?_
  refine j_aload_n dL_law_836 rfl rfl ?_
  refine j_iload dL_law_837 rfl ?_
  refine j_iconst (v := 1) dL_law_839 (by decide) ?_
  refine j_iadd dL_law_840 ?_
  refine j_top (congrArg Value.int (show nI i + (1 : Int32) = nI (i + 1) from nI_add i 1)) ?_
  refine j_sld dL_law_841 (by omega) (by omega) ?_
  refine j_aload_n dL_law_842 rfl rfl ?_
  refine j_iload dL_law_843 rfl ?_
  refine j_iconst (v := 2) dL_law_845 (by decide) ?_
  refine j_iadd dL_law_846 ?_
  refine j_top (congrArg Value.int (show nI i + (2 : Int32) = nI (i + 2) from nI_add i 2)) ?_
  refine j_sld dL_law_847 (by omega) (by omega) ?_
  refine j_aload_n dL_law_848 rfl rfl ?_
  refine j_iload dL_law_849 rfl ?_
  refine j_iconst (v := 3) dL_law_851 (by decide) ?_
  refine j_iadd dL_law_852 ?_
  refine j_top (congrArg Value.int (show nI i + (3 : Int32) = nI (i + 3) from nI_add i 3)) ?_
  refine j_sld dL_law_853 (by omega) (by omega) ?_
  refine j_aload_n dL_law_854 rfl rfl ?_
  refine j_iload dL_law_855 rfl ?_
  refine j_iconst (v := 4) dL_law_857 (by decide) ?_
  refine j_iadd dL_law_858 ?_
  refine j_top (congrArg Value.int (show nI i + (4 : Int32) = nI (i + 4) from nI_add i 4)) ?_
  refine j_sld dL_law_859 (by omega) (by omega) ?_
  obtain ⟨-, ⟨s14, hs14, -⟩, -⟩ := id LT1
  refine j_callV (q := (RX11, TX11, 8)) dL_law_860 kX11_replaceIf lL_215 inX11_replaceIf seX11_replaceIf hs14.m rfl (kx_replaceIf hl w1 LT1 (z_sc G (i + 1)) (z_sc G (i + 2)) (z_sc G (i + 3)) (z_sc G (i + 4))) (Nat.le_of_ble_eq_true rfl) ⟨(by show _ ≤ 793551; omega), (by show _ ≤ 6715452; omega)⟩ rfl (Nat.le_of_ble_eq_true rfl) rfl rfl (fun _ _ h => h.elim) ?_
  rintro _ w2 ⟨r2, rfl, LT2, th2, hr2⟩
  refine j_istore (lo' := [(6, _), (5, _), (0, _), (1, _), (2, _), (3, _), (4, _)]) dL_law_863 (by decide) rfl ?_
  refine j_goto (tgt := 2258) dL_law_865 (by decide) ?_
  refine j_widen (kc' := kc + 200) (ks' := ks + 6000) (by omega) (by omega) ?_
  exact j_lo2 (KK _ _ _ LT2) (z_q1 rfl (z_q1 rfl (z_q1 rfl (z_q1 rfl (z_q1 rfl z_q0)))))
set_option maxRecDepth 100000 in
set_option maxHeartbeats 4000000 in
theorem lc_13 (hl : l.stackTraces = false) {w : z_W} {x i kc ks : Nat} {S : sp_S} {n : Int64} (LT : z_LX x S S n w) (hi6 : i + 6 ≤ z_sn G) (hsn : z_sn G ≤ 3072) (hkc : kc + 200 ≤ 793551) (hks : ks + 6000 ≤ 6715452) (KK : ∀ (S9 : sp_S) (n9 : Int64) (w9 : z_W), z_LX x S9 S9 n9 w9 → z_J G l mL_law z_SL 2258 (z_lol x i) [] w9 (kc + 200) (ks + 6000)) : z_J G l mL_law z_SL 868 (z_lol x i) [] w kc ks := by
  show z_J G l mL_law _ 868 [(0, _), (1, _), (2, _), (3, _), (4, _)] [] _ _ _
  refine j_aload_n dL_law_868 rfl rfl ?_
  refine j_aload_n dL_law_869 rfl rfl ?_
  refine j_iload dL_law_870 rfl ?_
  refine j_iconst (v := 1) dL_law_872 (by decide) ?_
  refine j_iadd dL_law_873 ?_
  refine j_top (congrArg Value.int (show nI i + (1 : Int32) = nI (i + 1) from nI_add i 1)) ?_
  refine j_sld dL_law_874 (by omega) (by omega) ?_
  refine j_aload_n dL_law_875 rfl rfl ?_
  refine j_iload dL_law_876 rfl ?_
  refine j_iconst (v := 2) dL_law_878 (by decide) ?_
  refine j_iadd dL_law_879 ?_
  refine j_top (congrArg Value.int (show nI i + (2 : Int32) = nI (i + 2) from nI_add i 2)) ?_
  refine j_sld dL_law_880 (by omega) (by omega) ?_
  refine j_aload_n dL_law_881 rfl rfl ?_
  refine j_iload dL_law_882 rfl ?_
  refine j_iconst (v := 3) dL_law_884 (by decide) ?_
  refine j_iadd dL_law_885 ?_
  refine j_top (congrArg Value.int (show nI i + (3 : Int32) = nI (i + 3) from nI_add i 3)) ?_
  refine j_sld dL_law_886 (by omega) (by omega) ?_
  refine j_aload_n dL_law_887 rfl rfl ?_
  refine j_callSW dL_law_888 kL_removePair lL_216 stL_removePair (lw_removePair hl w _ _ _ _ LT (z_sc G (i + 1)) (z_sc G (i + 2)) (z_sc G (i + 3))) (Nat.le_of_ble_eq_true rfl) ⟨(by show _ ≤ 793551; omega), (by show _ ≤ 6715452; omega)⟩ rfl (Nat.le_of_ble_eq_true rfl) rfl rfl (fun _ _ h => h.elim) ?_
  rintro _ w1 ⟨n1, rfl, LT1, hn1⟩
  refine j_istore (lo' := [(5, _), (0, _), (1, _), (2, _), (3, _), (4, _)]) dL_law_891 (by decide) rfl ?_
  refine j_aload_n dL_law_893 rfl rfl ?_
  refine j_aload_n dL_law_894 rfl rfl ?_
  refine j_iload dL_law_895 rfl ?_
  refine j_iconst (v := 1) dL_law_897 (by decide) ?_
  refine j_iadd dL_law_898 ?_
  refine j_top (congrArg Value.int (show nI i + (1 : Int32) = nI (i + 1) from nI_add i 1)) ?_
  refine j_sld dL_law_899 (by omega) (by omega) ?_
  refine j_aload_n dL_law_900 rfl rfl ?_
  refine j_iload dL_law_901 rfl ?_
  refine j_iconst (v := 2) dL_law_903 (by decide) ?_
  refine j_iadd dL_law_904 ?_
  refine j_top (congrArg Value.int (show nI i + (2 : Int32) = nI (i + 2) from nI_add i 2)) ?_
  refine j_sld dL_law_905 (by omega) (by omega) ?_
  refine j_aload_n dL_law_906 rfl rfl ?_
  refine j_iload dL_law_907 rfl ?_
  refine j_iconst (v := 3) dL_law_909 (by decide) ?_
  refine j_iadd dL_law_910 ?_
  refine j_top (congrArg Value.int (show nI i + (3 : Int32) = nI (i + 3) from nI_add i 3)) ?_
  refine j_sld dL_law_911 (by omega) (by omega) ?_
  obtain ⟨-, ⟨s15, hs15, -⟩, -⟩ := id LT1
  refine j_callV (q := (RX11, TX11, 8)) dL_law_912 kX11_removePair lL_218 inX11_removePair seX11_removePair hs15.m rfl (kx_removePair hl w1 LT1 (z_sc G (i + 1)) (z_sc G (i + 2)) (z_sc G (i + 3))) (Nat.le_of_ble_eq_true rfl) ⟨(by show _ ≤ 793551; omega), (by show _ ≤ 6715452; omega)⟩ rfl (Nat.le_of_ble_eq_true rfl) rfl rfl (fun _ _ h => h.elim) ?_
  rintro _ w2 ⟨r2, rfl, LT2, th2, hr2⟩
  refine j_istore (lo' := [(6, _), (5, _), (0, _), (1, _), (2, _), (3, _), (4, _)]) dL_law_915 (by decide) rfl ?_
  refine j_goto (tgt := 2258) dL_law_917 (by decide) ?_
  refine j_widen (kc' := kc + 200) (ks' := ks + 6000) (by omega) (by omega) ?_
  exact j_lo2 (KK _ _ _ LT2) (z_q1 rfl (z_q1 rfl (z_q1 rfl (z_q1 rfl (z_q1 rfl z_q0)))))
set_option maxRecDepth 100000 in
set_option maxHeartbeats 4000000 in
theorem lc_14 (hl : l.stackTraces = false) {w : z_W} {x i kc ks : Nat} {S : sp_S} {n : Int64} (LT : z_LX x S S n w) (hi6 : i + 6 ≤ z_sn G) (hsn : z_sn G ≤ 3072) (hkc : kc + 200 ≤ 793551) (hks : ks + 6000 ≤ 6715452) (KK : ∀ (S9 : sp_S) (n9 : Int64) (w9 : z_W), z_LX x S9 S9 n9 w9 → z_J G l mL_law z_SL 2258 (z_lol x i) [] w9 (kc + 200) (ks + 6000)) : z_J G l mL_law z_SL 920 (z_lol x i) [] w kc ks := by
  show z_J G l mL_law _ 920 [(0, _), (1, _), (2, _), (3, _), (4, _)] [] _ _ _
  refine j_aload_n dL_law_920 rfl rfl ?_
  refine j_aload_n dL_law_921 rfl rfl ?_
  refine j_iload dL_law_922 rfl ?_
  refine j_iconst (v := 1) dL_law_924 (by decide) ?_
  refine j_iadd dL_law_925 ?_
  refine j_top (congrArg Value.int (show nI i + (1 : Int32) = nI (i + 1) from nI_add i 1)) ?_
  refine j_sld dL_law_926 (by omega) (by omega) ?_
  refine j_aload_n dL_law_927 rfl rfl ?_
  refine j_iload dL_law_928 rfl ?_
  refine j_iconst (v := 2) dL_law_930 (by decide) ?_
  refine j_iadd dL_law_931 ?_
  refine j_top (congrArg Value.int (show nI i + (2 : Int32) = nI (i + 2) from nI_add i 2)) ?_
  refine j_sld dL_law_932 (by omega) (by omega) ?_
  refine j_aload_n dL_law_933 rfl rfl ?_
  refine j_iload dL_law_934 rfl ?_
  refine j_iconst (v := 3) dL_law_936 (by decide) ?_
  refine j_iadd dL_law_937 ?_
  refine j_top (congrArg Value.int (show nI i + (3 : Int32) = nI (i + 3) from nI_add i 3)) ?_
  refine j_sld dL_law_938 (by omega) (by omega) ?_
  refine j_aload_n dL_law_939 rfl rfl ?_
  refine j_iload dL_law_940 rfl ?_
  refine j_iconst (v := 4) dL_law_942 (by decide) ?_
  refine j_iadd dL_law_943 ?_
  refine j_top (congrArg Value.int (show nI i + (4 : Int32) = nI (i + 4) from nI_add i 4)) ?_
  refine j_sld dL_law_944 (by omega) (by omega) ?_
  refine j_aload_n dL_law_945 rfl rfl ?_
  refine j_callSW dL_law_946 kL_computeIfAbsent lL_219 stL_computeIfAbsent (lw_computeIfAbsent hl w _ _ _ _ LT (z_sc G (i + 1)) (z_sc G (i + 2)) (z_sc G (i + 3)) (z_sc G (i + 4))) (Nat.le_of_ble_eq_true rfl) ⟨(by show _ ≤ 793551; omega), (by show _ ≤ 6715452; omega)⟩ rfl (Nat.le_of_ble_eq_true rfl) rfl rfl (fun _ _ h => h.elim) ?_
  rintro _ w1 ⟨n1, rfl, LT1, hn1⟩
  refine j_istore (lo' := [(5, _), (0, _), (1, _), (2, _), (3, _), (4, _)]) dL_law_949 (by decide) rfl ?_
  refine j_aload_n dL_law_951 rfl rfl ?_
  refine j_aload_n dL_law_952 rfl rfl ?_
  refine j_iload dL_law_953 rfl ?_
  refine j_iconst (v := 1) dL_law_955 (by decide) ?_
  refine j_iadd dL_law_956 ?_
  refine j_top (congrArg Value.int (show nI i + (1 : Int32) = nI (i + 1) from nI_add i 1)) ?_
  refine j_sld dL_law_957 (by omega) (by omega) ?_
  refine j_aload_n dL_law_958 rfl rfl ?_
  refine j_iload dL_law_959 rfl ?_
  refine j_iconst (v := 2) dL_law_961 (by decide) ?_
  refine j_iadd dL_law_962 ?_
  refine j_top (congrArg Value.int (show nI i + (2 : Int32) = nI (i + 2) from nI_add i 2)) ?_
  refine j_sld dL_law_963 (by omega) (by omega) ?_
  refine j_aload_n dL_law_964 rfl rfl ?_
  refine j_iload dL_law_965 rfl ?_
  refine j_iconst (v := 3) dL_law_967 (by decide) ?_
  refine j_iadd dL_law_968 ?_
  refine j_top (congrArg Value.int (show nI i + (3 : Int32) = nI (i + 3) from nI_add i 3)) ?_
  refine j_sld dL_law_969 (by omega) (by omega) ?_
  refine j_aload_n dL_law_970 rfl rfl ?_
  refine j_iload dL_law_971 rfl ?_
  refine j_iconst (v := 4) dL_law_973 (by decide) ?_
  refine j_iadd dL_law_974 ?_
  refine j_top (congrArg Value.int (show nI i + (4 : Int32) = nI (i + 4) from nI_add i 4)) ?_
  refine j_sld dL_law_975 (by omega) (by omega) ?_
  obtain ⟨-, ⟨s16, hs16, -⟩, -⟩ := id LT1
  refine j_callV (q := (RX11, TX11, 8)) dL_law_976 kX11_computeIfAbsent lL_221 inX11_computeIfAbsent seX11_computeIfAbsent hs16.m rfl (kx_computeIfAbsent hl w1 LT1 (z_sc G (i + 1)) (z_sc G (i + 2)) (z_sc G (i + 3)) (z_sc G (i + 4))) (Nat.le_of_ble_eq_true rfl) ⟨(by show _ ≤ 793551; omega), (by show _ ≤ 6715452; omega)⟩ rfl (Nat.le_of_ble_eq_true rfl) rfl rfl (fun _ _ h => h.elim) ?_
  rintro _ w2 ⟨r2, rfl, LT2, th2, hr2⟩
  refine j_istore (lo' := [(6, _), (5, _), (0, _), (1, _), (2, _), (3, _), (4, _)]) dL_law_979 (by decide) rfl ?_
  refine j_goto (tgt := 2258) dL_law_981 (by decide) ?_
  refine j_widen (kc' := kc + 200) (ks' := ks + 6000) (by omega) (by omega) ?_
  exact j_lo2 (KK _ _ _ LT2) (z_q1 rfl (z_q1 rfl (z_q1 rfl (z_q1 rfl (z_q1 rfl z_q0)))))
set_option maxRecDepth 100000 in
set_option maxHeartbeats 4000000 in
theorem lc_15 (hl : l.stackTraces = false) {w : z_W} {x i kc ks : Nat} {S : sp_S} {n : Int64} (LT : z_LX x S S n w) (hi6 : i + 6 ≤ z_sn G) (hsn : z_sn G ≤ 3072) (hkc : kc + 200 ≤ 793551) (hks : ks + 6000 ≤ 6715452) (KK : ∀ (S9 : sp_S) (n9 : Int64) (w9 : z_W), z_LX x S9 S9 n9 w9 → z_J G l mL_law z_SL 2258 (z_lol x i) [] w9 (kc + 200) (ks + 6000)) : z_J G l mL_law z_SL 984 (z_lol x i) [] w kc ks := by
  show z_J G l mL_law _ 984 [(0, _), (1, _), (2, _), (3, _), (4, _)] [] _ _ _
  refine j_aload_n dL_law_984 rfl rfl ?_
  refine j_aload_n dL_law_985 rfl rfl ?_
  refine j_iload dL_law_986 rfl ?_
  refine j_iconst (v := 1) dL_law_988 (by decide) ?_
  refine j_iadd dL_law_989 ?_
  refine j_top (congrArg Value.int (show nI i + (1 : Int32) = nI (i + 1) from nI_add i 1)) ?_
  refine j_sld dL_law_990 (by omega) (by omega) ?_
  refine j_aload_n dL_law_991 rfl rfl ?_
  refine j_iload dL_law_992 rfl ?_
  refine j_iconst (v := 2) dL_law_994 (by decide) ?_
  refine j_iadd dL_law_995 ?_
  refine j_top (congrArg Value.int (show nI i + (2 : Int32) = nI (i + 2) from nI_add i 2)) ?_
  refine j_sld dL_law_996 (by omega) (by omega) ?_
  refine j_aload_n dL_law_997 rfl rfl ?_
  refine j_iload dL_law_998 rfl ?_
  refine j_iconst (v := 3) dL_law_1000 (by decide) ?_
  refine j_iadd dL_law_1001 ?_
  refine j_top (congrArg Value.int (show nI i + (3 : Int32) = nI (i + 3) from nI_add i 3)) ?_
  refine j_sld dL_law_1002 (by omega) (by omega) ?_
  refine j_aload_n dL_law_1003 rfl rfl ?_
  refine j_iload dL_law_1004 rfl ?_
  refine j_iconst (v := 4) dL_law_1006 (by decide) ?_
  refine j_iadd dL_law_1007 ?_
  refine j_top (congrArg Value.int (show nI i + (4 : Int32) = nI (i + 4) from nI_add i 4)) ?_
  refine j_sld dL_law_1008 (by omega) (by omega) ?_
  refine j_aload_n dL_law_1009 rfl rfl ?_
  refine j_callSW dL_law_1010 kL_computeIfPresent lL_222 stL_computeIfPresent (lw_computeIfPresent hl w _ _ _ _ LT (z_sc G (i + 1)) (z_sc G (i + 2)) (z_sc G (i + 3)) (z_sc G (i + 4))) (Nat.le_of_ble_eq_true rfl) ⟨(by show _ ≤ 793551; omega), (by show _ ≤ 6715452; omega)⟩ rfl (Nat.le_of_ble_eq_true rfl) rfl rfl (fun _ _ h => h.elim) ?_
  rintro _ w1 ⟨n1, rfl, LT1, hn1⟩
  refine j_istore (lo' := [(5, _), (0, _), (1, _), (2, _), (3, _), (4, _)]) dL_law_1013 (by decide) rfl ?_
  refine j_aload_n dL_law_1015 rfl rfl ?_
  refine j_aload_n dL_law_1016 rfl rfl ?_
  refine j_iload dL_law_1017 rfl ?_
  refine j_iconst (v := 1) dL_law_1019 (by decide) ?_
  refine j_iadd dL_law_1020 ?_
  refine j_top (congrArg Value.int (show nI i + (1 : Int32) = nI (i + 1) from nI_add i 1)) ?_
  refine j_sld dL_law_1021 (by omega) (by omega) ?_
  refine j_aload_n dL_law_1022 rfl rfl ?_
  refine j_iload dL_law_1023 rfl ?_
  refine j_iconst (v := 2) dL_law_1025 (by decide) ?_
  refine j_iadd dL_law_1026 ?_
  refine j_top (congrArg Value.int (show nI i + (2 : Int32) = nI (i + 2) from nI_add i 2)) ?_
  refine j_sld dL_law_1027 (by omega) (by omega) ?_
  refine j_aload_n dL_law_1028 rfl rfl ?_
  refine j_iload dL_law_1029 rfl ?_
  refine j_iconst (v := 3) dL_law_1031 (by decide) ?_
  refine j_iadd dL_law_1032 ?_
  refine j_top (congrArg Value.int (show nI i + (3 : Int32) = nI (i + 3) from nI_add i 3)) ?_
  refine j_sld dL_law_1033 (by omega) (by omega) ?_
  refine j_aload_n dL_law_1034 rfl rfl ?_
  refine j_iload dL_law_1035 rfl ?_
  refine j_iconst (v := 4) dL_law_1037 (by decide) ?_
  refine j_iadd dL_law_1038 ?_
  refine j_top (congrArg Value.int (show nI i + (4 : Int32) = nI (i + 4) from nI_add i 4)) ?_
  refine j_sld dL_law_1039 (by omega) (by omega) ?_
  obtain ⟨-, ⟨s17, hs17, -⟩, -⟩ := id LT1
  refine j_callV (q := (RX11, TX11, 8)) dL_law_1040 kX11_computeIfPresent lL_224 inX11_computeIfPresent seX11_computeIfPresent hs17.m rfl (kx_computeIfPresent hl w1 LT1 (z_sc G (i + 1)) (z_sc G (i + 2)) (z_sc G (i + 3)) (z_sc G (i + 4))) (Nat.le_of_ble_eq_true rfl) ⟨(by show _ ≤ 793551; omega), (by show _ ≤ 6715452; omega)⟩ rfl (Nat.le_of_ble_eq_true rfl) rfl rfl (fun _ _ h => h.elim) ?_
  rintro _ w2 ⟨r2, rfl, LT2, th2, hr2⟩
  refine j_istore (lo' := [(6, _), (5, _), (0, _), (1, _), (2, _), (3, _), (4, _)]) dL_law_1043 (by decide) rfl ?_
  refine j_goto (tgt := 2258) dL_law_1045 (by decide) ?_
  refine j_widen (kc' := kc + 200) (ks' := ks + 6000) (by omega) (by omega) ?_
  exact j_lo2 (KK _ _ _ LT2) (z_q1 rfl (z_q1 rfl (z_q1 rfl (z_q1 rfl (z_q1 rfl z_q0)))))
set_option maxRecDepth 100000 in
set_option maxHeartbeats 4000000 in
theorem lc_16 (hl : l.stackTraces = false) {w : z_W} {x i kc ks : Nat} {S : sp_S} {n : Int64} (LT : z_LX x S S n w) (hi6 : i + 6 ≤ z_sn G) (hsn : z_sn G ≤ 3072) (hkc : kc + 200 ≤ 793551) (hks : ks + 6000 ≤ 6715452) (KK : ∀ (S9 : sp_S) (n9 : Int64) (w9 : z_W), z_LX x S9 S9 n9 w9 → z_J G l mL_law z_SL 2258 (z_lol x i) [] w9 (kc + 200) (ks + 6000)) : z_J G l mL_law z_SL 1048 (z_lol x i) [] w kc ks := by
  show z_J G l mL_law _ 1048 [(0, _), (1, _), (2, _), (3, _), (4, _)] [] _ _ _
  refine j_aload_n dL_law_1048 rfl rfl ?_
  refine j_aload_n dL_law_1049 rfl rfl ?_
  refine j_iload dL_law_1050 rfl ?_
  refine j_iconst (v := 1) dL_law_1052 (by decide) ?_
  refine j_iadd dL_law_1053 ?_
  refine j_top (congrArg Value.int (show nI i + (1 : Int32) = nI (i + 1) from nI_add i 1)) ?_
  refine j_sld dL_law_1054 (by omega) (by omega) ?_
  refine j_aload_n dL_law_1055 rfl rfl ?_
  refine j_iload dL_law_1056 rfl ?_
  refine j_iconst (v := 2) dL_law_1058 (by decide) ?_
  refine j_iadd dL_law_1059 ?_
  refine j_top (congrArg Value.int (show nI i + (2 : Int32) = nI (i + 2) from nI_add i 2)) ?_
  refine j_sld dL_law_1060 (by omega) (by omega) ?_
  refine j_aload_n dL_law_1061 rfl rfl ?_
  refine j_iload dL_law_1062 rfl ?_
  refine j_iconst (v := 3) dL_law_1064 (by decide) ?_
  refine j_iadd dL_law_1065 ?_
  refine j_top (congrArg Value.int (show nI i + (3 : Int32) = nI (i + 3) from nI_add i 3)) ?_
  refine j_sld dL_law_1066 (by omega) (by omega) ?_
  refine j_aload_n dL_law_1067 rfl rfl ?_
  refine j_iload dL_law_1068 rfl ?_
  refine j_iconst (v := 4) dL_law_1070 (by decide) ?_
  refine j_iadd dL_law_1071 ?_
  refine j_top (congrArg Value.int (show nI i + (4 : Int32) = nI (i + 4) from nI_add i 4)) ?_
  refine j_sld dL_law_1072 (by omega) (by omega) ?_
  refine j_aload_n dL_law_1073 rfl rfl ?_
  refine j_callSW dL_law_1074 kL_compute lL_225 stL_compute (lw_compute hl w _ _ _ _ LT (z_sc G (i + 1)) (z_sc G (i + 2)) (z_sc G (i + 3)) (z_sc G (i + 4))) (Nat.le_of_ble_eq_true rfl) ⟨(by show _ ≤ 793551; omega), (by show _ ≤ 6715452; omega)⟩ rfl (Nat.le_of_ble_eq_true rfl) rfl rfl (fun _ _ h => h.elim) ?_
  rintro _ w1 ⟨n1, rfl, LT1, hn1⟩
  refine j_istore (lo' := [(5, _), (0, _), (1, _), (2, _), (3, _), (4, _)]) dL_law_1077 (by decide) rfl ?_
  refine j_aload_n dL_law_1079 rfl rfl ?_
  refine j_aload_n dL_law_1080 rfl rfl ?_
  refine j_iload dL_law_1081 rfl ?_
  refine j_iconst (v := 1) dL_law_1083 (by decide) ?_
  refine j_iadd dL_law_1084 ?_
  refine j_top (congrArg Value.int (show nI i + (1 : Int32) = nI (i + 1) from nI_add i 1)) ?_
  refine j_sld dL_law_1085 (by omega) (by omega) ?_
  refine j_aload_n dL_law_1086 rfl rfl ?_
  refine j_iload dL_law_1087 rfl ?_
  refine j_iconst (v := 2) dL_law_1089 (by decide) ?_
  refine j_iadd dL_law_1090 ?_
  refine j_top (congrArg Value.int (show nI i + (2 : Int32) = nI (i + 2) from nI_add i 2)) ?_
  refine j_sld dL_law_1091 (by omega) (by omega) ?_
  refine j_aload_n dL_law_1092 rfl rfl ?_
  refine j_iload dL_law_1093 rfl ?_
  refine j_iconst (v := 3) dL_law_1095 (by decide) ?_
  refine j_iadd dL_law_1096 ?_
  refine j_top (congrArg Value.int (show nI i + (3 : Int32) = nI (i + 3) from nI_add i 3)) ?_
  refine j_sld dL_law_1097 (by omega) (by omega) ?_
  refine j_aload_n dL_law_1098 rfl rfl ?_
  refine j_iload dL_law_1099 rfl ?_
  refine j_iconst (v := 4) dL_law_1101 (by decide) ?_
  refine j_iadd dL_law_1102 ?_
  refine j_top (congrArg Value.int (show nI i + (4 : Int32) = nI (i + 4) from nI_add i 4)) ?_
  refine j_sld dL_law_1103 (by omega) (by omega) ?_
  obtain ⟨-, ⟨s18, hs18, -⟩, -⟩ := id LT1
  refine j_callV (q := (RX11, TX11, 8)) dL_law_1104 kX11_compute lL_227 inX11_compute seX11_compute hs18.m rfl (kx_compute hl w1 LT1 (z_sc G (i + 1)) (z_sc G (i + 2)) (z_sc G (i + 3)) (z_sc G (i + 4))) (Nat.le_of_ble_eq_true rfl) ⟨(by show _ ≤ 793551; omega), (by show _ ≤ 6715452; omega)⟩ rfl (Nat.le_of_ble_eq_true rfl) rfl rfl (fun _ _ h => h.elim) ?_
  rintro _ w2 ⟨r2, rfl, LT2, th2, hr2⟩
  refine j_istore (lo' := [(6, _), (5, _), (0, _), (1, _), (2, _), (3, _), (4, _)]) dL_law_1107 (by decide) rfl ?_
  refine j_goto (tgt := 2258) dL_law_1109 (by decide) ?_
  refine j_widen (kc' := kc + 200) (ks' := ks + 6000) (by omega) (by omega) ?_
  exact j_lo2 (KK _ _ _ LT2) (z_q1 rfl (z_q1 rfl (z_q1 rfl (z_q1 rfl (z_q1 rfl z_q0)))))
set_option maxRecDepth 100000 in
set_option maxHeartbeats 4000000 in
theorem lc_17 (hl : l.stackTraces = false) {w : z_W} {x i kc ks : Nat} {S : sp_S} {n : Int64} (LT : z_LX x S S n w) (hi6 : i + 6 ≤ z_sn G) (hsn : z_sn G ≤ 3072) (hkc : kc + 200 ≤ 793551) (hks : ks + 6000 ≤ 6715452) (KK : ∀ (S9 : sp_S) (n9 : Int64) (w9 : z_W), z_LX x S9 S9 n9 w9 → z_J G l mL_law z_SL 2258 (z_lol x i) [] w9 (kc + 200) (ks + 6000)) : z_J G l mL_law z_SL 1112 (z_lol x i) [] w kc ks := by
  show z_J G l mL_law _ 1112 [(0, _), (1, _), (2, _), (3, _), (4, _)] [] _ _ _
  refine j_aload_n dL_law_1112 rfl rfl ?_
  refine j_aload_n dL_law_1113 rfl rfl ?_
  refine j_iload dL_law_1114 rfl ?_
  refine j_iconst (v := 1) dL_law_1116 (by decide) ?_
  refine j_iadd dL_law_1117 ?_
  refine j_top (congrArg Value.int (show nI i + (1 : Int32) = nI (i + 1) from nI_add i 1)) ?_
  refine j_sld dL_law_1118 (by omega) (by omega) ?_
  refine j_aload_n dL_law_1119 rfl rfl ?_
  refine j_iload dL_law_1120 rfl ?_
  refine j_iconst (v := 2) dL_law_1122 (by decide) ?_
  refine j_iadd dL_law_1123 ?_
  refine j_top (congrArg Value.int (show nI i + (2 : Int32) = nI (i + 2) from nI_add i 2)) ?_
  refine j_sld dL_law_1124 (by omega) (by omega) ?_
  refine j_aload_n dL_law_1125 rfl rfl ?_
  refine j_iload dL_law_1126 rfl ?_
  refine j_iconst (v := 3) dL_law_1128 (by decide) ?_
  refine j_iadd dL_law_1129 ?_
  refine j_top (congrArg Value.int (show nI i + (3 : Int32) = nI (i + 3) from nI_add i 3)) ?_
  refine j_sld dL_law_1130 (by omega) (by omega) ?_
  refine j_aload_n dL_law_1131 rfl rfl ?_
  refine j_iload dL_law_1132 rfl ?_
  refine j_iconst (v := 4) dL_law_1134 (by decide) ?_
  refine j_iadd dL_law_1135 ?_
  refine j_top (congrArg Value.int (show nI i + (4 : Int32) = nI (i + 4) from nI_add i 4)) ?_
  refine j_sld dL_law_1136 (by omega) (by omega) ?_
  refine j_aload_n dL_law_1137 rfl rfl ?_
  refine j_callSW dL_law_1138 kL_merge lL_228 stL_merge (lw_merge hl w _ _ _ _ LT (z_sc G (i + 1)) (z_sc G (i + 2)) (z_sc G (i + 3)) (z_sc G (i + 4))) (Nat.le_of_ble_eq_true rfl) ⟨(by show _ ≤ 793551; omega), (by show _ ≤ 6715452; omega)⟩ rfl (Nat.le_of_ble_eq_true rfl) rfl rfl (fun _ _ h => h.elim) ?_
  rintro _ w1 ⟨n1, rfl, LT1, hn1⟩
  refine j_istore (lo' := [(5, _), (0, _), (1, _), (2, _), (3, _), (4, _)]) dL_law_1141 (by decide) rfl ?_
  refine j_aload_n dL_law_1143 rfl rfl ?_
  refine j_aload_n dL_law_1144 rfl rfl ?_
  refine j_iload dL_law_1145 rfl ?_
  refine j_iconst (v := 1) dL_law_1147 (by decide) ?_
  refine j_iadd dL_law_1148 ?_
  refine j_top (congrArg Value.int (show nI i + (1 : Int32) = nI (i + 1) from nI_add i 1)) ?_
  refine j_sld dL_law_1149 (by omega) (by omega) ?_
  refine j_aload_n dL_law_1150 rfl rfl ?_
  refine j_iload dL_law_1151 rfl ?_
  refine j_iconst (v := 2) dL_law_1153 (by decide) ?_
  refine j_iadd dL_law_1154 ?_
  refine j_top (congrArg Value.int (show nI i + (2 : Int32) = nI (i + 2) from nI_add i 2)) ?_
  refine j_sld dL_law_1155 (by omega) (by omega) ?_
  refine j_aload_n dL_law_1156 rfl rfl ?_
  refine j_iload dL_law_1157 rfl ?_
  refine j_iconst (v := 3) dL_law_1159 (by decide) ?_
  refine j_iadd dL_law_1160 ?_
  refine j_top (congrArg Value.int (show nI i + (3 : Int32) = nI (i + 3) from nI_add i 3)) ?_
  refine j_sld dL_law_1161 (by omega) (by omega) ?_
  refine j_aload_n dL_law_1162 rfl rfl ?_
  refine j_iload dL_law_1163 rfl ?_
  refine j_iconst (v := 4) dL_law_1165 (by decide) ?_
  refine j_iadd dL_law_1166 ?_
  refine j_top (congrArg Value.int (show nI i + (4 : Int32) = nI (i + 4) from nI_add i 4)) ?_
  refine j_sld dL_law_1167 (by omega) (by omega) ?_
  obtain ⟨-, ⟨s19, hs19, -⟩, -⟩ := id LT1
  refine j_callV (q := (RX11, TX11, 8)) dL_law_1168 kX11_merge lL_230 inX11_merge seX11_merge hs19.m rfl (kx_merge hl w1 LT1 (z_sc G (i + 1)) (z_sc G (i + 2)) (z_sc G (i + 3)) (z_sc G (i + 4))) (Nat.le_of_ble_eq_true rfl) ⟨(by show _ ≤ 793551; omega), (by show _ ≤ 6715452; omega)⟩ rfl (Nat.le_of_ble_eq_true rfl) rfl rfl (fun _ _ h => h.elim) ?_
  rintro _ w2 ⟨r2, rfl, LT2, th2, hr2⟩
  refine j_istore (lo' := [(6, _), (5, _), (0, _), (1, _), (2, _), (3, _), (4, _)]) dL_law_1171 (by decide) rfl ?_
  refine j_goto (tgt := 2258) dL_law_1173 (by decide) ?_
  refine j_widen (kc' := kc + 200) (ks' := ks + 6000) (by omega) (by omega) ?_
  exact j_lo2 (KK _ _ _ LT2) (z_q1 rfl (z_q1 rfl (z_q1 rfl (z_q1 rfl (z_q1 rfl z_q0)))))
set_option maxRecDepth 100000 in
set_option maxHeartbeats 4000000 in
theorem lc_18 (hl : l.stackTraces = false) {w : z_W} {x i kc ks : Nat} {S : sp_S} {n : Int64} (LT : z_LX x S S n w) (hi6 : i + 6 ≤ z_sn G) (hsn : z_sn G ≤ 3072) (hkc : kc + 200 ≤ 793551) (hks : ks + 6000 ≤ 6715452) (KK : ∀ (S9 : sp_S) (n9 : Int64) (w9 : z_W), z_LX x S9 S9 n9 w9 → z_J G l mL_law z_SL 2258 (z_lol x i) [] w9 (kc + 200) (ks + 6000)) : z_J G l mL_law z_SL 1176 (z_lol x i) [] w kc ks := by
  show z_J G l mL_law _ 1176 [(0, _), (1, _), (2, _), (3, _), (4, _)] [] _ _ _
  refine j_aload_n dL_law_1176 rfl rfl ?_
  refine j_aload_n dL_law_1177 rfl rfl ?_
  refine j_iload dL_law_1178 rfl ?_
  refine j_iconst (v := 1) dL_law_1180 (by decide) ?_
  refine j_iadd dL_law_1181 ?_
  refine j_top (congrArg Value.int (show nI i + (1 : Int32) = nI (i + 1) from nI_add i 1)) ?_
  refine j_sld dL_law_1182 (by omega) (by omega) ?_
  refine j_aload_n dL_law_1183 rfl rfl ?_
  refine j_iload dL_law_1184 rfl ?_
  refine j_iconst (v := 2) dL_law_1186 (by decide) ?_
  refine j_iadd dL_law_1187 ?_
  refine j_top (congrArg Value.int (show nI i + (2 : Int32) = nI (i + 2) from nI_add i 2)) ?_
  refine j_sld dL_law_1188 (by omega) (by omega) ?_
  refine j_aload_n dL_law_1189 rfl rfl ?_
  refine j_callSW dL_law_1190 kL_hearTable lL_231 stL_hearTable (lw_hearTable hl w _ _ _ _ LT (z_sc G (i + 1)) (z_sc G (i + 2))) (Nat.le_of_ble_eq_true rfl) ⟨(by show _ ≤ 793551; omega), (by show _ ≤ 6715452; omega)⟩ rfl (Nat.le_of_ble_eq_true rfl) rfl rfl (fun _ _ h => h.elim) ?_
  rintro _ w1 ⟨n1, rfl, LT1, hn1⟩
  refine j_istore (lo' := [(5, _), (0, _), (1, _), (2, _), (3, _), (4, _)]) dL_law_1193 (by decide) rfl ?_
  refine j_aload_n dL_law_1195 rfl rfl ?_
  refine j_aload_n dL_law_1196 rfl rfl ?_
  refine j_iload dL_law_1197 rfl ?_
  refine j_iconst (v := 1) dL_law_1199 (by decide) ?_
  refine j_iadd dL_law_1200 ?_
  refine j_top (congrArg Value.int (show nI i + (1 : Int32) = nI (i + 1) from nI_add i 1)) ?_
  refine j_sld dL_law_1201 (by omega) (by omega) ?_
  refine j_aload_n dL_law_1202 rfl rfl ?_
  refine j_iload dL_law_1203 rfl ?_
  refine j_iconst (v := 2) dL_law_1205 (by decide) ?_
  refine j_iadd dL_law_1206 ?_
  refine j_top (congrArg Value.int (show nI i + (2 : Int32) = nI (i + 2) from nI_add i 2)) ?_
  refine j_sld dL_law_1207 (by omega) (by omega) ?_
  obtain ⟨-, ⟨s20, hs20, -⟩, -⟩ := id LT1
  refine j_callV (q := (RX11, TX11, 8)) dL_law_1208 kX11_hearTable lL_233 inX11_hearTable seX11_hearTable hs20.m rfl (kx_hearTable hl w1 LT1 (z_sc G (i + 1)) (z_sc G (i + 2))) (Nat.le_of_ble_eq_true rfl) ⟨(by show _ ≤ 793551; omega), (by show _ ≤ 6715452; omega)⟩ rfl (Nat.le_of_ble_eq_true rfl) rfl rfl (fun _ _ h => h.elim) ?_
  rintro _ w2 ⟨r2, rfl, LT2, th2, hr2⟩
  refine j_istore (lo' := [(6, _), (5, _), (0, _), (1, _), (2, _), (3, _), (4, _)]) dL_law_1211 (by decide) rfl ?_
  refine j_goto (tgt := 2258) dL_law_1213 (by decide) ?_
  refine j_widen (kc' := kc + 200) (ks' := ks + 6000) (by omega) (by omega) ?_
  exact j_lo2 (KK _ _ _ LT2) (z_q1 rfl (z_q1 rfl (z_q1 rfl (z_q1 rfl (z_q1 rfl z_q0)))))
set_option maxRecDepth 100000 in
set_option maxHeartbeats 4000000 in
theorem lc_19 (hl : l.stackTraces = false) {w : z_W} {x i kc ks : Nat} {S : sp_S} {n : Int64} (LT : z_LX x S S n w) (hi6 : i + 6 ≤ z_sn G) (hsn : z_sn G ≤ 3072) (hkc : kc + 200 ≤ 793551) (hks : ks + 6000 ≤ 6715452) (KK : ∀ (S9 : sp_S) (n9 : Int64) (w9 : z_W), z_LX x S9 S9 n9 w9 → z_J G l mL_law z_SL 2258 (z_lol x i) [] w9 (kc + 200) (ks + 6000)) : z_J G l mL_law z_SL 1216 (z_lol x i) [] w kc ks := by
  show z_J G l mL_law _ 1216 [(0, _), (1, _), (2, _), (3, _), (4, _)] [] _ _ _
  refine j_aload_n dL_law_1216 rfl rfl ?_
  refine j_aload_n dL_law_1217 rfl rfl ?_
  refine j_iload dL_law_1218 rfl ?_
  refine j_iconst (v := 1) dL_law_1220 (by decide) ?_
  refine j_iadd dL_law_1221 ?_
  refine j_top (congrArg Value.int (show nI i + (1 : Int32) = nI (i + 1) from nI_add i 1)) ?_
  refine j_sld dL_law_1222 (by omega) (by omega) ?_
  refine j_aload_n dL_law_1223 rfl rfl ?_
  refine j_iload dL_law_1224 rfl ?_
  refine j_iconst (v := 2) dL_law_1226 (by decide) ?_
  refine j_iadd dL_law_1227 ?_
  refine j_top (congrArg Value.int (show nI i + (2 : Int32) = nI (i + 2) from nI_add i 2)) ?_
  refine j_sld dL_law_1228 (by omega) (by omega) ?_
  refine j_aload_n dL_law_1229 rfl rfl ?_
  refine j_iload dL_law_1230 rfl ?_
  refine j_iconst (v := 3) dL_law_1232 (by decide) ?_
  refine j_iadd dL_law_1233 ?_
  refine j_top (congrArg Value.int (show nI i + (3 : Int32) = nI (i + 3) from nI_add i 3)) ?_
  refine j_sld dL_law_1234 (by omega) (by omega) ?_
  refine j_aload_n dL_law_1235 rfl rfl ?_
  refine j_callSW dL_law_1236 kL_replaceTable lL_234 stL_replaceTable (lw_replaceTable hl w _ _ _ _ LT (z_sc G (i + 1)) (z_sc G (i + 2)) (z_sc G (i + 3))) (Nat.le_of_ble_eq_true rfl) ⟨(by show _ ≤ 793551; omega), (by show _ ≤ 6715452; omega)⟩ rfl (Nat.le_of_ble_eq_true rfl) rfl rfl (fun _ _ h => h.elim) ?_
  rintro _ w1 ⟨n1, rfl, LT1, hn1⟩
  refine j_istore (lo' := [(5, _), (0, _), (1, _), (2, _), (3, _), (4, _)]) dL_law_1239 (by decide) rfl ?_
  refine j_aload_n dL_law_1241 rfl rfl ?_
  refine j_aload_n dL_law_1242 rfl rfl ?_
  refine j_iload dL_law_1243 rfl ?_
  refine j_iconst (v := 1) dL_law_1245 (by decide) ?_
  refine j_iadd dL_law_1246 ?_
  refine j_top (congrArg Value.int (show nI i + (1 : Int32) = nI (i + 1) from nI_add i 1)) ?_
  refine j_sld dL_law_1247 (by omega) (by omega) ?_
  refine j_aload_n dL_law_1248 rfl rfl ?_
  refine j_iload dL_law_1249 rfl ?_
  refine j_iconst (v := 2) dL_law_1251 (by decide) ?_
  refine j_iadd dL_law_1252 ?_
  refine j_top (congrArg Value.int (show nI i + (2 : Int32) = nI (i + 2) from nI_add i 2)) ?_
  refine j_sld dL_law_1253 (by omega) (by omega) ?_
  refine j_aload_n dL_law_1254 rfl rfl ?_
  refine j_iload dL_law_1255 rfl ?_
  refine j_iconst (v := 3) dL_law_1257 (by decide) ?_
  refine j_iadd dL_law_1258 ?_
  refine j_top (congrArg Value.int (show nI i + (3 : Int32) = nI (i + 3) from nI_add i 3)) ?_
  refine j_sld dL_law_1259 (by omega) (by omega) ?_
  obtain ⟨-, ⟨s21, hs21, -⟩, -⟩ := id LT1
  refine j_callV (q := (RX11, TX11, 8)) dL_law_1260 kX11_replaceTable lL_236 inX11_replaceTable seX11_replaceTable hs21.m rfl (kx_replaceTable hl w1 LT1 (z_sc G (i + 1)) (z_sc G (i + 2)) (z_sc G (i + 3))) (Nat.le_of_ble_eq_true rfl) ⟨(by show _ ≤ 793551; omega), (by show _ ≤ 6715452; omega)⟩ rfl (Nat.le_of_ble_eq_true rfl) rfl rfl (fun _ _ h => h.elim) ?_
  rintro _ w2 ⟨r2, rfl, LT2, th2, hr2⟩
  refine j_istore (lo' := [(6, _), (5, _), (0, _), (1, _), (2, _), (3, _), (4, _)]) dL_law_1263 (by decide) rfl ?_
  refine j_goto (tgt := 2258) dL_law_1265 (by decide) ?_
  refine j_widen (kc' := kc + 200) (ks' := ks + 6000) (by omega) (by omega) ?_
  exact j_lo2 (KK _ _ _ LT2) (z_q1 rfl (z_q1 rfl (z_q1 rfl (z_q1 rfl (z_q1 rfl z_q0)))))
set_option maxRecDepth 100000 in
set_option maxHeartbeats 4000000 in
theorem lc_20 (hl : l.stackTraces = false) {w : z_W} {x i kc ks : Nat} {S : sp_S} {n : Int64} (LT : z_LX x S S n w) (hi6 : i + 6 ≤ z_sn G) (hsn : z_sn G ≤ 3072) (hkc : kc + 200 ≤ 793551) (hks : ks + 6000 ≤ 6715452) (KK : ∀ (S9 : sp_S) (n9 : Int64) (w9 : z_W), z_LX x S9 S9 n9 w9 → z_J G l mL_law z_SL 2258 (z_lol x i) [] w9 (kc + 200) (ks + 6000)) : z_J G l mL_law z_SL 1268 (z_lol x i) [] w kc ks := by
  show z_J G l mL_law _ 1268 [(0, _), (1, _), (2, _), (3, _), (4, _)] [] _ _ _
  refine j_aload_n dL_law_1268 rfl rfl ?_
  refine j_aload_n dL_law_1269 rfl rfl ?_
  refine j_iload dL_law_1270 rfl ?_
  refine j_iconst (v := 1) dL_law_1272 (by decide) ?_
  refine j_iadd dL_law_1273 ?_
  refine j_top (congrArg Value.int (show nI i + (1 : Int32) = nI (i + 1) from nI_add i 1)) ?_
  refine j_sld dL_law_1274 (by omega) (by omega) ?_
  refine j_aload_n dL_law_1275 rfl rfl ?_
  refine j_callSW dL_law_1276 kL_clear lL_237 stL_clear (lw_clear hl w _ _ _ _ LT (z_sc G (i + 1))) (Nat.le_of_ble_eq_true rfl) ⟨(by show _ ≤ 793551; omega), (by show _ ≤ 6715452; omega)⟩ rfl (Nat.le_of_ble_eq_true rfl) rfl rfl (fun _ _ h => h.elim) ?_
  rintro _ w1 ⟨n1, rfl, LT1, hn1⟩
  refine j_istore (lo' := [(5, _), (0, _), (1, _), (2, _), (3, _), (4, _)]) dL_law_1279 (by decide) rfl ?_
  refine j_aload_n dL_law_1281 rfl rfl ?_
  refine j_aload_n dL_law_1282 rfl rfl ?_
  refine j_iload dL_law_1283 rfl ?_
  refine j_iconst (v := 1) dL_law_1285 (by decide) ?_
  refine j_iadd dL_law_1286 ?_
  refine j_top (congrArg Value.int (show nI i + (1 : Int32) = nI (i + 1) from nI_add i 1)) ?_
  refine j_sld dL_law_1287 (by omega) (by omega) ?_
  obtain ⟨-, ⟨s22, hs22, -⟩, -⟩ := id LT1
  refine j_callV (q := (RX11, TX11, 8)) dL_law_1288 kX11_clear lL_239 inX11_clear seX11_clear hs22.m rfl (kx_clear hl w1 LT1 (z_sc G (i + 1))) (Nat.le_of_ble_eq_true rfl) ⟨(by show _ ≤ 793551; omega), (by show _ ≤ 6715452; omega)⟩ rfl (Nat.le_of_ble_eq_true rfl) rfl rfl (fun _ _ h => h.elim) ?_
  rintro _ w2 ⟨r2, rfl, LT2, th2, hr2⟩
  refine j_istore (lo' := [(6, _), (5, _), (0, _), (1, _), (2, _), (3, _), (4, _)]) dL_law_1291 (by decide) rfl ?_
  refine j_goto (tgt := 2258) dL_law_1293 (by decide) ?_
  refine j_widen (kc' := kc + 200) (ks' := ks + 6000) (by omega) (by omega) ?_
  exact j_lo2 (KK _ _ _ LT2) (z_q1 rfl (z_q1 rfl (z_q1 rfl (z_q1 rfl (z_q1 rfl z_q0)))))
set_option maxRecDepth 100000 in
set_option maxHeartbeats 4000000 in
theorem lc_21 (hl : l.stackTraces = false) {w : z_W} {x i kc ks : Nat} {S : sp_S} {n : Int64} (LT : z_LX x S S n w) (hi6 : i + 6 ≤ z_sn G) (hsn : z_sn G ≤ 3072) (hkc : kc + 200 ≤ 793551) (hks : ks + 6000 ≤ 6715452) (KK : ∀ (S9 : sp_S) (n9 : Int64) (w9 : z_W), z_LX x S9 S9 n9 w9 → z_J G l mL_law z_SL 2258 (z_lol x i) [] w9 (kc + 200) (ks + 6000)) : z_J G l mL_law z_SL 1296 (z_lol x i) [] w kc ks := by
  show z_J G l mL_law _ 1296 [(0, _), (1, _), (2, _), (3, _), (4, _)] [] _ _ _
  refine j_aload_n dL_law_1296 rfl rfl ?_
  refine j_aload_n dL_law_1297 rfl rfl ?_
  refine j_iload dL_law_1298 rfl ?_
  refine j_iconst (v := 1) dL_law_1300 (by decide) ?_
  refine j_iadd dL_law_1301 ?_
  refine j_top (congrArg Value.int (show nI i + (1 : Int32) = nI (i + 1) from nI_add i 1)) ?_
  refine j_sld dL_law_1302 (by omega) (by omega) ?_
  refine j_aload_n dL_law_1303 rfl rfl ?_
  refine j_iload dL_law_1304 rfl ?_
  refine j_iconst (v := 2) dL_law_1306 (by decide) ?_
  refine j_iadd dL_law_1307 ?_
  refine j_top (congrArg Value.int (show nI i + (2 : Int32) = nI (i + 2) from nI_add i 2)) ?_
  refine j_sld dL_law_1308 (by omega) (by omega) ?_
  refine j_aload_n dL_law_1309 rfl rfl ?_
  refine j_iload dL_law_1310 rfl ?_
  refine j_iconst (v := 3) dL_law_1312 (by decide) ?_
  refine j_iadd dL_law_1313 ?_
  refine j_top (congrArg Value.int (show nI i + (3 : Int32) = nI (i + 3) from nI_add i 3)) ?_
  refine j_sld dL_law_1314 (by omega) (by omega) ?_
  refine j_aload_n dL_law_1315 rfl rfl ?_
  refine j_iload dL_law_1316 rfl ?_
  refine j_iconst (v := 4) dL_law_1318 (by decide) ?_
  refine j_iadd dL_law_1319 ?_
  refine j_top (congrArg Value.int (show nI i + (4 : Int32) = nI (i + 4) from nI_add i 4)) ?_
  refine j_sld dL_law_1320 (by omega) (by omega) ?_
  refine j_aload_n dL_law_1321 rfl rfl ?_
  refine j_callSW dL_law_1322 kL_hearSpan lL_240 stL_hearSpan (lw_hearSpan hl w _ _ _ _ LT (z_sc G (i + 1)) (z_sc G (i + 2)) (z_sc G (i + 3)) (z_sc G (i + 4))) (Nat.le_of_ble_eq_true rfl) ⟨(by show _ ≤ 793551; omega), (by show _ ≤ 6715452; omega)⟩ rfl (Nat.le_of_ble_eq_true rfl) rfl rfl (fun _ _ h => h.elim) ?_
  rintro _ w1 ⟨n1, rfl, LT1, hn1⟩
  refine j_istore (lo' := [(5, _), (0, _), (1, _), (2, _), (3, _), (4, _)]) dL_law_1325 (by decide) rfl ?_
  refine j_aload_n dL_law_1327 rfl rfl ?_
  refine j_aload_n dL_law_1328 rfl rfl ?_
  refine j_iload dL_law_1329 rfl ?_
  refine j_iconst (v := 1) dL_law_1331 (by decide) ?_
  refine j_iadd dL_law_1332 ?_
  refine j_top (congrArg Value.int (show nI i + (1 : Int32) = nI (i + 1) from nI_add i 1)) ?_
  refine j_sld dL_law_1333 (by omega) (by omega) ?_
  refine j_aload_n dL_law_1334 rfl rfl ?_
  refine j_iload dL_law_1335 rfl ?_
  refine j_iconst (v := 2) dL_law_1337 (by decide) ?_
  refine j_iadd dL_law_1338 ?_
  refine j_top (congrArg Value.int (show nI i + (2 : Int32) = nI (i + 2) from nI_add i 2)) ?_
  refine j_sld dL_law_1339 (by omega) (by omega) ?_
  refine j_aload_n dL_law_1340 rfl rfl ?_
  refine j_iload dL_law_1341 rfl ?_
  refine j_iconst (v := 3) dL_law_1343 (by decide) ?_
  refine j_iadd dL_law_1344 ?_
  refine j_top (congrArg Value.int (show nI i + (3 : Int32) = nI (i + 3) from nI_add i 3)) ?_
  refine j_sld dL_law_1345 (by omega) (by omega) ?_
  refine j_aload_n dL_law_1346 rfl rfl ?_
  refine j_iload dL_law_1347 rfl ?_
  refine j_iconst (v := 4) dL_law_1349 (by decide) ?_
  refine j_iadd dL_law_1350 ?_
  refine j_top (congrArg Value.int (show nI i + (4 : Int32) = nI (i + 4) from nI_add i 4)) ?_
  refine j_sld dL_law_1351 (by omega) (by omega) ?_
  obtain ⟨-, ⟨s23, hs23, -⟩, -⟩ := id LT1
  refine j_callV (q := (RX11, TX11, 8)) dL_law_1352 kX11_hearSpan lL_242 inX11_hearSpan seX11_hearSpan hs23.m rfl (kx_hearSpan hl w1 LT1 (z_sc G (i + 1)) (z_sc G (i + 2)) (z_sc G (i + 3)) (z_sc G (i + 4))) (Nat.le_of_ble_eq_true rfl) ⟨(by show _ ≤ 793551; omega), (by show _ ≤ 6715452; omega)⟩ rfl (Nat.le_of_ble_eq_true rfl) rfl rfl (fun _ _ h => h.elim) ?_
  rintro _ w2 ⟨r2, rfl, LT2, th2, hr2⟩
  refine j_istore (lo' := [(6, _), (5, _), (0, _), (1, _), (2, _), (3, _), (4, _)]) dL_law_1355 (by decide) rfl ?_
  refine j_goto (tgt := 2258) dL_law_1357 (by decide) ?_
  refine j_widen (kc' := kc + 200) (ks' := ks + 6000) (by omega) (by omega) ?_
  exact j_lo2 (KK _ _ _ LT2) (z_q1 rfl (z_q1 rfl (z_q1 rfl (z_q1 rfl (z_q1 rfl z_q0)))))
set_option maxRecDepth 100000 in
set_option maxHeartbeats 4000000 in
theorem lc_22 (hl : l.stackTraces = false) {w : z_W} {x i kc ks : Nat} {S : sp_S} {n : Int64} (LT : z_LX x S S n w) (hi6 : i + 6 ≤ z_sn G) (hsn : z_sn G ≤ 3072) (hkc : kc + 200 ≤ 793551) (hks : ks + 6000 ≤ 6715452) (KK : ∀ (S9 : sp_S) (n9 : Int64) (w9 : z_W), z_LX x S9 S9 n9 w9 → z_J G l mL_law z_SL 2258 (z_lol x i) [] w9 (kc + 200) (ks + 6000)) : z_J G l mL_law z_SL 1360 (z_lol x i) [] w kc ks := by
  show z_J G l mL_law _ 1360 [(0, _), (1, _), (2, _), (3, _), (4, _)] [] _ _ _
  refine j_aload_n dL_law_1360 rfl rfl ?_
  refine j_aload_n dL_law_1361 rfl rfl ?_
  refine j_iload dL_law_1362 rfl ?_
  refine j_iconst (v := 1) dL_law_1364 (by decide) ?_
  refine j_iadd dL_law_1365 ?_
  refine j_top (congrArg Value.int (show nI i + (1 : Int32) = nI (i + 1) from nI_add i 1)) ?_
  refine j_sld dL_law_1366 (by omega) (by omega) ?_
  refine j_aload_n dL_law_1367 rfl rfl ?_
  refine j_iload dL_law_1368 rfl ?_
  refine j_iconst (v := 2) dL_law_1370 (by decide) ?_
  refine j_iadd dL_law_1371 ?_
  refine j_top (congrArg Value.int (show nI i + (2 : Int32) = nI (i + 2) from nI_add i 2)) ?_
  refine j_sld dL_law_1372 (by omega) (by omega) ?_
  refine j_aload_n dL_law_1373 rfl rfl ?_
  refine j_iload dL_law_1374 rfl ?_
  refine j_iconst (v := 3) dL_law_1376 (by decide) ?_
  refine j_iadd dL_law_1377 ?_
  refine j_top (congrArg Value.int (show nI i + (3 : Int32) = nI (i + 3) from nI_add i 3)) ?_
  refine j_sld dL_law_1378 (by omega) (by omega) ?_
  refine j_aload_n dL_law_1379 rfl rfl ?_
  refine j_iload dL_law_1380 rfl ?_
  refine j_iconst (v := 4) dL_law_1382 (by decide) ?_
  refine j_iadd dL_law_1383 ?_
  refine j_top (congrArg Value.int (show nI i + (4 : Int32) = nI (i + 4) from nI_add i 4)) ?_
  refine j_sld dL_law_1384 (by omega) (by omega) ?_
  refine j_aload_n dL_law_1385 rfl rfl ?_
  refine j_iload dL_law_1386 rfl ?_
  refine j_iconst (v := 5) dL_law_1388 (by decide) ?_
  refine j_iadd dL_law_1389 ?_
  refine j_top (congrArg Value.int (show nI i + (5 : Int32) = nI (i + 5) from nI_add i 5)) ?_
  refine j_sld dL_law_1390 (by omega) (by omega) ?_
  refine j_aload_n dL_law_1391 rfl rfl ?_
  refine j_callSW dL_law_1392 kL_hearSteps lL_243 stL_hearSteps (lw_hearSteps hl w _ _ _ _ LT (z_sc G (i + 1)) (z_sc G (i + 2)) (z_sc G (i + 3)) (z_sc G (i + 4)) (z_sc G (i + 5))) (Nat.le_of_ble_eq_true rfl) ⟨(by show _ ≤ 793551; omega), (by show _ ≤ 6715452; omega)⟩ rfl (Nat.le_of_ble_eq_true rfl) rfl rfl (fun _ _ h => h.elim) ?_
  rintro _ w1 ⟨n1, rfl, LT1, hn1⟩
  refine j_istore (lo' := [(5, _), (0, _), (1, _), (2, _), (3, _), (4, _)]) dL_law_1395 (by decide) rfl ?_
  refine j_aload_n dL_law_1397 rfl rfl ?_
  refine j_aload_n dL_law_1398 rfl rfl ?_
  refine j_iload dL_law_1399 rfl ?_
  refine j_iconst (v := 1) dL_law_1401 (by decide) ?_
  refine j_iadd dL_law_1402 ?_
  refine j_top (congrArg Value.int (show nI i + (1 : Int32) = nI (i + 1) from nI_add i 1)) ?_
  refine j_sld dL_law_1403 (by omega) (by omega) ?_
  refine j_aload_n dL_law_1404 rfl rfl ?_
  refine j_iload dL_law_1405 rfl ?_
  refine j_iconst (v := 2) dL_law_1407 (by decide) ?_
  refine j_iadd dL_law_1408 ?_
  refine j_top (congrArg Value.int (show nI i + (2 : Int32) = nI (i + 2) from nI_add i 2)) ?_
  refine j_sld dL_law_1409 (by omega) (by omega) ?_
  refine j_aload_n dL_law_1410 rfl rfl ?_
  refine j_iload dL_law_1411 rfl ?_
  refine j_iconst (v := 3) dL_law_1413 (by decide) ?_
  refine j_iadd dL_law_1414 ?_
  refine j_top (congrArg Value.int (show nI i + (3 : Int32) = nI (i + 3) from nI_add i 3)) ?_
  refine j_sld dL_law_1415 (by omega) (by omega) ?_
  refine j_aload_n dL_law_1416 rfl rfl ?_
  refine j_iload dL_law_1417 rfl ?_
  refine j_iconst (v := 4) dL_law_1419 (by decide) ?_
  refine j_iadd dL_law_1420 ?_
  refine j_top (congrArg Value.int (show nI i + (4 : Int32) = nI (i + 4) from nI_add i 4)) ?_
  refine j_sld dL_law_1421 (by omega) (by omega) ?_
  refine j_aload_n dL_law_1422 rfl rfl ?_
  refine j_iload dL_law_1423 rfl ?_
  refine j_iconst (v := 5) dL_law_1425 (by decide) ?_
  refine j_iadd dL_law_1426 ?_
  refine j_top (congrArg Value.int (show nI i + (5 : Int32) = nI (i + 5) from nI_add i 5)) ?_
  refine j_sld dL_law_1427 (by omega) (by omega) ?_
  obtain ⟨-, ⟨s24, hs24, -⟩, -⟩ := id LT1
  refine j_callV (q := (RX11, TX11, 8)) dL_law_1428 kX11_hearSteps lL_246 inX11_hearSteps seX11_hearSteps hs24.m rfl (kx_hearSteps hl w1 LT1 (z_sc G (i + 1)) (z_sc G (i + 2)) (z_sc G (i + 3)) (z_sc G (i + 4)) (z_sc G (i + 5))) (Nat.le_of_ble_eq_true rfl) ⟨(by show _ ≤ 793551; omega), (by show _ ≤ 6715452; omega)⟩ rfl (Nat.le_of_ble_eq_true rfl) rfl rfl (fun _ _ h => h.elim) ?_
  rintro _ w2 ⟨r2, rfl, LT2, th2, hr2⟩
  refine j_istore (lo' := [(6, _), (5, _), (0, _), (1, _), (2, _), (3, _), (4, _)]) dL_law_1431 (by decide) rfl ?_
  refine j_goto (tgt := 2258) dL_law_1433 (by decide) ?_
  refine j_widen (kc' := kc + 200) (ks' := ks + 6000) (by omega) (by omega) ?_
  exact j_lo2 (KK _ _ _ LT2) (z_q1 rfl (z_q1 rfl (z_q1 rfl (z_q1 rfl (z_q1 rfl z_q0)))))
set_option maxRecDepth 100000 in
set_option maxHeartbeats 4000000 in
theorem lc_23 (hl : l.stackTraces = false) {w : z_W} {x i kc ks : Nat} {S : sp_S} {n : Int64} (LT : z_LX x S S n w) (hi6 : i + 6 ≤ z_sn G) (hsn : z_sn G ≤ 3072) (hkc : kc + 200 ≤ 793551) (hks : ks + 6000 ≤ 6715452) (KK : ∀ (S9 : sp_S) (n9 : Int64) (w9 : z_W), z_LX x S9 S9 n9 w9 → z_J G l mL_law z_SL 2258 (z_lol x i) [] w9 (kc + 200) (ks + 6000)) : z_J G l mL_law z_SL 1436 (z_lol x i) [] w kc ks := by
  show z_J G l mL_law _ 1436 [(0, _), (1, _), (2, _), (3, _), (4, _)] [] _ _ _
  refine j_aload_n dL_law_1436 rfl rfl ?_
  refine j_aload_n dL_law_1437 rfl rfl ?_
  refine j_iload dL_law_1438 rfl ?_
  refine j_iconst (v := 1) dL_law_1440 (by decide) ?_
  refine j_iadd dL_law_1441 ?_
  refine j_top (congrArg Value.int (show nI i + (1 : Int32) = nI (i + 1) from nI_add i 1)) ?_
  refine j_sld dL_law_1442 (by omega) (by omega) ?_
  refine j_aload_n dL_law_1443 rfl rfl ?_
  refine j_iload dL_law_1444 rfl ?_
  refine j_iconst (v := 2) dL_law_1446 (by decide) ?_
  refine j_iadd dL_law_1447 ?_
  refine j_top (congrArg Value.int (show nI i + (2 : Int32) = nI (i + 2) from nI_add i 2)) ?_
  refine j_sld dL_law_1448 (by omega) (by omega) ?_
  refine j_aload_n dL_law_1449 rfl rfl ?_
  refine j_callSW dL_law_1450 kL_takeStep lL_247 stL_takeStep (lw_takeStep hl w _ _ _ _ LT (z_sc G (i + 1)) (z_sc G (i + 2))) (Nat.le_of_ble_eq_true rfl) ⟨(by show _ ≤ 793551; omega), (by show _ ≤ 6715452; omega)⟩ rfl (Nat.le_of_ble_eq_true rfl) rfl rfl (fun _ _ h => h.elim) ?_
  rintro _ w1 ⟨n1, rfl, LT1, hn1⟩
  refine j_istore (lo' := [(5, _), (0, _), (1, _), (2, _), (3, _), (4, _)]) dL_law_1453 (by decide) rfl ?_
  refine j_aload_n dL_law_1455 rfl rfl ?_
  refine j_aload_n dL_law_1456 rfl rfl ?_
  refine j_iload dL_law_1457 rfl ?_
  refine j_iconst (v := 1) dL_law_1459 (by decide) ?_
  refine j_iadd dL_law_1460 ?_
  refine j_top (congrArg Value.int (show nI i + (1 : Int32) = nI (i + 1) from nI_add i 1)) ?_
  refine j_sld dL_law_1461 (by omega) (by omega) ?_
  refine j_aload_n dL_law_1462 rfl rfl ?_
  refine j_iload dL_law_1463 rfl ?_
  refine j_iconst (v := 2) dL_law_1465 (by decide) ?_
  refine j_iadd dL_law_1466 ?_
  refine j_top (congrArg Value.int (show nI i + (2 : Int32) = nI (i + 2) from nI_add i 2)) ?_
  refine j_sld dL_law_1467 (by omega) (by omega) ?_
  obtain ⟨-, ⟨s25, hs25, -⟩, -⟩ := id LT1
  refine j_callV (q := (RX11, TX11, 8)) dL_law_1468 kX11_takeStep lL_249 inX11_takeStep seX11_takeStep hs25.m rfl (kx_takeStep hl w1 LT1 (z_sc G (i + 1)) (z_sc G (i + 2))) (Nat.le_of_ble_eq_true rfl) ⟨(by show _ ≤ 793551; omega), (by show _ ≤ 6715452; omega)⟩ rfl (Nat.le_of_ble_eq_true rfl) rfl rfl (fun _ _ h => h.elim) ?_
  rintro _ w2 ⟨r2, rfl, LT2, th2, hr2⟩
  refine j_istore (lo' := [(6, _), (5, _), (0, _), (1, _), (2, _), (3, _), (4, _)]) dL_law_1471 (by decide) rfl ?_
  refine j_goto (tgt := 2258) dL_law_1473 (by decide) ?_
  refine j_widen (kc' := kc + 200) (ks' := ks + 6000) (by omega) (by omega) ?_
  exact j_lo2 (KK _ _ _ LT2) (z_q1 rfl (z_q1 rfl (z_q1 rfl (z_q1 rfl (z_q1 rfl z_q0)))))
set_option maxRecDepth 100000 in
set_option maxHeartbeats 4000000 in
theorem lc_24 (hl : l.stackTraces = false) {w : z_W} {x i kc ks : Nat} {S : sp_S} {n : Int64} (LT : z_LX x S S n w) (hi6 : i + 6 ≤ z_sn G) (hsn : z_sn G ≤ 3072) (hkc : kc + 200 ≤ 793551) (hks : ks + 6000 ≤ 6715452) (KK : ∀ (S9 : sp_S) (n9 : Int64) (w9 : z_W), z_LX x S9 S9 n9 w9 → z_J G l mL_law z_SL 2258 (z_lol x i) [] w9 (kc + 200) (ks + 6000)) : z_J G l mL_law z_SL 1476 (z_lol x i) [] w kc ks := by
  show z_J G l mL_law _ 1476 [(0, _), (1, _), (2, _), (3, _), (4, _)] [] _ _ _
  refine j_aload_n dL_law_1476 rfl rfl ?_
  refine j_aload_n dL_law_1477 rfl rfl ?_
  refine j_iload dL_law_1478 rfl ?_
  refine j_iconst (v := 1) dL_law_1480 (by decide) ?_
  refine j_iadd dL_law_1481 ?_
  refine j_top (congrArg Value.int (show nI i + (1 : Int32) = nI (i + 1) from nI_add i 1)) ?_
  refine j_sld dL_law_1482 (by omega) (by omega) ?_
  refine j_aload_n dL_law_1483 rfl rfl ?_
  refine j_iload dL_law_1484 rfl ?_
  refine j_iconst (v := 2) dL_law_1486 (by decide) ?_
  refine j_iadd dL_law_1487 ?_
  refine j_top (congrArg Value.int (show nI i + (2 : Int32) = nI (i + 2) from nI_add i 2)) ?_
  refine j_sld dL_law_1488 (by omega) (by omega) ?_
  refine j_aload_n dL_law_1489 rfl rfl ?_
  refine j_callSW dL_law_1490 kL_stop lL_250 stL_stop (lw_stop hl w _ _ _ _ LT (z_sc G (i + 1)) (z_sc G (i + 2))) (Nat.le_of_ble_eq_true rfl) ⟨(by show _ ≤ 793551; omega), (by show _ ≤ 6715452; omega)⟩ rfl (Nat.le_of_ble_eq_true rfl) rfl rfl (fun _ _ h => h.elim) ?_
  rintro _ w1 ⟨n1, rfl, LT1, hn1⟩
  refine j_istore (lo' := [(5, _), (0, _), (1, _), (2, _), (3, _), (4, _)]) dL_law_1493 (by decide) rfl ?_
  refine j_aload_n dL_law_1495 rfl rfl ?_
  refine j_aload_n dL_law_1496 rfl rfl ?_
  refine j_iload dL_law_1497 rfl ?_
  refine j_iconst (v := 1) dL_law_1499 (by decide) ?_
  refine j_iadd dL_law_1500 ?_
  refine j_top (congrArg Value.int (show nI i + (1 : Int32) = nI (i + 1) from nI_add i 1)) ?_
  refine j_sld dL_law_1501 (by omega) (by omega) ?_
  refine j_aload_n dL_law_1502 rfl rfl ?_
  refine j_iload dL_law_1503 rfl ?_
  refine j_iconst (v := 2) dL_law_1505 (by decide) ?_
  refine j_iadd dL_law_1506 ?_
  refine j_top (congrArg Value.int (show nI i + (2 : Int32) = nI (i + 2) from nI_add i 2)) ?_
  refine j_sld dL_law_1507 (by omega) (by omega) ?_
  obtain ⟨-, ⟨s26, hs26, -⟩, -⟩ := id LT1
  refine j_callV (q := (RX11, TX11, 8)) dL_law_1508 kX11_stop lL_252 inX11_stop seX11_stop hs26.m rfl (kx_stop hl w1 LT1 (z_sc G (i + 1)) (z_sc G (i + 2))) (Nat.le_of_ble_eq_true rfl) ⟨(by show _ ≤ 793551; omega), (by show _ ≤ 6715452; omega)⟩ rfl (Nat.le_of_ble_eq_true rfl) rfl rfl (fun _ _ h => h.elim) ?_
  rintro _ w2 ⟨r2, rfl, LT2, th2, hr2⟩
  refine j_istore (lo' := [(6, _), (5, _), (0, _), (1, _), (2, _), (3, _), (4, _)]) dL_law_1511 (by decide) rfl ?_
  refine j_goto (tgt := 2258) dL_law_1513 (by decide) ?_
  refine j_widen (kc' := kc + 200) (ks' := ks + 6000) (by omega) (by omega) ?_
  exact j_lo2 (KK _ _ _ LT2) (z_q1 rfl (z_q1 rfl (z_q1 rfl (z_q1 rfl (z_q1 rfl z_q0)))))
set_option maxRecDepth 100000 in
set_option maxHeartbeats 4000000 in
theorem lc_25 (hl : l.stackTraces = false) {w : z_W} {x i kc ks : Nat} {S : sp_S} {n : Int64} (LT : z_LX x S S n w) (hi6 : i + 6 ≤ z_sn G) (hsn : z_sn G ≤ 3072) (hkc : kc + 200 ≤ 793551) (hks : ks + 6000 ≤ 6715452) (KK : ∀ (S9 : sp_S) (n9 : Int64) (w9 : z_W), z_LX x S9 S9 n9 w9 → z_J G l mL_law z_SL 2258 (z_lol x i) [] w9 (kc + 200) (ks + 6000)) : z_J G l mL_law z_SL 1516 (z_lol x i) [] w kc ks := by
  show z_J G l mL_law _ 1516 [(0, _), (1, _), (2, _), (3, _), (4, _)] [] _ _ _
  refine j_aload_n dL_law_1516 rfl rfl ?_
  refine j_aload_n dL_law_1517 rfl rfl ?_
  refine j_iload dL_law_1518 rfl ?_
  refine j_iconst (v := 1) dL_law_1520 (by decide) ?_
  refine j_iadd dL_law_1521 ?_
  refine j_top (congrArg Value.int (show nI i + (1 : Int32) = nI (i + 1) from nI_add i 1)) ?_
  refine j_sld dL_law_1522 (by omega) (by omega) ?_
  refine j_aload_n dL_law_1523 rfl rfl ?_
  refine j_callSW dL_law_1524 kL_forget lL_253 stL_forget (lw_forget hl w _ _ _ _ LT (z_sc G (i + 1))) (Nat.le_of_ble_eq_true rfl) ⟨(by show _ ≤ 793551; omega), (by show _ ≤ 6715452; omega)⟩ rfl (Nat.le_of_ble_eq_true rfl) rfl rfl (fun _ _ h => h.elim) ?_
  rintro _ w1 ⟨n1, rfl, LT1, hn1⟩
  refine j_istore (lo' := [(5, _), (0, _), (1, _), (2, _), (3, _), (4, _)]) dL_law_1527 (by decide) rfl ?_
  refine j_aload_n dL_law_1529 rfl rfl ?_
  refine j_aload_n dL_law_1530 rfl rfl ?_
  refine j_iload dL_law_1531 rfl ?_
  refine j_iconst (v := 1) dL_law_1533 (by decide) ?_
  refine j_iadd dL_law_1534 ?_
  refine j_top (congrArg Value.int (show nI i + (1 : Int32) = nI (i + 1) from nI_add i 1)) ?_
  refine j_sld dL_law_1535 (by omega) (by omega) ?_
  obtain ⟨-, ⟨s27, hs27, -⟩, -⟩ := id LT1
  refine j_callV (q := (RX11, TX11, 8)) dL_law_1536 kX11_forget lL_255 inX11_forget seX11_forget hs27.m rfl (kx_forget hl w1 LT1 (z_sc G (i + 1))) (Nat.le_of_ble_eq_true rfl) ⟨(by show _ ≤ 793551; omega), (by show _ ≤ 6715452; omega)⟩ rfl (Nat.le_of_ble_eq_true rfl) rfl rfl (fun _ _ h => h.elim) ?_
  rintro _ w2 ⟨r2, rfl, LT2, th2, hr2⟩
  refine j_istore (lo' := [(6, _), (5, _), (0, _), (1, _), (2, _), (3, _), (4, _)]) dL_law_1539 (by decide) rfl ?_
  refine j_goto (tgt := 2258) dL_law_1541 (by decide) ?_
  refine j_widen (kc' := kc + 200) (ks' := ks + 6000) (by omega) (by omega) ?_
  exact j_lo2 (KK _ _ _ LT2) (z_q1 rfl (z_q1 rfl (z_q1 rfl (z_q1 rfl (z_q1 rfl z_q0)))))
set_option maxRecDepth 100000 in
set_option maxHeartbeats 4000000 in
theorem lc_26 (hl : l.stackTraces = false) {w : z_W} {x i kc ks : Nat} {S : sp_S} {n : Int64} (LT : z_LX x S S n w) (hi6 : i + 6 ≤ z_sn G) (hsn : z_sn G ≤ 3072) (hkc : kc + 200 ≤ 793551) (hks : ks + 6000 ≤ 6715452) (KK : ∀ (S9 : sp_S) (n9 : Int64) (w9 : z_W), z_LX x S9 S9 n9 w9 → z_J G l mL_law z_SL 2258 (z_lol x i) [] w9 (kc + 200) (ks + 6000)) : z_J G l mL_law z_SL 1544 (z_lol x i) [] w kc ks := by
  show z_J G l mL_law _ 1544 [(0, _), (1, _), (2, _), (3, _), (4, _)] [] _ _ _
  refine j_aload_n dL_law_1544 rfl rfl ?_
  refine j_aload_n dL_law_1545 rfl rfl ?_
  refine j_iload dL_law_1546 rfl ?_
  refine j_iconst (v := 1) dL_law_1548 (by decide) ?_
  refine j_iadd dL_law_1549 ?_
  refine j_top (congrArg Value.int (show nI i + (1 : Int32) = nI (i + 1) from nI_add i 1)) ?_
  refine j_sld dL_law_1550 (by omega) (by omega) ?_
  refine j_aload_n dL_law_1551 rfl rfl ?_
  refine j_iload dL_law_1552 rfl ?_
  refine j_iconst (v := 2) dL_law_1554 (by decide) ?_
  refine j_iadd dL_law_1555 ?_
  refine j_top (congrArg Value.int (show nI i + (2 : Int32) = nI (i + 2) from nI_add i 2)) ?_
  refine j_sld dL_law_1556 (by omega) (by omega) ?_
  refine j_aload_n dL_law_1557 rfl rfl ?_
  refine j_callSW dL_law_1558 kL_heard lL_256 stL_heard (lw_heard hl w _ _ _ _ LT (z_sc G (i + 1)) (z_sc G (i + 2))) (Nat.le_of_ble_eq_true rfl) ⟨(by show _ ≤ 793551; omega), (by show _ ≤ 6715452; omega)⟩ rfl (Nat.le_of_ble_eq_true rfl) rfl rfl (fun _ _ h => h.elim) ?_
  rintro _ w1 ⟨n1, rfl, LT1, hn1⟩
  refine j_istore (lo' := [(5, _), (0, _), (1, _), (2, _), (3, _), (4, _)]) dL_law_1561 (by decide) rfl ?_
  refine j_aload_n dL_law_1563 rfl rfl ?_
  refine j_aload_n dL_law_1564 rfl rfl ?_
  refine j_iload dL_law_1565 rfl ?_
  refine j_iconst (v := 1) dL_law_1567 (by decide) ?_
  refine j_iadd dL_law_1568 ?_
  refine j_top (congrArg Value.int (show nI i + (1 : Int32) = nI (i + 1) from nI_add i 1)) ?_
  refine j_sld dL_law_1569 (by omega) (by omega) ?_
  refine j_aload_n dL_law_1570 rfl rfl ?_
  refine j_iload dL_law_1571 rfl ?_
  refine j_iconst (v := 2) dL_law_1573 (by decide) ?_
  refine j_iadd dL_law_1574 ?_
  refine j_top (congrArg Value.int (show nI i + (2 : Int32) = nI (i + 2) from nI_add i 2)) ?_
  refine j_sld dL_law_1575 (by omega) (by omega) ?_
  obtain ⟨-, ⟨s28, hs28, -⟩, -⟩ := id LT1
  refine j_callV (q := (RX11, TX11, 8)) dL_law_1576 kX11_heard lL_258 inX11_heard seX11_heard hs28.m rfl (kx_heard hl w1 LT1 (z_sc G (i + 1)) (z_sc G (i + 2))) (Nat.le_of_ble_eq_true rfl) ⟨(by show _ ≤ 793551; omega), (by show _ ≤ 6715452; omega)⟩ rfl (Nat.le_of_ble_eq_true rfl) rfl rfl (fun _ _ h => h.elim) ?_
  rintro _ w2 ⟨r2, rfl, LT2, th2, hr2⟩
  refine j_istore (lo' := [(6, _), (5, _), (0, _), (1, _), (2, _), (3, _), (4, _)]) dL_law_1579 (by decide) rfl ?_
  refine j_goto (tgt := 2258) dL_law_1581 (by decide) ?_
  refine j_widen (kc' := kc + 200) (ks' := ks + 6000) (by omega) (by omega) ?_
  exact j_lo2 (KK _ _ _ LT2) (z_q1 rfl (z_q1 rfl (z_q1 rfl (z_q1 rfl (z_q1 rfl z_q0)))))
set_option maxRecDepth 100000 in
set_option maxHeartbeats 4000000 in
theorem lc_27 (hl : l.stackTraces = false) {w : z_W} {x i kc ks : Nat} {S : sp_S} {n : Int64} (LT : z_LX x S S n w) (hi6 : i + 6 ≤ z_sn G) (hsn : z_sn G ≤ 3072) (hkc : kc + 200 ≤ 793551) (hks : ks + 6000 ≤ 6715452) (KK : ∀ (S9 : sp_S) (n9 : Int64) (w9 : z_W), z_LX x S9 S9 n9 w9 → z_J G l mL_law z_SL 2258 (z_lol x i) [] w9 (kc + 200) (ks + 6000)) : z_J G l mL_law z_SL 1584 (z_lol x i) [] w kc ks := by
  show z_J G l mL_law _ 1584 [(0, _), (1, _), (2, _), (3, _), (4, _)] [] _ _ _
  refine j_aload_n dL_law_1584 rfl rfl ?_
  refine j_aload_n dL_law_1585 rfl rfl ?_
  refine j_iload dL_law_1586 rfl ?_
  refine j_iconst (v := 1) dL_law_1588 (by decide) ?_
  refine j_iadd dL_law_1589 ?_
  refine j_top (congrArg Value.int (show nI i + (1 : Int32) = nI (i + 1) from nI_add i 1)) ?_
  refine j_sld dL_law_1590 (by omega) (by omega) ?_
  refine j_aload_n dL_law_1591 rfl rfl ?_
  refine j_callSW dL_law_1592 kL_heardText lL_259 stL_heardText (lw_heardText hl w _ _ _ _ LT (z_sc G (i + 1))) (Nat.le_of_ble_eq_true rfl) ⟨(by show _ ≤ 793551; omega), (by show _ ≤ 6715452; omega)⟩ rfl (Nat.le_of_ble_eq_true rfl) rfl rfl (fun _ _ h => h.elim) ?_
  rintro _ w1 ⟨n1, rfl, LT1, hT1⟩
  refine j_istore (lo' := [(5, _), (0, _), (1, _), (2, _), (3, _), (4, _)]) dL_law_1595 (by decide) rfl ?_
  refine j_aload_n dL_law_1597 rfl rfl ?_
  refine j_aload_n dL_law_1598 rfl rfl ?_
  refine j_iload dL_law_1599 rfl ?_
  refine j_iconst (v := 1) dL_law_1601 (by decide) ?_
  refine j_iadd dL_law_1602 ?_
  refine j_top (congrArg Value.int (show nI i + (1 : Int32) = nI (i + 1) from nI_add i 1)) ?_
  refine j_sld dL_law_1603 (by omega) (by omega) ?_
  obtain ⟨-, ⟨s29, hs29, -⟩, -⟩ := id LT1
  refine j_callV (q := (RX11, TX11, 8)) dL_law_1604 kX11_heardText lL_261 inX11_heardText seX11_heardText hs29.m rfl (kz_heardText hl w1 LT1 (z_sc G (i + 1))) (Nat.le_of_ble_eq_true rfl) ⟨(by show _ ≤ 793551; omega), (by show _ ≤ 6715452; omega)⟩ rfl (Nat.le_of_ble_eq_true rfl) rfl rfl (fun _ _ h => h.elim) ?_
  rintro _ w2 ⟨r2, rfl, hir2, LT2, th2, fm2, hq2⟩
  refine j_astore (lo' := [(6, _), (5, _), (0, _), (1, _), (2, _), (3, _), (4, _)]) dL_law_1607 hir2 (by decide) rfl ?_
  refine j_goto (tgt := 2258) dL_law_1609 (by decide) ?_
  refine j_widen (kc' := kc + 200) (ks' := ks + 6000) (by omega) (by omega) ?_
  exact j_lo2 (KK _ _ _ LT2) (z_q1 rfl (z_q1 rfl (z_q1 rfl (z_q1 rfl (z_q1 rfl z_q0)))))
set_option maxRecDepth 100000 in
set_option maxHeartbeats 4000000 in
theorem lc_28 (hl : l.stackTraces = false) {w : z_W} {x i kc ks : Nat} {S : sp_S} {n : Int64} (LT : z_LX x S S n w) (hi6 : i + 6 ≤ z_sn G) (hsn : z_sn G ≤ 3072) (hkc : kc + 200 ≤ 793551) (hks : ks + 6000 ≤ 6715452) (KK : ∀ (S9 : sp_S) (n9 : Int64) (w9 : z_W), z_LX x S9 S9 n9 w9 → z_J G l mL_law z_SL 2258 (z_lol x i) [] w9 (kc + 200) (ks + 6000)) : z_J G l mL_law z_SL 1612 (z_lol x i) [] w kc ks := by
  show z_J G l mL_law _ 1612 [(0, _), (1, _), (2, _), (3, _), (4, _)] [] _ _ _
  refine j_aload_n dL_law_1612 rfl rfl ?_
  refine j_aload_n dL_law_1613 rfl rfl ?_
  refine j_iload dL_law_1614 rfl ?_
  refine j_iconst (v := 1) dL_law_1616 (by decide) ?_
  refine j_iadd dL_law_1617 ?_
  refine j_top (congrArg Value.int (show nI i + (1 : Int32) = nI (i + 1) from nI_add i 1)) ?_
  refine j_sld dL_law_1618 (by omega) (by omega) ?_
  refine j_aload_n dL_law_1619 rfl rfl ?_
  refine j_callSW dL_law_1620 kL_length lL_262 stL_length (lw_length hl w _ _ _ _ LT (z_sc G (i + 1))) (Nat.le_of_ble_eq_true rfl) ⟨(by show _ ≤ 793551; omega), (by show _ ≤ 6715452; omega)⟩ rfl (Nat.le_of_ble_eq_true rfl) rfl rfl (fun _ _ h => h.elim) ?_
  rintro _ w1 ⟨n1, rfl, LT1, hn1⟩
  refine j_istore (lo' := [(5, _), (0, _), (1, _), (2, _), (3, _), (4, _)]) dL_law_1623 (by decide) rfl ?_
  refine j_aload_n dL_law_1625 rfl rfl ?_
  refine j_aload_n dL_law_1626 rfl rfl ?_
  refine j_iload dL_law_1627 rfl ?_
  refine j_iconst (v := 1) dL_law_1629 (by decide) ?_
  refine j_iadd dL_law_1630 ?_
  refine j_top (congrArg Value.int (show nI i + (1 : Int32) = nI (i + 1) from nI_add i 1)) ?_
  refine j_sld dL_law_1631 (by omega) (by omega) ?_
  obtain ⟨-, ⟨s30, hs30, -⟩, -⟩ := id LT1
  refine j_callV (q := (RX11, TX11, 8)) dL_law_1632 kX11_length lL_264 inX11_length seX11_length hs30.m rfl (kx_length hl w1 LT1 (z_sc G (i + 1))) (Nat.le_of_ble_eq_true rfl) ⟨(by show _ ≤ 793551; omega), (by show _ ≤ 6715452; omega)⟩ rfl (Nat.le_of_ble_eq_true rfl) rfl rfl (fun _ _ h => h.elim) ?_
  rintro _ w2 ⟨r2, rfl, LT2, th2, hr2⟩
  refine j_istore (lo' := [(6, _), (5, _), (0, _), (1, _), (2, _), (3, _), (4, _)]) dL_law_1635 (by decide) rfl ?_
  refine j_goto (tgt := 2258) dL_law_1637 (by decide) ?_
  refine j_widen (kc' := kc + 200) (ks' := ks + 6000) (by omega) (by omega) ?_
  exact j_lo2 (KK _ _ _ LT2) (z_q1 rfl (z_q1 rfl (z_q1 rfl (z_q1 rfl (z_q1 rfl z_q0)))))
set_option maxRecDepth 100000 in
set_option maxHeartbeats 4000000 in
theorem lc_29 (hl : l.stackTraces = false) {w : z_W} {x i kc ks : Nat} {S : sp_S} {n : Int64} (LT : z_LX x S S n w) (hi6 : i + 6 ≤ z_sn G) (hsn : z_sn G ≤ 3072) (hkc : kc + 200 ≤ 793551) (hks : ks + 6000 ≤ 6715452) (KK : ∀ (S9 : sp_S) (n9 : Int64) (w9 : z_W), z_LX x S9 S9 n9 w9 → z_J G l mL_law z_SL 2258 (z_lol x i) [] w9 (kc + 200) (ks + 6000)) : z_J G l mL_law z_SL 1640 (z_lol x i) [] w kc ks := by
  show z_J G l mL_law _ 1640 [(0, _), (1, _), (2, _), (3, _), (4, _)] [] _ _ _
  refine j_aload_n dL_law_1640 rfl rfl ?_
  refine j_aload_n dL_law_1641 rfl rfl ?_
  refine j_iload dL_law_1642 rfl ?_
  refine j_iconst (v := 1) dL_law_1644 (by decide) ?_
  refine j_iadd dL_law_1645 ?_
  refine j_top (congrArg Value.int (show nI i + (1 : Int32) = nI (i + 1) from nI_add i 1)) ?_
  refine j_sld dL_law_1646 (by omega) (by omega) ?_
  refine j_aload_n dL_law_1647 rfl rfl ?_
  refine j_iload dL_law_1648 rfl ?_
  refine j_iconst (v := 2) dL_law_1650 (by decide) ?_
  refine j_iadd dL_law_1651 ?_
  refine j_top (congrArg Value.int (show nI i + (2 : Int32) = nI (i + 2) from nI_add i 2)) ?_
  refine j_sld dL_law_1652 (by omega) (by omega) ?_
  refine j_aload_n dL_law_1653 rfl rfl ?_
  refine j_callSW dL_law_1654 kL_at lL_265 stL_at (lw_at hl w _ _ _ _ LT (z_sc G (i + 1)) (z_sc G (i + 2))) (Nat.le_of_ble_eq_true rfl) ⟨(by show _ ≤ 793551; omega), (by show _ ≤ 6715452; omega)⟩ rfl (Nat.le_of_ble_eq_true rfl) rfl rfl (fun _ _ h => h.elim) ?_
  rintro _ w1 ⟨n1, rfl, LT1, hn1⟩
  refine j_istore (lo' := [(5, _), (0, _), (1, _), (2, _), (3, _), (4, _)]) dL_law_1657 (by decide) rfl ?_
  refine j_aload_n dL_law_1659 rfl rfl ?_
  refine j_aload_n dL_law_1660 rfl rfl ?_
  refine j_iload dL_law_1661 rfl ?_
  refine j_iconst (v := 1) dL_law_1663 (by decide) ?_
  refine j_iadd dL_law_1664 ?_
  refine j_top (congrArg Value.int (show nI i + (1 : Int32) = nI (i + 1) from nI_add i 1)) ?_
  refine j_sld dL_law_1665 (by omega) (by omega) ?_
  refine j_aload_n dL_law_1666 rfl rfl ?_
  refine j_iload dL_law_1667 rfl ?_
  refine j_iconst (v := 2) dL_law_1669 (by decide) ?_
  refine j_iadd dL_law_1670 ?_
  refine j_top (congrArg Value.int (show nI i + (2 : Int32) = nI (i + 2) from nI_add i 2)) ?_
  refine j_sld dL_law_1671 (by omega) (by omega) ?_
  obtain ⟨-, ⟨s31, hs31, -⟩, -⟩ := id LT1
  refine j_callV (q := (RX11, TX11, 8)) dL_law_1672 kX11_at lL_267 inX11_at seX11_at hs31.m rfl (kx_at hl w1 LT1 (z_sc G (i + 1)) (z_sc G (i + 2))) (Nat.le_of_ble_eq_true rfl) ⟨(by show _ ≤ 793551; omega), (by show _ ≤ 6715452; omega)⟩ rfl (Nat.le_of_ble_eq_true rfl) rfl rfl (fun _ _ h => h.elim) ?_
  rintro _ w2 ⟨r2, rfl, LT2, th2, hr2⟩
  refine j_istore (lo' := [(6, _), (5, _), (0, _), (1, _), (2, _), (3, _), (4, _)]) dL_law_1675 (by decide) rfl ?_
  refine j_goto (tgt := 2258) dL_law_1677 (by decide) ?_
  refine j_widen (kc' := kc + 200) (ks' := ks + 6000) (by omega) (by omega) ?_
  exact j_lo2 (KK _ _ _ LT2) (z_q1 rfl (z_q1 rfl (z_q1 rfl (z_q1 rfl (z_q1 rfl z_q0)))))
set_option maxRecDepth 100000 in
set_option maxHeartbeats 4000000 in
theorem lc_30 (hl : l.stackTraces = false) {w : z_W} {x i kc ks : Nat} {S : sp_S} {n : Int64} (LT : z_LX x S S n w) (hi6 : i + 6 ≤ z_sn G) (hsn : z_sn G ≤ 3072) (hkc : kc + 200 ≤ 793551) (hks : ks + 6000 ≤ 6715452) (KK : ∀ (S9 : sp_S) (n9 : Int64) (w9 : z_W), z_LX x S9 S9 n9 w9 → z_J G l mL_law z_SL 2258 (z_lol x i) [] w9 (kc + 200) (ks + 6000)) : z_J G l mL_law z_SL 1680 (z_lol x i) [] w kc ks := by
  show z_J G l mL_law _ 1680 [(0, _), (1, _), (2, _), (3, _), (4, _)] [] _ _ _
  refine j_aload_n dL_law_1680 rfl rfl ?_
  refine j_aload_n dL_law_1681 rfl rfl ?_
  refine j_iload dL_law_1682 rfl ?_
  refine j_iconst (v := 1) dL_law_1684 (by decide) ?_
  refine j_iadd dL_law_1685 ?_
  refine j_top (congrArg Value.int (show nI i + (1 : Int32) = nI (i + 1) from nI_add i 1)) ?_
  refine j_sld dL_law_1686 (by omega) (by omega) ?_
  refine j_aload_n dL_law_1687 rfl rfl ?_
  refine j_callSW dL_law_1688 kL_rowText lL_268 stL_rowText (lw_rowText hl w _ _ _ _ LT (z_sc G (i + 1))) (Nat.le_of_ble_eq_true rfl) ⟨(by show _ ≤ 793551; omega), (by show _ ≤ 6715452; omega)⟩ rfl (Nat.le_of_ble_eq_true rfl) rfl rfl (fun _ _ h => h.elim) ?_
  rintro _ w1 ⟨n1, rfl, LT1, hT1⟩
  refine j_istore (lo' := [(5, _), (0, _), (1, _), (2, _), (3, _), (4, _)]) dL_law_1691 (by decide) rfl ?_
  refine j_aload_n dL_law_1693 rfl rfl ?_
  refine j_aload_n dL_law_1694 rfl rfl ?_
  refine j_iload dL_law_1695 rfl ?_
  refine j_iconst (v := 1) dL_law_1697 (by decide) ?_
  refine j_iadd dL_law_1698 ?_
  refine j_top (congrArg Value.int (show nI i + (1 : Int32) = nI (i + 1) from nI_add i 1)) ?_
  refine j_sld dL_law_1699 (by omega) (by omega) ?_
  obtain ⟨-, ⟨s32, hs32, -⟩, -⟩ := id LT1
  refine j_callV (q := (RX11, TX11, 8)) dL_law_1700 kX11_rowText lL_270 inX11_rowText seX11_rowText hs32.m rfl (kz_rowText hl w1 LT1 (z_sc G (i + 1))) (Nat.le_of_ble_eq_true rfl) ⟨(by show _ ≤ 793551; omega), (by show _ ≤ 6715452; omega)⟩ rfl (Nat.le_of_ble_eq_true rfl) rfl rfl (fun _ _ h => h.elim) ?_
  rintro _ w2 ⟨r2, rfl, hir2, LT2, th2, fm2, hq2⟩
  refine j_astore (lo' := [(6, _), (5, _), (0, _), (1, _), (2, _), (3, _), (4, _)]) dL_law_1703 hir2 (by decide) rfl ?_
  refine j_goto (tgt := 2258) dL_law_1705 (by decide) ?_
  refine j_widen (kc' := kc + 200) (ks' := ks + 6000) (by omega) (by omega) ?_
  exact j_lo2 (KK _ _ _ LT2) (z_q1 rfl (z_q1 rfl (z_q1 rfl (z_q1 rfl (z_q1 rfl z_q0)))))
set_option maxRecDepth 100000 in
set_option maxHeartbeats 4000000 in
theorem lc_31 (hl : l.stackTraces = false) {w : z_W} {x i kc ks : Nat} {S : sp_S} {n : Int64} (LT : z_LX x S S n w) (hi6 : i + 6 ≤ z_sn G) (hsn : z_sn G ≤ 3072) (hkc : kc + 200 ≤ 793551) (hks : ks + 6000 ≤ 6715452) (KK : ∀ (S9 : sp_S) (n9 : Int64) (w9 : z_W), z_LX x S9 S9 n9 w9 → z_J G l mL_law z_SL 2258 (z_lol x i) [] w9 (kc + 200) (ks + 6000)) : z_J G l mL_law z_SL 1708 (z_lol x i) [] w kc ks := by
  show z_J G l mL_law _ 1708 [(0, _), (1, _), (2, _), (3, _), (4, _)] [] _ _ _
  refine j_aload_n dL_law_1708 rfl rfl ?_
  refine j_aload_n dL_law_1709 rfl rfl ?_
  refine j_iload dL_law_1710 rfl ?_
  refine j_iconst (v := 1) dL_law_1712 (by decide) ?_
  refine j_iadd dL_law_1713 ?_
  refine j_top (congrArg Value.int (show nI i + (1 : Int32) = nI (i + 1) from nI_add i 1)) ?_
  refine j_sld dL_law_1714 (by omega) (by omega) ?_
  refine j_aload_n dL_law_1715 rfl rfl ?_
  refine j_callSW dL_law_1716 kL_isFixed lL_271 stL_isFixed (lw_isFixed hl w _ _ _ _ LT (z_sc G (i + 1))) (Nat.le_of_ble_eq_true rfl) ⟨(by show _ ≤ 793551; omega), (by show _ ≤ 6715452; omega)⟩ rfl (Nat.le_of_ble_eq_true rfl) rfl rfl (fun _ _ h => h.elim) ?_
  rintro _ w1 ⟨n1, rfl, LT1, hn1⟩
  refine j_istore (lo' := [(5, _), (0, _), (1, _), (2, _), (3, _), (4, _)]) dL_law_1719 (by decide) rfl ?_
  refine j_aload_n dL_law_1721 rfl rfl ?_
  refine j_aload_n dL_law_1722 rfl rfl ?_
  refine j_iload dL_law_1723 rfl ?_
  refine j_iconst (v := 1) dL_law_1725 (by decide) ?_
  refine j_iadd dL_law_1726 ?_
  refine j_top (congrArg Value.int (show nI i + (1 : Int32) = nI (i + 1) from nI_add i 1)) ?_
  refine j_sld dL_law_1727 (by omega) (by omega) ?_
  obtain ⟨-, ⟨s33, hs33, -⟩, -⟩ := id LT1
  refine j_callV (q := (RX11, TX11, 8)) dL_law_1728 kX11_isFixed lL_273 inX11_isFixed seX11_isFixed hs33.m rfl (kx_isFixed hl w1 LT1 (z_sc G (i + 1))) (Nat.le_of_ble_eq_true rfl) ⟨(by show _ ≤ 793551; omega), (by show _ ≤ 6715452; omega)⟩ rfl (Nat.le_of_ble_eq_true rfl) rfl rfl (fun _ _ h => h.elim) ?_
  rintro _ w2 ⟨r2, rfl, LT2, th2, hr2⟩
  refine j_istore (lo' := [(6, _), (5, _), (0, _), (1, _), (2, _), (3, _), (4, _)]) dL_law_1731 (by decide) rfl ?_
  refine j_goto (tgt := 2258) dL_law_1733 (by decide) ?_
  refine j_widen (kc' := kc + 200) (ks' := ks + 6000) (by omega) (by omega) ?_
  exact j_lo2 (KK _ _ _ LT2) (z_q1 rfl (z_q1 rfl (z_q1 rfl (z_q1 rfl (z_q1 rfl z_q0)))))
set_option maxRecDepth 100000 in
set_option maxHeartbeats 4000000 in
theorem lc_32 (hl : l.stackTraces = false) {w : z_W} {x i kc ks : Nat} {S : sp_S} {n : Int64} (LT : z_LX x S S n w) (hi6 : i + 6 ≤ z_sn G) (hsn : z_sn G ≤ 3072) (hkc : kc + 200 ≤ 793551) (hks : ks + 6000 ≤ 6715452) (KK : ∀ (S9 : sp_S) (n9 : Int64) (w9 : z_W), z_LX x S9 S9 n9 w9 → z_J G l mL_law z_SL 2258 (z_lol x i) [] w9 (kc + 200) (ks + 6000)) : z_J G l mL_law z_SL 1736 (z_lol x i) [] w kc ks := by
  show z_J G l mL_law _ 1736 [(0, _), (1, _), (2, _), (3, _), (4, _)] [] _ _ _
  refine j_aload_n dL_law_1736 rfl rfl ?_
  refine j_aload_n dL_law_1737 rfl rfl ?_
  refine j_iload dL_law_1738 rfl ?_
  refine j_iconst (v := 1) dL_law_1740 (by decide) ?_
  refine j_iadd dL_law_1741 ?_
  refine j_top (congrArg Value.int (show nI i + (1 : Int32) = nI (i + 1) from nI_add i 1)) ?_
  refine j_sld dL_law_1742 (by omega) (by omega) ?_
  refine j_aload_n dL_law_1743 rfl rfl ?_
  refine j_iload dL_law_1744 rfl ?_
  refine j_iconst (v := 2) dL_law_1746 (by decide) ?_
  refine j_iadd dL_law_1747 ?_
  refine j_top (congrArg Value.int (show nI i + (2 : Int32) = nI (i + 2) from nI_add i 2)) ?_
  refine j_sld dL_law_1748 (by omega) (by omega) ?_
  refine j_aload_n dL_law_1749 rfl rfl ?_
  refine j_callSW dL_law_1750 kL_counts lL_274 stL_counts (lw_counts hl w _ _ _ _ LT (z_sc G (i + 1)) (z_sc G (i + 2))) (Nat.le_of_ble_eq_true rfl) ⟨(by show _ ≤ 793551; omega), (by show _ ≤ 6715452; omega)⟩ rfl (Nat.le_of_ble_eq_true rfl) rfl rfl (fun _ _ h => h.elim) ?_
  rintro _ w1 ⟨n1, rfl, LT1, hn1⟩
  refine j_istore (lo' := [(5, _), (0, _), (1, _), (2, _), (3, _), (4, _)]) dL_law_1753 (by decide) rfl ?_
  refine j_aload_n dL_law_1755 rfl rfl ?_
  refine j_aload_n dL_law_1756 rfl rfl ?_
  refine j_iload dL_law_1757 rfl ?_
  refine j_iconst (v := 1) dL_law_1759 (by decide) ?_
  refine j_iadd dL_law_1760 ?_
  refine j_top (congrArg Value.int (show nI i + (1 : Int32) = nI (i + 1) from nI_add i 1)) ?_
  refine j_sld dL_law_1761 (by omega) (by omega) ?_
  refine j_aload_n dL_law_1762 rfl rfl ?_
  refine j_iload dL_law_1763 rfl ?_
  refine j_iconst (v := 2) dL_law_1765 (by decide) ?_
  refine j_iadd dL_law_1766 ?_
  refine j_top (congrArg Value.int (show nI i + (2 : Int32) = nI (i + 2) from nI_add i 2)) ?_
  refine j_sld dL_law_1767 (by omega) (by omega) ?_
  obtain ⟨-, ⟨s34, hs34, -⟩, -⟩ := id LT1
  refine j_callV (q := (RX11, TX11, 8)) dL_law_1768 kX11_counts lL_276 inX11_counts seX11_counts hs34.m rfl (kx_counts hl w1 LT1 (z_sc G (i + 1)) (z_sc G (i + 2))) (Nat.le_of_ble_eq_true rfl) ⟨(by show _ ≤ 793551; omega), (by show _ ≤ 6715452; omega)⟩ rfl (Nat.le_of_ble_eq_true rfl) rfl rfl (fun _ _ h => h.elim) ?_
  rintro _ w2 ⟨r2, rfl, LT2, th2, hr2⟩
  refine j_istore (lo' := [(6, _), (5, _), (0, _), (1, _), (2, _), (3, _), (4, _)]) dL_law_1771 (by decide) rfl ?_
  refine j_goto (tgt := 2258) dL_law_1773 (by decide) ?_
  refine j_widen (kc' := kc + 200) (ks' := ks + 6000) (by omega) (by omega) ?_
  exact j_lo2 (KK _ _ _ LT2) (z_q1 rfl (z_q1 rfl (z_q1 rfl (z_q1 rfl (z_q1 rfl z_q0)))))
set_option maxRecDepth 100000 in
set_option maxHeartbeats 4000000 in
theorem lc_33 (hl : l.stackTraces = false) {w : z_W} {x i kc ks : Nat} {S : sp_S} {n : Int64} (LT : z_LX x S S n w) (hi6 : i + 6 ≤ z_sn G) (hsn : z_sn G ≤ 3072) (hkc : kc + 200 ≤ 793551) (hks : ks + 6000 ≤ 6715452) (KK : ∀ (S9 : sp_S) (n9 : Int64) (w9 : z_W), z_LX x S9 S9 n9 w9 → z_J G l mL_law z_SL 2258 (z_lol x i) [] w9 (kc + 200) (ks + 6000)) : z_J G l mL_law z_SL 1776 (z_lol x i) [] w kc ks := by
  show z_J G l mL_law _ 1776 [(0, _), (1, _), (2, _), (3, _), (4, _)] [] _ _ _
  refine j_aload_n dL_law_1776 rfl rfl ?_
  refine j_aload_n dL_law_1777 rfl rfl ?_
  refine j_iload dL_law_1778 rfl ?_
  refine j_iconst (v := 1) dL_law_1780 (by decide) ?_
  refine j_iadd dL_law_1781 ?_
  refine j_top (congrArg Value.int (show nI i + (1 : Int32) = nI (i + 1) from nI_add i 1)) ?_
  refine j_sld dL_law_1782 (by omega) (by omega) ?_
  refine j_aload_n dL_law_1783 rfl rfl ?_
  refine j_callSW dL_law_1784 kL_shelfCounts lL_277 stL_shelfCounts (lw_shelfCounts hl w _ _ _ _ LT (z_sc G (i + 1))) (Nat.le_of_ble_eq_true rfl) ⟨(by show _ ≤ 793551; omega), (by show _ ≤ 6715452; omega)⟩ rfl (Nat.le_of_ble_eq_true rfl) rfl rfl (fun _ _ h => h.elim) ?_
  rintro _ w1 ⟨n1, rfl, LT1, hn1⟩
  refine j_istore (lo' := [(5, _), (0, _), (1, _), (2, _), (3, _), (4, _)]) dL_law_1787 (by decide) rfl ?_
  refine j_aload_n dL_law_1789 rfl rfl ?_
  refine j_aload_n dL_law_1790 rfl rfl ?_
  refine j_iload dL_law_1791 rfl ?_
  refine j_iconst (v := 1) dL_law_1793 (by decide) ?_
  refine j_iadd dL_law_1794 ?_
  refine j_top (congrArg Value.int (show nI i + (1 : Int32) = nI (i + 1) from nI_add i 1)) ?_
  refine j_sld dL_law_1795 (by omega) (by omega) ?_
  obtain ⟨-, ⟨s35, hs35, -⟩, -⟩ := id LT1
  refine j_callV (q := (RX11, TX11, 8)) dL_law_1796 kX11_shelfCounts lL_279 inX11_shelfCounts seX11_shelfCounts hs35.m rfl (kx_shelfCounts hl w1 LT1 (z_sc G (i + 1))) (Nat.le_of_ble_eq_true rfl) ⟨(by show _ ≤ 793551; omega), (by show _ ≤ 6715452; omega)⟩ rfl (Nat.le_of_ble_eq_true rfl) rfl rfl (fun _ _ h => h.elim) ?_
  rintro _ w2 ⟨r2, rfl, LT2, th2, hr2⟩
  refine j_istore (lo' := [(6, _), (5, _), (0, _), (1, _), (2, _), (3, _), (4, _)]) dL_law_1799 (by decide) rfl ?_
  refine j_goto (tgt := 2258) dL_law_1801 (by decide) ?_
  refine j_widen (kc' := kc + 200) (ks' := ks + 6000) (by omega) (by omega) ?_
  exact j_lo2 (KK _ _ _ LT2) (z_q1 rfl (z_q1 rfl (z_q1 rfl (z_q1 rfl (z_q1 rfl z_q0)))))
set_option maxRecDepth 100000 in
set_option maxHeartbeats 4000000 in
theorem lc_34 (hl : l.stackTraces = false) {w : z_W} {x i kc ks : Nat} {S : sp_S} {n : Int64} (LT : z_LX x S S n w) (hi6 : i + 6 ≤ z_sn G) (hsn : z_sn G ≤ 3072) (hkc : kc + 200 ≤ 793551) (hks : ks + 6000 ≤ 6715452) (KK : ∀ (S9 : sp_S) (n9 : Int64) (w9 : z_W), z_LX x S9 S9 n9 w9 → z_J G l mL_law z_SL 2258 (z_lol x i) [] w9 (kc + 200) (ks + 6000)) : z_J G l mL_law z_SL 1804 (z_lol x i) [] w kc ks := by
  show z_J G l mL_law _ 1804 [(0, _), (1, _), (2, _), (3, _), (4, _)] [] _ _ _
  refine j_aload_n dL_law_1804 rfl rfl ?_
  obtain ⟨fs36, gs36⟩ := LT.rc
  refine j_callV (q := (RX8, TX8, 9)) dL_law_1805 kX8_forgetCounts lL_280 inX8_forgetCounts seX8_forgetCounts gs36 rfl (px_forgetCounts hl w _ LT.1.1 LT.1.2) (Nat.le_of_ble_eq_true rfl) ⟨(by show _ ≤ 793551; omega), (by show _ ≤ 6715452; omega)⟩ rfl (Nat.le_of_ble_eq_true rfl) rfl rfl (fun _ _ h => h.elim) ?_
  rintro _ w1 ⟨rfl, hW1, hh1⟩
  have LT1 := LT.cls hW1 (okk_forgetCounts LT.1.2) hh1
  refine j_pop dL_law_1808 rfl ?_
  refine j_aload_n dL_law_1809 rfl rfl ?_
  obtain ⟨-, ⟨s37, hs37, -⟩, -⟩ := id LT1
  refine j_callV (q := (RX11, TX11, 8)) dL_law_1810 kX11_forgetCounts lL_284 inX11_forgetCounts seX11_forgetCounts hs37.m rfl (kx_forgetCounts hl w1 LT1) (Nat.le_of_ble_eq_true rfl) ⟨(by show _ ≤ 793551; omega), (by show _ ≤ 6715452; omega)⟩ rfl (Nat.le_of_ble_eq_true rfl) rfl rfl (fun _ _ h => h.elim) ?_
  rintro _ w2 ⟨r2, rfl, LT2, th2, hr2⟩
  refine j_pop dL_law_1813 rfl ?_
  refine j_goto (tgt := 2258) dL_law_1814 (by decide) ?_
  refine j_widen (kc' := kc + 200) (ks' := ks + 6000) (by omega) (by omega) ?_
  exact j_lo2 (KK _ _ _ LT2) (z_q1 rfl (z_q1 rfl (z_q1 rfl (z_q1 rfl (z_q1 rfl z_q0)))))
set_option maxRecDepth 100000 in
set_option maxHeartbeats 4000000 in
theorem lc_35 (hl : l.stackTraces = false) {w : z_W} {x i kc ks : Nat} {S : sp_S} {n : Int64} (LT : z_LX x S S n w) (hi6 : i + 6 ≤ z_sn G) (hsn : z_sn G ≤ 3072) (hkc : kc + 200 ≤ 793551) (hks : ks + 6000 ≤ 6715452) (KK : ∀ (S9 : sp_S) (n9 : Int64) (w9 : z_W), z_LX x S9 S9 n9 w9 → z_J G l mL_law z_SL 2258 (z_lol x i) [] w9 (kc + 200) (ks + 6000)) : z_J G l mL_law z_SL 1817 (z_lol x i) [] w kc ks := by
  show z_J G l mL_law _ 1817 [(0, _), (1, _), (2, _), (3, _), (4, _)] [] _ _ _
  refine j_aload_n dL_law_1817 rfl rfl ?_
  refine j_aload_n dL_law_1818 rfl rfl ?_
  refine j_iload dL_law_1819 rfl ?_
  refine j_iconst (v := 1) dL_law_1821 (by decide) ?_
  refine j_iadd dL_law_1822 ?_
  refine j_top (congrArg Value.int (show nI i + (1 : Int32) = nI (i + 1) from nI_add i 1)) ?_
  refine j_sld dL_law_1823 (by omega) (by omega) ?_
  refine j_aload_n dL_law_1824 rfl rfl ?_
  refine j_iload dL_law_1825 rfl ?_
  refine j_iconst (v := 2) dL_law_1827 (by decide) ?_
  refine j_iadd dL_law_1828 ?_
  refine j_top (congrArg Value.int (show nI i + (2 : Int32) = nI (i + 2) from nI_add i 2)) ?_
  refine j_sld dL_law_1829 (by omega) (by omega) ?_
  refine j_aload_n dL_law_1830 rfl rfl ?_
  refine j_callSW dL_law_1831 kL_get lL_285 stL_get (lw_get hl w _ _ _ _ LT (z_sc G (i + 1)) (z_sc G (i + 2))) (Nat.le_of_ble_eq_true rfl) ⟨(by show _ ≤ 793551; omega), (by show _ ≤ 6715452; omega)⟩ rfl (Nat.le_of_ble_eq_true rfl) rfl rfl (fun _ _ h => h.elim) ?_
  rintro _ w1 ⟨n1, rfl, LT1, hn1⟩
  refine j_istore (lo' := [(5, _), (0, _), (1, _), (2, _), (3, _), (4, _)]) dL_law_1834 (by decide) rfl ?_
  refine j_aload_n dL_law_1836 rfl rfl ?_
  refine j_aload_n dL_law_1837 rfl rfl ?_
  refine j_iload dL_law_1838 rfl ?_
  refine j_iconst (v := 1) dL_law_1840 (by decide) ?_
  refine j_iadd dL_law_1841 ?_
  refine j_top (congrArg Value.int (show nI i + (1 : Int32) = nI (i + 1) from nI_add i 1)) ?_
  refine j_sld dL_law_1842 (by omega) (by omega) ?_
  refine j_aload_n dL_law_1843 rfl rfl ?_
  refine j_iload dL_law_1844 rfl ?_
  refine j_iconst (v := 2) dL_law_1846 (by decide) ?_
  refine j_iadd dL_law_1847 ?_
  refine j_top (congrArg Value.int (show nI i + (2 : Int32) = nI (i + 2) from nI_add i 2)) ?_
  refine j_sld dL_law_1848 (by omega) (by omega) ?_
  obtain ⟨-, ⟨s38, hs38, -⟩, -⟩ := id LT1
  refine j_callV (q := (RX11, TX11, 8)) dL_law_1849 kX11_get lL_287 inX11_get seX11_get hs38.m rfl (kx_get hl w1 LT1 (z_sc G (i + 1)) (z_sc G (i + 2))) (Nat.le_of_ble_eq_true rfl) ⟨(by show _ ≤ 793551; omega), (by show _ ≤ 6715452; omega)⟩ rfl (Nat.le_of_ble_eq_true rfl) rfl rfl (fun _ _ h => h.elim) ?_
  rintro _ w2 ⟨r2, rfl, LT2, th2, hr2⟩
  refine j_istore (lo' := [(6, _), (5, _), (0, _), (1, _), (2, _), (3, _), (4, _)]) dL_law_1852 (by decide) rfl ?_
  refine j_goto (tgt := 2258) dL_law_1854 (by decide) ?_
  refine j_widen (kc' := kc + 200) (ks' := ks + 6000) (by omega) (by omega) ?_
  exact j_lo2 (KK _ _ _ LT2) (z_q1 rfl (z_q1 rfl (z_q1 rfl (z_q1 rfl (z_q1 rfl z_q0)))))
set_option maxRecDepth 100000 in
set_option maxHeartbeats 4000000 in
theorem lc_36 (hl : l.stackTraces = false) {w : z_W} {x i kc ks : Nat} {S : sp_S} {n : Int64} (LT : z_LX x S S n w) (hi6 : i + 6 ≤ z_sn G) (hsn : z_sn G ≤ 3072) (hkc : kc + 200 ≤ 793551) (hks : ks + 6000 ≤ 6715452) (KK : ∀ (S9 : sp_S) (n9 : Int64) (w9 : z_W), z_LX x S9 S9 n9 w9 → z_J G l mL_law z_SL 2258 (z_lol x i) [] w9 (kc + 200) (ks + 6000)) : z_J G l mL_law z_SL 1857 (z_lol x i) [] w kc ks := by
  show z_J G l mL_law _ 1857 [(0, _), (1, _), (2, _), (3, _), (4, _)] [] _ _ _
  refine j_aload_n dL_law_1857 rfl rfl ?_
  refine j_aload_n dL_law_1858 rfl rfl ?_
  refine j_iload dL_law_1859 rfl ?_
  refine j_iconst (v := 1) dL_law_1861 (by decide) ?_
  refine j_iadd dL_law_1862 ?_
  refine j_top (congrArg Value.int (show nI i + (1 : Int32) = nI (i + 1) from nI_add i 1)) ?_
  refine j_sld dL_law_1863 (by omega) (by omega) ?_
  refine j_aload_n dL_law_1864 rfl rfl ?_
  refine j_iload dL_law_1865 rfl ?_
  refine j_iconst (v := 2) dL_law_1867 (by decide) ?_
  refine j_iadd dL_law_1868 ?_
  refine j_top (congrArg Value.int (show nI i + (2 : Int32) = nI (i + 2) from nI_add i 2)) ?_
  refine j_sld dL_law_1869 (by omega) (by omega) ?_
  refine j_aload_n dL_law_1870 rfl rfl ?_
  refine j_iload dL_law_1871 rfl ?_
  refine j_iconst (v := 3) dL_law_1873 (by decide) ?_
  refine j_iadd dL_law_1874 ?_
  refine j_top (congrArg Value.int (show nI i + (3 : Int32) = nI (i + 3) from nI_add i 3)) ?_
  refine j_sld dL_law_1875 (by omega) (by omega) ?_
  refine j_aload_n dL_law_1876 rfl rfl ?_
  refine j_callSW dL_law_1877 kL_getOr lL_288 stL_getOr (lw_getOr hl w _ _ _ _ LT (z_sc G (i + 1)) (z_sc G (i + 2)) (z_sc G (i + 3))) (Nat.le_of_ble_eq_true rfl) ⟨(by show _ ≤ 793551; omega), (by show _ ≤ 6715452; omega)⟩ rfl (Nat.le_of_ble_eq_true rfl) rfl rfl (fun _ _ h => h.elim) ?_
  rintro _ w1 ⟨n1, rfl, LT1, hn1⟩
  refine j_istore (lo' := [(5, _), (0, _), (1, _), (2, _), (3, _), (4, _)]) dL_law_1880 (by decide) rfl ?_
  refine j_aload_n dL_law_1882 rfl rfl ?_
  refine j_aload_n dL_law_1883 rfl rfl ?_
  refine j_iload dL_law_1884 rfl ?_
  refine j_iconst (v := 1) dL_law_1886 (by decide) ?_
  refine j_iadd dL_law_1887 ?_
  refine j_top (congrArg Value.int (show nI i + (1 : Int32) = nI (i + 1) from nI_add i 1)) ?_
  refine j_sld dL_law_1888 (by omega) (by omega) ?_
  refine j_aload_n dL_law_1889 rfl rfl ?_
  refine j_iload dL_law_1890 rfl ?_
  refine j_iconst (v := 2) dL_law_1892 (by decide) ?_
  refine j_iadd dL_law_1893 ?_
  refine j_top (congrArg Value.int (show nI i + (2 : Int32) = nI (i + 2) from nI_add i 2)) ?_
  refine j_sld dL_law_1894 (by omega) (by omega) ?_
  refine j_aload_n dL_law_1895 rfl rfl ?_
  refine j_iload dL_law_1896 rfl ?_
  refine j_iconst (v := 3) dL_law_1898 (by decide) ?_
  refine j_iadd dL_law_1899 ?_
  refine j_top (congrArg Value.int (show nI i + (3 : Int32) = nI (i + 3) from nI_add i 3)) ?_
  refine j_sld dL_law_1900 (by omega) (by omega) ?_
  obtain ⟨-, ⟨s39, hs39, -⟩, -⟩ := id LT1
  refine j_callV (q := (RX11, TX11, 8)) dL_law_1901 kX11_getOr lL_290 inX11_getOr seX11_getOr hs39.m rfl (kx_getOr hl w1 LT1 (z_sc G (i + 1)) (z_sc G (i + 2)) (z_sc G (i + 3))) (Nat.le_of_ble_eq_true rfl) ⟨(by show _ ≤ 793551; omega), (by show _ ≤ 6715452; omega)⟩ rfl (Nat.le_of_ble_eq_true rfl) rfl rfl (fun _ _ h => h.elim) ?_
  rintro _ w2 ⟨r2, rfl, LT2, th2, hr2⟩
  refine j_istore (lo' := [(6, _), (5, _), (0, _), (1, _), (2, _), (3, _), (4, _)]) dL_law_1904 (by decide) rfl ?_
  refine j_goto (tgt := 2258) dL_law_1906 (by decide) ?_
  refine j_widen (kc' := kc + 200) (ks' := ks + 6000) (by omega) (by omega) ?_
  exact j_lo2 (KK _ _ _ LT2) (z_q1 rfl (z_q1 rfl (z_q1 rfl (z_q1 rfl (z_q1 rfl z_q0)))))
set_option maxRecDepth 100000 in
set_option maxHeartbeats 4000000 in
theorem lc_37 (hl : l.stackTraces = false) {w : z_W} {x i kc ks : Nat} {S : sp_S} {n : Int64} (LT : z_LX x S S n w) (hi6 : i + 6 ≤ z_sn G) (hsn : z_sn G ≤ 3072) (hkc : kc + 200 ≤ 793551) (hks : ks + 6000 ≤ 6715452) (KK : ∀ (S9 : sp_S) (n9 : Int64) (w9 : z_W), z_LX x S9 S9 n9 w9 → z_J G l mL_law z_SL 2258 (z_lol x i) [] w9 (kc + 200) (ks + 6000)) : z_J G l mL_law z_SL 1909 (z_lol x i) [] w kc ks := by
  show z_J G l mL_law _ 1909 [(0, _), (1, _), (2, _), (3, _), (4, _)] [] _ _ _
  refine j_aload_n dL_law_1909 rfl rfl ?_
  refine j_aload_n dL_law_1910 rfl rfl ?_
  refine j_iload dL_law_1911 rfl ?_
  refine j_iconst (v := 1) dL_law_1913 (by decide) ?_
  refine j_iadd dL_law_1914 ?_
  refine j_top (congrArg Value.int (show nI i + (1 : Int32) = nI (i + 1) from nI_add i 1)) ?_
  refine j_sld dL_law_1915 (by omega) (by omega) ?_
  refine j_aload_n dL_law_1916 rfl rfl ?_
  refine j_iload dL_law_1917 rfl ?_
  refine j_iconst (v := 2) dL_law_1919 (by decide) ?_
  refine j_iadd dL_law_1920 ?_
  refine j_top (congrArg Value.int (show nI i + (2 : Int32) = nI (i + 2) from nI_add i 2)) ?_
  refine j_sld dL_law_1921 (by omega) (by omega) ?_
  refine j_aload_n dL_law_1922 rfl rfl ?_
  refine j_callSW dL_law_1923 kL_has lL_291 stL_has (lw_has hl w _ _ _ _ LT (z_sc G (i + 1)) (z_sc G (i + 2))) (Nat.le_of_ble_eq_true rfl) ⟨(by show _ ≤ 793551; omega), (by show _ ≤ 6715452; omega)⟩ rfl (Nat.le_of_ble_eq_true rfl) rfl rfl (fun _ _ h => h.elim) ?_
  rintro _ w1 ⟨n1, rfl, LT1, hn1⟩
  refine j_istore (lo' := [(5, _), (0, _), (1, _), (2, _), (3, _), (4, _)]) dL_law_1926 (by decide) rfl ?_
  refine j_aload_n dL_law_1928 rfl rfl ?_
  refine j_aload_n dL_law_1929 rfl rfl ?_
  refine j_iload dL_law_1930 rfl ?_
  refine j_iconst (v := 1) dL_law_1932 (by decide) ?_
  refine j_iadd dL_law_1933 ?_
  refine j_top (congrArg Value.int (show nI i + (1 : Int32) = nI (i + 1) from nI_add i 1)) ?_
  refine j_sld dL_law_1934 (by omega) (by omega) ?_
  refine j_aload_n dL_law_1935 rfl rfl ?_
  refine j_iload dL_law_1936 rfl ?_
  refine j_iconst (v := 2) dL_law_1938 (by decide) ?_
  refine j_iadd dL_law_1939 ?_
  refine j_top (congrArg Value.int (show nI i + (2 : Int32) = nI (i + 2) from nI_add i 2)) ?_
  refine j_sld dL_law_1940 (by omega) (by omega) ?_
  obtain ⟨-, ⟨s40, hs40, -⟩, -⟩ := id LT1
  refine j_callV (q := (RX11, TX11, 8)) dL_law_1941 kX11_has lL_293 inX11_has seX11_has hs40.m rfl (kx_has hl w1 LT1 (z_sc G (i + 1)) (z_sc G (i + 2))) (Nat.le_of_ble_eq_true rfl) ⟨(by show _ ≤ 793551; omega), (by show _ ≤ 6715452; omega)⟩ rfl (Nat.le_of_ble_eq_true rfl) rfl rfl (fun _ _ h => h.elim) ?_
  rintro _ w2 ⟨r2, rfl, LT2, th2, hr2⟩
  refine j_istore (lo' := [(6, _), (5, _), (0, _), (1, _), (2, _), (3, _), (4, _)]) dL_law_1944 (by decide) rfl ?_
  refine j_goto (tgt := 2258) dL_law_1946 (by decide) ?_
  refine j_widen (kc' := kc + 200) (ks' := ks + 6000) (by omega) (by omega) ?_
  exact j_lo2 (KK _ _ _ LT2) (z_q1 rfl (z_q1 rfl (z_q1 rfl (z_q1 rfl (z_q1 rfl z_q0)))))
set_option maxRecDepth 100000 in
set_option maxHeartbeats 4000000 in
theorem lc_38 (hl : l.stackTraces = false) {w : z_W} {x i kc ks : Nat} {S : sp_S} {n : Int64} (LT : z_LX x S S n w) (hi6 : i + 6 ≤ z_sn G) (hsn : z_sn G ≤ 3072) (hkc : kc + 200 ≤ 793551) (hks : ks + 6000 ≤ 6715452) (KK : ∀ (S9 : sp_S) (n9 : Int64) (w9 : z_W), z_LX x S9 S9 n9 w9 → z_J G l mL_law z_SL 2258 (z_lol x i) [] w9 (kc + 200) (ks + 6000)) : z_J G l mL_law z_SL 1949 (z_lol x i) [] w kc ks := by
  show z_J G l mL_law _ 1949 [(0, _), (1, _), (2, _), (3, _), (4, _)] [] _ _ _
  refine j_aload_n dL_law_1949 rfl rfl ?_
  refine j_aload_n dL_law_1950 rfl rfl ?_
  refine j_iload dL_law_1951 rfl ?_
  refine j_iconst (v := 1) dL_law_1953 (by decide) ?_
  refine j_iadd dL_law_1954 ?_
  refine j_top (congrArg Value.int (show nI i + (1 : Int32) = nI (i + 1) from nI_add i 1)) ?_
  refine j_sld dL_law_1955 (by omega) (by omega) ?_
  refine j_aload_n dL_law_1956 rfl rfl ?_
  refine j_callSW dL_law_1957 kL_size lL_294 stL_size (lw_size hl w _ _ _ _ LT (z_sc G (i + 1))) (Nat.le_of_ble_eq_true rfl) ⟨(by show _ ≤ 793551; omega), (by show _ ≤ 6715452; omega)⟩ rfl (Nat.le_of_ble_eq_true rfl) rfl rfl (fun _ _ h => h.elim) ?_
  rintro _ w1 ⟨n1, rfl, LT1, hn1⟩
  refine j_istore (lo' := [(5, _), (0, _), (1, _), (2, _), (3, _), (4, _)]) dL_law_1960 (by decide) rfl ?_
  refine j_aload_n dL_law_1962 rfl rfl ?_
  refine j_aload_n dL_law_1963 rfl rfl ?_
  refine j_iload dL_law_1964 rfl ?_
  refine j_iconst (v := 1) dL_law_1966 (by decide) ?_
  refine j_iadd dL_law_1967 ?_
  refine j_top (congrArg Value.int (show nI i + (1 : Int32) = nI (i + 1) from nI_add i 1)) ?_
  refine j_sld dL_law_1968 (by omega) (by omega) ?_
  obtain ⟨-, ⟨s41, hs41, -⟩, -⟩ := id LT1
  refine j_callV (q := (RX11, TX11, 8)) dL_law_1969 kX11_size lL_296 inX11_size seX11_size hs41.m rfl (kx_size hl w1 LT1 (z_sc G (i + 1))) (Nat.le_of_ble_eq_true rfl) ⟨(by show _ ≤ 793551; omega), (by show _ ≤ 6715452; omega)⟩ rfl (Nat.le_of_ble_eq_true rfl) rfl rfl (fun _ _ h => h.elim) ?_
  rintro _ w2 ⟨r2, rfl, LT2, th2, hr2⟩
  refine j_istore (lo' := [(6, _), (5, _), (0, _), (1, _), (2, _), (3, _), (4, _)]) dL_law_1972 (by decide) rfl ?_
  refine j_goto (tgt := 2258) dL_law_1974 (by decide) ?_
  refine j_widen (kc' := kc + 200) (ks' := ks + 6000) (by omega) (by omega) ?_
  exact j_lo2 (KK _ _ _ LT2) (z_q1 rfl (z_q1 rfl (z_q1 rfl (z_q1 rfl (z_q1 rfl z_q0)))))
set_option maxRecDepth 100000 in
set_option maxHeartbeats 4000000 in
theorem lc_39 (hl : l.stackTraces = false) {w : z_W} {x i kc ks : Nat} {S : sp_S} {n : Int64} (LT : z_LX x S S n w) (hi6 : i + 6 ≤ z_sn G) (hsn : z_sn G ≤ 3072) (hkc : kc + 200 ≤ 793551) (hks : ks + 6000 ≤ 6715452) (KK : ∀ (S9 : sp_S) (n9 : Int64) (w9 : z_W), z_LX x S9 S9 n9 w9 → z_J G l mL_law z_SL 2258 (z_lol x i) [] w9 (kc + 200) (ks + 6000)) : z_J G l mL_law z_SL 1977 (z_lol x i) [] w kc ks := by
  show z_J G l mL_law _ 1977 [(0, _), (1, _), (2, _), (3, _), (4, _)] [] _ _ _
  refine j_aload_n dL_law_1977 rfl rfl ?_
  refine j_aload_n dL_law_1978 rfl rfl ?_
  refine j_iload dL_law_1979 rfl ?_
  refine j_iconst (v := 1) dL_law_1981 (by decide) ?_
  refine j_iadd dL_law_1982 ?_
  refine j_top (congrArg Value.int (show nI i + (1 : Int32) = nI (i + 1) from nI_add i 1)) ?_
  refine j_sld dL_law_1983 (by omega) (by omega) ?_
  refine j_aload_n dL_law_1984 rfl rfl ?_
  refine j_callSW dL_law_1985 kL_text lL_297 stL_text (lw_text hl w _ _ _ _ LT (z_sc G (i + 1))) (Nat.le_of_ble_eq_true rfl) ⟨(by show _ ≤ 793551; omega), (by show _ ≤ 6715452; omega)⟩ rfl (Nat.le_of_ble_eq_true rfl) rfl rfl (fun _ _ h => h.elim) ?_
  rintro _ w1 ⟨n1, rfl, LT1, hT1⟩
  refine j_istore (lo' := [(5, _), (0, _), (1, _), (2, _), (3, _), (4, _)]) dL_law_1988 (by decide) rfl ?_
  refine j_aload_n dL_law_1990 rfl rfl ?_
  refine j_aload_n dL_law_1991 rfl rfl ?_
  refine j_iload dL_law_1992 rfl ?_
  refine j_iconst (v := 1) dL_law_1994 (by decide) ?_
  refine j_iadd dL_law_1995 ?_
  refine j_top (congrArg Value.int (show nI i + (1 : Int32) = nI (i + 1) from nI_add i 1)) ?_
  refine j_sld dL_law_1996 (by omega) (by omega) ?_
  obtain ⟨-, ⟨s42, hs42, -⟩, -⟩ := id LT1
  refine j_callV (q := (RX11, TX11, 8)) dL_law_1997 kX11_text lL_299 inX11_text seX11_text hs42.m rfl (kz_text hl w1 LT1 (z_sc G (i + 1))) (Nat.le_of_ble_eq_true rfl) ⟨(by show _ ≤ 793551; omega), (by show _ ≤ 6715452; omega)⟩ rfl (Nat.le_of_ble_eq_true rfl) rfl rfl (fun _ _ h => h.elim) ?_
  rintro _ w2 ⟨r2, rfl, hir2, LT2, th2, fm2, hq2⟩
  refine j_astore (lo' := [(6, _), (5, _), (0, _), (1, _), (2, _), (3, _), (4, _)]) dL_law_2000 hir2 (by decide) rfl ?_
  refine j_aload_n dL_law_2002 rfl rfl ?_
  obtain ⟨st43, hst43, ht43⟩ := th2
  refine j_callV (q := (RX11, TX11, 8)) dL_law_2003 kX11_thrown lL_300 inX11_thrown seX11_thrown hst43.m rfl (cm_thrown hl w2 _ hst43) (Nat.le_of_ble_eq_true rfl) ⟨(by show _ ≤ 793551; omega), (by show _ ≤ 6715452; omega)⟩ rfl (Nat.le_of_ble_eq_true rfl) rfl rfl (fun _ _ h => h.elim) ?_
  rintro _ _ ⟨rfl, hw43⟩
  refine j_w w2 hw43 ?_
  refine j_iload dL_law_2006 rfl ?_
  refine j_icmp_eq (tgt := 2013) dL_law_2008 (by decide) (fun c_2008_29 => ?_) (fun c_2008_29 => ?_)
  · refine j_iload dL_law_2013 rfl ?_
    refine j_if_ne (tgt := 2032) dL_law_2015 (by decide) (fun c_2015_31 => ?_) (fun c_2015_31 => ?_)
    · refine j_goto (tgt := 2258) dL_law_2032 (by decide) ?_
      refine j_widen (kc' := kc + 200) (ks' := ks + 6000) (by omega) (by omega) ?_
      exact j_lo2 (KK _ _ _ LT2) (z_q1 rfl (z_q1 rfl (z_q1 rfl (z_q1 rfl (z_q1 rfl z_q0)))))
    · obtain ⟨nq9, rq9, gq9, hxq9⟩ := z_LT.fm (hT1 c_2015_31) LT2.x1 LT2.x2 fm2
      obtain ⟨q9, hr9, hq9⟩ := hq2 c_2015_31
      subst hr9
      refine j_aload_n dL_law_2018 rfl rfl ?_
      refine j_getf dL_law_2019 fL_114 gq9 rfl ?_
      refine j_aload dL_law_2022 rfl rfl ?_
      obtain ⟨fs44, gs44⟩ := hxq9.tx.cell
      refine j_callV (q := (RJ0, TJ0, 4)) dL_law_2024 kJ0_equals_9ea2d lL_303 inJ0_equals_9ea2d seJ0_equals_9ea2d gs44 rfl (tq_eq hl w2 rq9 q9 _ hxq9 hq9) (Nat.le_of_ble_eq_true rfl) ⟨(by show _ ≤ 793551; omega), (by show _ ≤ 6715452; omega)⟩ rfl (Nat.le_of_ble_eq_true rfl) rfl rfl (fun _ _ h => h.elim) ?_
      rintro _ _ ⟨rfl, hw44⟩
      refine j_w w2 hw44 ?_
      refine j_if_ne (tgt := 2032) dL_law_2027 (by decide) (fun c_2027_45 => ?_) (fun c_2027_45 => ?_)
      · refine j_goto (tgt := 2258) dL_law_2032 (by decide) ?_
        refine j_widen (kc' := kc + 200) (ks' := ks + 6000) (by omega) (by omega) ?_
        exact j_lo2 (KK _ _ _ LT2) (z_q1 rfl (z_q1 rfl (z_q1 rfl (z_q1 rfl (z_q1 rfl z_q0)))))
      · exact absurd c_2027_45 (by decide)
  · exact absurd ht43 c_2008_29
set_option maxRecDepth 100000 in
set_option maxHeartbeats 4000000 in
theorem lc_40 (hl : l.stackTraces = false) {w : z_W} {x i kc ks : Nat} {S : sp_S} {n : Int64} (LT : z_LX x S S n w) (hi6 : i + 6 ≤ z_sn G) (hsn : z_sn G ≤ 3072) (hkc : kc + 200 ≤ 793551) (hks : ks + 6000 ≤ 6715452) (KK : ∀ (S9 : sp_S) (n9 : Int64) (w9 : z_W), z_LX x S9 S9 n9 w9 → z_J G l mL_law z_SL 2258 (z_lol x i) [] w9 (kc + 200) (ks + 6000)) : z_J G l mL_law z_SL 2035 (z_lol x i) [] w kc ks := by
  show z_J G l mL_law _ 2035 [(0, _), (1, _), (2, _), (3, _), (4, _)] [] _ _ _
  refine j_aload_n dL_law_2035 rfl rfl ?_
  refine j_aload_n dL_law_2036 rfl rfl ?_
  refine j_iload dL_law_2037 rfl ?_
  refine j_iconst (v := 1) dL_law_2039 (by decide) ?_
  refine j_iadd dL_law_2040 ?_
  refine j_top (congrArg Value.int (show nI i + (1 : Int32) = nI (i + 1) from nI_add i 1)) ?_
  refine j_sld dL_law_2041 (by omega) (by omega) ?_
  refine j_aload_n dL_law_2042 rfl rfl ?_
  refine j_iload dL_law_2043 rfl ?_
  refine j_iconst (v := 2) dL_law_2045 (by decide) ?_
  refine j_iadd dL_law_2046 ?_
  refine j_top (congrArg Value.int (show nI i + (2 : Int32) = nI (i + 2) from nI_add i 2)) ?_
  refine j_sld dL_law_2047 (by omega) (by omega) ?_
  refine j_aload_n dL_law_2048 rfl rfl ?_
  refine j_callSW dL_law_2049 kL_areLike lL_309 stL_areLike (lw_areLike hl w _ _ _ _ LT (z_sc G (i + 1)) (z_sc G (i + 2))) (Nat.le_of_ble_eq_true rfl) ⟨(by show _ ≤ 793551; omega), (by show _ ≤ 6715452; omega)⟩ rfl (Nat.le_of_ble_eq_true rfl) rfl rfl (fun _ _ h => h.elim) ?_
  rintro _ w1 ⟨n1, rfl, LT1, hn1⟩
  refine j_istore (lo' := [(5, _), (0, _), (1, _), (2, _), (3, _), (4, _)]) dL_law_2052 (by decide) rfl ?_
  refine j_aload_n dL_law_2054 rfl rfl ?_
  refine j_aload_n dL_law_2055 rfl rfl ?_
  refine j_iload dL_law_2056 rfl ?_
  refine j_iconst (v := 1) dL_law_2058 (by decide) ?_
  refine j_iadd dL_law_2059 ?_
  refine j_top (congrArg Value.int (show nI i + (1 : Int32) = nI (i + 1) from nI_add i 1)) ?_
  refine j_sld dL_law_2060 (by omega) (by omega) ?_
  refine j_aload_n dL_law_2061 rfl rfl ?_
  refine j_iload dL_law_2062 rfl ?_
  refine j_iconst (v := 2) dL_law_2064 (by decide) ?_
  refine j_iadd dL_law_2065 ?_
  refine j_top (congrArg Value.int (show nI i + (2 : Int32) = nI (i + 2) from nI_add i 2)) ?_
  refine j_sld dL_law_2066 (by omega) (by omega) ?_
  obtain ⟨-, ⟨s45, hs45, -⟩, -⟩ := id LT1
  refine j_callV (q := (RX11, TX11, 8)) dL_law_2067 kX11_areLike lL_311 inX11_areLike seX11_areLike hs45.m rfl (kx_areLike hl w1 LT1 (z_sc G (i + 1)) (z_sc G (i + 2))) (Nat.le_of_ble_eq_true rfl) ⟨(by show _ ≤ 793551; omega), (by show _ ≤ 6715452; omega)⟩ rfl (Nat.le_of_ble_eq_true rfl) rfl rfl (fun _ _ h => h.elim) ?_
  rintro _ w2 ⟨r2, rfl, LT2, th2, hr2⟩
  refine j_istore (lo' := [(6, _), (5, _), (0, _), (1, _), (2, _), (3, _), (4, _)]) dL_law_2070 (by decide) rfl ?_
  refine j_goto (tgt := 2258) dL_law_2072 (by decide) ?_
  refine j_widen (kc' := kc + 200) (ks' := ks + 6000) (by omega) (by omega) ?_
  exact j_lo2 (KK _ _ _ LT2) (z_q1 rfl (z_q1 rfl (z_q1 rfl (z_q1 rfl (z_q1 rfl z_q0)))))
set_option maxRecDepth 100000 in
set_option maxHeartbeats 4000000 in
theorem lc_41 (hl : l.stackTraces = false) {w : z_W} {x i kc ks : Nat} {S : sp_S} {n : Int64} (LT : z_LX x S S n w) (hi6 : i + 6 ≤ z_sn G) (hsn : z_sn G ≤ 3072) (hkc : kc + 200 ≤ 793551) (hks : ks + 6000 ≤ 6715452) (KK : ∀ (S9 : sp_S) (n9 : Int64) (w9 : z_W), z_LX x S9 S9 n9 w9 → z_J G l mL_law z_SL 2258 (z_lol x i) [] w9 (kc + 200) (ks + 6000)) : z_J G l mL_law z_SL 2075 (z_lol x i) [] w kc ks := by
  show z_J G l mL_law _ 2075 [(0, _), (1, _), (2, _), (3, _), (4, _)] [] _ _ _
  refine j_aload_n dL_law_2075 rfl rfl ?_
  refine j_aload_n dL_law_2076 rfl rfl ?_
  refine j_iload dL_law_2077 rfl ?_
  refine j_iconst (v := 1) dL_law_2079 (by decide) ?_
  refine j_iadd dL_law_2080 ?_
  refine j_top (congrArg Value.int (show nI i + (1 : Int32) = nI (i + 1) from nI_add i 1)) ?_
  refine j_sld dL_law_2081 (by omega) (by omega) ?_
  refine j_aload_n dL_law_2082 rfl rfl ?_
  refine j_iload dL_law_2083 rfl ?_
  refine j_iconst (v := 2) dL_law_2085 (by decide) ?_
  refine j_iadd dL_law_2086 ?_
  refine j_top (congrArg Value.int (show nI i + (2 : Int32) = nI (i + 2) from nI_add i 2)) ?_
  refine j_sld dL_law_2087 (by omega) (by omega) ?_
  refine j_aload_n dL_law_2088 rfl rfl ?_
  refine j_iload dL_law_2089 rfl ?_
  refine j_iconst (v := 3) dL_law_2091 (by decide) ?_
  refine j_iadd dL_law_2092 ?_
  refine j_top (congrArg Value.int (show nI i + (3 : Int32) = nI (i + 3) from nI_add i 3)) ?_
  refine j_sld dL_law_2093 (by omega) (by omega) ?_
  refine j_aload_n dL_law_2094 rfl rfl ?_
  refine j_iload dL_law_2095 rfl ?_
  refine j_iconst (v := 4) dL_law_2097 (by decide) ?_
  refine j_iadd dL_law_2098 ?_
  refine j_top (congrArg Value.int (show nI i + (4 : Int32) = nI (i + 4) from nI_add i 4)) ?_
  refine j_sld dL_law_2099 (by omega) (by omega) ?_
  refine j_aload_n dL_law_2100 rfl rfl ?_
  refine j_callSW dL_law_2101 kL_given lL_312 stL_given (lw_given hl w _ _ _ _ LT (z_sc G (i + 1)) (z_sc G (i + 2)) (z_sc G (i + 3)) (z_sc G (i + 4))) (Nat.le_of_ble_eq_true rfl) ⟨(by show _ ≤ 793551; omega), (by show _ ≤ 6715452; omega)⟩ rfl (Nat.le_of_ble_eq_true rfl) rfl rfl (fun _ _ h => h.elim) ?_
  rintro _ w1 ⟨n1, rfl, LT1, hn1⟩
  refine j_istore (lo' := [(5, _), (0, _), (1, _), (2, _), (3, _), (4, _)]) dL_law_2104 (by decide) rfl ?_
  refine j_aload_n dL_law_2106 rfl rfl ?_
  refine j_aload_n dL_law_2107 rfl rfl ?_
  refine j_iload dL_law_2108 rfl ?_
  refine j_iconst (v := 1) dL_law_2110 (by decide) ?_
  refine j_iadd dL_law_2111 ?_
  refine j_top (congrArg Value.int (show nI i + (1 : Int32) = nI (i + 1) from nI_add i 1)) ?_
  refine j_sld dL_law_2112 (by omega) (by omega) ?_
  refine j_aload_n dL_law_2113 rfl rfl ?_
  refine j_iload dL_law_2114 rfl ?_
  refine j_iconst (v := 2) dL_law_2116 (by decide) ?_
  refine j_iadd dL_law_2117 ?_
  refine j_top (congrArg Value.int (show nI i + (2 : Int32) = nI (i + 2) from nI_add i 2)) ?_
  refine j_sld dL_law_2118 (by omega) (by omega) ?_
  refine j_aload_n dL_law_2119 rfl rfl ?_
  refine j_iload dL_law_2120 rfl ?_
  refine j_iconst (v := 3) dL_law_2122 (by decide) ?_
  refine j_iadd dL_law_2123 ?_
  refine j_top (congrArg Value.int (show nI i + (3 : Int32) = nI (i + 3) from nI_add i 3)) ?_
  refine j_sld dL_law_2124 (by omega) (by omega) ?_
  refine j_aload_n dL_law_2125 rfl rfl ?_
  refine j_iload dL_law_2126 rfl ?_
  refine j_iconst (v := 4) dL_law_2128 (by decide) ?_
  refine j_iadd dL_law_2129 ?_
  refine j_top (congrArg Value.int (show nI i + (4 : Int32) = nI (i + 4) from nI_add i 4)) ?_
  refine j_sld dL_law_2130 (by omega) (by omega) ?_
  obtain ⟨-, ⟨s46, hs46, -⟩, -⟩ := id LT1
  refine j_callV (q := (RX11, TX11, 8)) dL_law_2131 kX11_given lL_314 inX11_given seX11_given hs46.m rfl (kx_given hl w1 LT1 (z_sc G (i + 1)) (z_sc G (i + 2)) (z_sc G (i + 3)) (z_sc G (i + 4))) (Nat.le_of_ble_eq_true rfl) ⟨(by show _ ≤ 793551; omega), (by show _ ≤ 6715452; omega)⟩ rfl (Nat.le_of_ble_eq_true rfl) rfl rfl (fun _ _ h => h.elim) ?_
  rintro _ w2 ⟨r2, rfl, LT2, th2, hr2⟩
  refine j_istore (lo' := [(6, _), (5, _), (0, _), (1, _), (2, _), (3, _), (4, _)]) dL_law_2134 (by decide) rfl ?_
  refine j_goto (tgt := 2258) dL_law_2136 (by decide) ?_
  refine j_widen (kc' := kc + 200) (ks' := ks + 6000) (by omega) (by omega) ?_
  exact j_lo2 (KK _ _ _ LT2) (z_q1 rfl (z_q1 rfl (z_q1 rfl (z_q1 rfl (z_q1 rfl z_q0)))))
set_option maxRecDepth 100000 in
set_option maxHeartbeats 4000000 in
theorem lc_42 (hl : l.stackTraces = false) {w : z_W} {x i kc ks : Nat} {S : sp_S} {n : Int64} (LT : z_LX x S S n w) (hi6 : i + 6 ≤ z_sn G) (hsn : z_sn G ≤ 3072) (hkc : kc + 200 ≤ 793551) (hks : ks + 6000 ≤ 6715452) (KK : ∀ (S9 : sp_S) (n9 : Int64) (w9 : z_W), z_LX x S9 S9 n9 w9 → z_J G l mL_law z_SL 2258 (z_lol x i) [] w9 (kc + 200) (ks + 6000)) : z_J G l mL_law z_SL 2139 (z_lol x i) [] w kc ks := by
  show z_J G l mL_law _ 2139 [(0, _), (1, _), (2, _), (3, _), (4, _)] [] _ _ _
  refine j_aload_n dL_law_2139 rfl rfl ?_
  refine j_aload_n dL_law_2140 rfl rfl ?_
  refine j_iload dL_law_2141 rfl ?_
  refine j_iconst (v := 1) dL_law_2143 (by decide) ?_
  refine j_iadd dL_law_2144 ?_
  refine j_top (congrArg Value.int (show nI i + (1 : Int32) = nI (i + 1) from nI_add i 1)) ?_
  refine j_sld dL_law_2145 (by omega) (by omega) ?_
  refine j_aload_n dL_law_2146 rfl rfl ?_
  refine j_iload dL_law_2147 rfl ?_
  refine j_iconst (v := 2) dL_law_2149 (by decide) ?_
  refine j_iadd dL_law_2150 ?_
  refine j_top (congrArg Value.int (show nI i + (2 : Int32) = nI (i + 2) from nI_add i 2)) ?_
  refine j_sld dL_law_2151 (by omega) (by omega) ?_
  refine j_aload_n dL_law_2152 rfl rfl ?_
  refine j_iload dL_law_2153 rfl ?_
  refine j_iconst (v := 3) dL_law_2155 (by decide) ?_
  refine j_iadd dL_law_2156 ?_
  refine j_top (congrArg Value.int (show nI i + (3 : Int32) = nI (i + 3) from nI_add i 3)) ?_
  refine j_sld dL_law_2157 (by omega) (by omega) ?_
  refine j_aload_n dL_law_2158 rfl rfl ?_
  refine j_callSW dL_law_2159 kL_tested lL_315 stL_tested (lw_tested hl w _ _ _ _ LT (z_sc G (i + 1)) (z_sc G (i + 2)) (z_sc G (i + 3))) (Nat.le_of_ble_eq_true rfl) ⟨(by show _ ≤ 793551; omega), (by show _ ≤ 6715452; omega)⟩ rfl (Nat.le_of_ble_eq_true rfl) rfl rfl (fun _ _ h => h.elim) ?_
  rintro _ w1 ⟨n1, rfl, LT1, hn1⟩
  refine j_istore (lo' := [(5, _), (0, _), (1, _), (2, _), (3, _), (4, _)]) dL_law_2162 (by decide) rfl ?_
  refine j_aload_n dL_law_2164 rfl rfl ?_
  refine j_aload_n dL_law_2165 rfl rfl ?_
  refine j_iload dL_law_2166 rfl ?_
  refine j_iconst (v := 1) dL_law_2168 (by decide) ?_
  refine j_iadd dL_law_2169 ?_
  refine j_top (congrArg Value.int (show nI i + (1 : Int32) = nI (i + 1) from nI_add i 1)) ?_
  refine j_sld dL_law_2170 (by omega) (by omega) ?_
  refine j_aload_n dL_law_2171 rfl rfl ?_
  refine j_iload dL_law_2172 rfl ?_
  refine j_iconst (v := 2) dL_law_2174 (by decide) ?_
  refine j_iadd dL_law_2175 ?_
  refine j_top (congrArg Value.int (show nI i + (2 : Int32) = nI (i + 2) from nI_add i 2)) ?_
  refine j_sld dL_law_2176 (by omega) (by omega) ?_
  refine j_aload_n dL_law_2177 rfl rfl ?_
  refine j_iload dL_law_2178 rfl ?_
  refine j_iconst (v := 3) dL_law_2180 (by decide) ?_
  refine j_iadd dL_law_2181 ?_
  refine j_top (congrArg Value.int (show nI i + (3 : Int32) = nI (i + 3) from nI_add i 3)) ?_
  refine j_sld dL_law_2182 (by omega) (by omega) ?_
  obtain ⟨-, ⟨s47, hs47, -⟩, -⟩ := id LT1
  refine j_callV (q := (RX11, TX11, 8)) dL_law_2183 kX11_tested lL_317 inX11_tested seX11_tested hs47.m rfl (kx_tested hl w1 LT1 (z_sc G (i + 1)) (z_sc G (i + 2)) (z_sc G (i + 3))) (Nat.le_of_ble_eq_true rfl) ⟨(by show _ ≤ 793551; omega), (by show _ ≤ 6715452; omega)⟩ rfl (Nat.le_of_ble_eq_true rfl) rfl rfl (fun _ _ h => h.elim) ?_
  rintro _ w2 ⟨r2, rfl, LT2, th2, hr2⟩
  refine j_istore (lo' := [(6, _), (5, _), (0, _), (1, _), (2, _), (3, _), (4, _)]) dL_law_2186 (by decide) rfl ?_
  refine j_goto (tgt := 2258) dL_law_2188 (by decide) ?_
  refine j_widen (kc' := kc + 200) (ks' := ks + 6000) (by omega) (by omega) ?_
  exact j_lo2 (KK _ _ _ LT2) (z_q1 rfl (z_q1 rfl (z_q1 rfl (z_q1 rfl (z_q1 rfl z_q0)))))
set_option maxRecDepth 100000 in
set_option maxHeartbeats 4000000 in
theorem lc_43 (hl : l.stackTraces = false) {w : z_W} {x i kc ks : Nat} {S : sp_S} {n : Int64} (LT : z_LX x S S n w) (hi6 : i + 6 ≤ z_sn G) (hsn : z_sn G ≤ 3072) (hkc : kc + 200 ≤ 793551) (hks : ks + 6000 ≤ 6715452) (KK : ∀ (S9 : sp_S) (n9 : Int64) (w9 : z_W), z_LX x S9 S9 n9 w9 → z_J G l mL_law z_SL 2258 (z_lol x i) [] w9 (kc + 200) (ks + 6000)) : z_J G l mL_law z_SL 2191 (z_lol x i) [] w kc ks := by
  show z_J G l mL_law _ 2191 [(0, _), (1, _), (2, _), (3, _), (4, _)] [] _ _ _
  refine j_aload_n dL_law_2191 rfl rfl ?_
  obtain ⟨fs48, gs48⟩ := LT.rc
  refine j_callV (q := (RX8, TX8, 9)) dL_law_2192 kX8_knock lL_318 inX8_knock seX8_knock gs48 rfl (px_knock hl w _ LT.1.1 LT.1.2) (Nat.le_of_ble_eq_true rfl) ⟨(by show _ ≤ 793551; omega), (by show _ ≤ 6715452; omega)⟩ rfl (Nat.le_of_ble_eq_true rfl) rfl rfl (fun _ _ h => h.elim) ?_
  rintro _ w1 ⟨rfl, hW1, hh1⟩
  have LT1 := LT.cls hW1 (okk_knock LT.1.2) hh1
  refine j_pop dL_law_2195 rfl ?_
  refine j_aload_n dL_law_2196 rfl rfl ?_
  obtain ⟨-, ⟨s49, hs49, -⟩, -⟩ := id LT1
  refine j_callV (q := (RX11, TX11, 8)) dL_law_2197 kX11_knock lL_321 inX11_knock seX11_knock hs49.m rfl (kx_knock hl w1 LT1) (Nat.le_of_ble_eq_true rfl) ⟨(by show _ ≤ 793551; omega), (by show _ ≤ 6715452; omega)⟩ rfl (Nat.le_of_ble_eq_true rfl) rfl rfl (fun _ _ h => h.elim) ?_
  rintro _ w2 ⟨r2, rfl, LT2, th2, hr2⟩
  refine j_pop dL_law_2200 rfl ?_
  refine j_goto (tgt := 2258) dL_law_2201 (by decide) ?_
  refine j_widen (kc' := kc + 200) (ks' := ks + 6000) (by omega) (by omega) ?_
  exact j_lo2 (KK _ _ _ LT2) (z_q1 rfl (z_q1 rfl (z_q1 rfl (z_q1 rfl (z_q1 rfl z_q0)))))
set_option maxRecDepth 100000 in
set_option maxHeartbeats 4000000 in
theorem lc_44 (hl : l.stackTraces = false) {w : z_W} {x i kc ks : Nat} {S : sp_S} {n : Int64} (LT : z_LX x S S n w) (hi6 : i + 6 ≤ z_sn G) (hsn : z_sn G ≤ 3072) (hkc : kc + 200 ≤ 793551) (hks : ks + 6000 ≤ 6715452) (KK : ∀ (S9 : sp_S) (n9 : Int64) (w9 : z_W), z_LX x S9 S9 n9 w9 → z_J G l mL_law z_SL 2258 (z_lol x i) [] w9 (kc + 200) (ks + 6000)) : z_J G l mL_law z_SL 2204 (z_lol x i) [] w kc ks := by
  show z_J G l mL_law _ 2204 [(0, _), (1, _), (2, _), (3, _), (4, _)] [] _ _ _
  refine j_aload_n dL_law_2204 rfl rfl ?_
  refine j_aload_n dL_law_2205 rfl rfl ?_
  refine j_iload dL_law_2206 rfl ?_
  refine j_iconst (v := 1) dL_law_2208 (by decide) ?_
  refine j_iadd dL_law_2209 ?_
  refine j_top (congrArg Value.int (show nI i + (1 : Int32) = nI (i + 1) from nI_add i 1)) ?_
  refine j_sld dL_law_2210 (by omega) (by omega) ?_
  refine j_aload_n dL_law_2211 rfl rfl ?_
  refine j_callSW dL_law_2212 kL_house lL_322 stL_house (lw_house hl w _ _ _ _ LT (z_sc G (i + 1))) (Nat.le_of_ble_eq_true rfl) ⟨(by show _ ≤ 793551; omega), (by show _ ≤ 6715452; omega)⟩ rfl (Nat.le_of_ble_eq_true rfl) rfl rfl (fun _ _ h => h.elim) ?_
  rintro _ w1 ⟨n1, rfl, LT1, hn1⟩
  refine j_istore (lo' := [(5, _), (0, _), (1, _), (2, _), (3, _), (4, _)]) dL_law_2215 (by decide) rfl ?_
  refine j_aload_n dL_law_2217 rfl rfl ?_
  refine j_aload_n dL_law_2218 rfl rfl ?_
  refine j_iload dL_law_2219 rfl ?_
  refine j_iconst (v := 1) dL_law_2221 (by decide) ?_
  refine j_iadd dL_law_2222 ?_
  refine j_top (congrArg Value.int (show nI i + (1 : Int32) = nI (i + 1) from nI_add i 1)) ?_
  refine j_sld dL_law_2223 (by omega) (by omega) ?_
  obtain ⟨-, ⟨s50, hs50, -⟩, -⟩ := id LT1
  refine j_callV (q := (RX11, TX11, 8)) dL_law_2224 kX11_house lL_324 inX11_house seX11_house hs50.m rfl (kx_house hl w1 LT1 (z_sc G (i + 1))) (Nat.le_of_ble_eq_true rfl) ⟨(by show _ ≤ 793551; omega), (by show _ ≤ 6715452; omega)⟩ rfl (Nat.le_of_ble_eq_true rfl) rfl rfl (fun _ _ h => h.elim) ?_
  rintro _ w2 ⟨r2, rfl, LT2, th2, hr2⟩
  refine j_istore (lo' := [(6, _), (5, _), (0, _), (1, _), (2, _), (3, _), (4, _)]) dL_law_2227 (by decide) rfl ?_
  refine j_goto (tgt := 2258) dL_law_2229 (by decide) ?_
  refine j_widen (kc' := kc + 200) (ks' := ks + 6000) (by omega) (by omega) ?_
  exact j_lo2 (KK _ _ _ LT2) (z_q1 rfl (z_q1 rfl (z_q1 rfl (z_q1 rfl (z_q1 rfl z_q0)))))
set_option maxRecDepth 100000 in
set_option maxHeartbeats 4000000 in
theorem lc_45 (hl : l.stackTraces = false) {w : z_W} {x i kc ks : Nat} {S : sp_S} {n : Int64} (LT : z_LX x S S n w) (hi6 : i + 6 ≤ z_sn G) (hsn : z_sn G ≤ 3072) (hkc : kc + 200 ≤ 793551) (hks : ks + 6000 ≤ 6715452) (KK : ∀ (S9 : sp_S) (n9 : Int64) (w9 : z_W), z_LX x S9 S9 n9 w9 → z_J G l mL_law z_SL 2258 (z_lol x i) [] w9 (kc + 200) (ks + 6000)) : z_J G l mL_law z_SL 2232 (z_lol x i) [] w kc ks := by
  show z_J G l mL_law _ 2232 [(0, _), (1, _), (2, _), (3, _), (4, _)] [] _ _ _
  refine j_aload_n dL_law_2232 rfl rfl ?_
  obtain ⟨fs51, gs51⟩ := LT.rc
  refine j_callV (q := (RX8, TX8, 9)) dL_law_2233 kX8_isSound lL_325 inX8_isSound seX8_isSound gs51 rfl (px_isSound hl w _ LT.1.1) (Nat.le_of_ble_eq_true rfl) ⟨(by show _ ≤ 793551; omega), (by show _ ≤ 6715452; omega)⟩ rfl (Nat.le_of_ble_eq_true rfl) rfl rfl (fun _ _ h => h.elim) ?_
  rintro _ w1 ⟨rfl, hW1, hh1⟩
  have LT1 := LT.cls hW1 LT.1.2 hh1
  refine j_pop dL_law_2236 rfl ?_
  refine j_aload_n dL_law_2237 rfl rfl ?_
  obtain ⟨-, ⟨s52, hs52, -⟩, -⟩ := id LT1
  refine j_callV (q := (RX11, TX11, 8)) dL_law_2238 kX11_isSound lL_329 inX11_isSound seX11_isSound hs52.m rfl (kx_isSound hl w1 LT1) (Nat.le_of_ble_eq_true rfl) ⟨(by show _ ≤ 793551; omega), (by show _ ≤ 6715452; omega)⟩ rfl (Nat.le_of_ble_eq_true rfl) rfl rfl (fun _ _ h => h.elim) ?_
  rintro _ w2 ⟨r2, rfl, LT2, th2, hr2⟩
  refine j_pop dL_law_2241 rfl ?_
  refine j_goto (tgt := 2258) dL_law_2242 (by decide) ?_
  refine j_widen (kc' := kc + 200) (ks' := ks + 6000) (by omega) (by omega) ?_
  exact j_lo2 (KK _ _ _ LT2) (z_q1 rfl (z_q1 rfl (z_q1 rfl (z_q1 rfl (z_q1 rfl z_q0)))))
set_option maxRecDepth 100000 in
set_option maxHeartbeats 4000000 in
theorem lc_46 (hl : l.stackTraces = false) {w : z_W} {x i kc ks : Nat} {S : sp_S} {n : Int64} (LT : z_LX x S S n w) (hi6 : i + 6 ≤ z_sn G) (hsn : z_sn G ≤ 3072) (hkc : kc + 200 ≤ 793551) (hks : ks + 6000 ≤ 6715452) (KK : ∀ (S9 : sp_S) (n9 : Int64) (w9 : z_W), z_LX x S9 S9 n9 w9 → z_J G l mL_law z_SL 2258 (z_lol x i) [] w9 (kc + 200) (ks + 6000)) : z_J G l mL_law z_SL 2245 (z_lol x i) [] w kc ks := by
  show z_J G l mL_law _ 2245 [(0, _), (1, _), (2, _), (3, _), (4, _)] [] _ _ _
  refine j_aload_n dL_law_2245 rfl rfl ?_
  obtain ⟨fs53, gs53⟩ := LT.rc
  obtain ⟨kn, xa, xb, b0, b1, hWk⟩ := LT.1.1.Wk
  refine j_callV (q := (RX8, TX8, 9)) dL_law_2246 kX8_digest lL_330 inX8_digest seX8_digest gs53 rfl (pt_digest hl w _ LT.1.1 kn xa xb b0 b1 hWk LT.fn) (Nat.le_of_ble_eq_true rfl) ⟨(by show _ ≤ 793551; omega), (by show _ ≤ 6715452; omega)⟩ rfl (Nat.le_of_ble_eq_true rfl) rfl rfl (fun _ _ h => h.elim) ?_
  rintro _ w1 ⟨⟨x1, rfl⟩, hW1, hh1⟩
  have LT1 := LT.cls hW1 LT.1.2 hh1
  refine j_pop2 dL_law_2249 rfl ?_
  refine j_aload_n dL_law_2250 rfl rfl ?_
  obtain ⟨-, ⟨s54, hs54, -⟩, -⟩ := id LT1
  refine j_callV (q := (RX11, TX11, 8)) dL_law_2251 kX11_digest lL_334 inX11_digest seX11_digest hs54.m rfl (kx_digest hl w1 LT1) (Nat.le_of_ble_eq_true rfl) ⟨(by show _ ≤ 793551; omega), (by show _ ≤ 6715452; omega)⟩ rfl (Nat.le_of_ble_eq_true rfl) rfl rfl (fun _ _ h => h.elim) ?_
  rintro _ w2 ⟨r2, rfl, LT2⟩
  refine j_pop2 dL_law_2254 rfl ?_
  refine j_goto (tgt := 2258) dL_law_2255 (by decide) ?_
  refine j_widen (kc' := kc + 200) (ks' := ks + 6000) (by omega) (by omega) ?_
  exact j_lo2 (KK _ _ _ LT2) (z_q1 rfl (z_q1 rfl (z_q1 rfl (z_q1 rfl (z_q1 rfl z_q0)))))
end ZLaw
end ZM1
section ZM2
section ZLawB
variable {G : z_G} {l : Launch}
set_option maxRecDepth 100000 in
theorem c_X9_init (hl : l.stackTraces = false) (w : z_W) (x : Nat) : z_Con G l mX9_init 10 0 0 w [.ref x] (fun v w9 => v = none ∧ w9 = w) (fun _ _ => False) := by
  refine z_body hl (by decide) rfl (Nat.le_of_ble_eq_true rfl) ?_
  show z_J G l mX9_init _ 0 [(0, _)] [] _ 0 0
  refine j_aload_n dX9_init_0 rfl rfl ?_
  refine j_objI dX9_init_1 oX9_1 z_oi1 z_oi2 (Nat.le_of_ble_eq_true rfl) (Nat.le_of_ble_eq_true rfl) ?_
  refine j_vret dX9_init_4 rfl ?_ (Nat.le_of_ble_eq_true rfl) (Nat.le_of_ble_eq_true rfl)
  exact ⟨rfl, rfl⟩
theorem z_gt6 {a b : Nat} (ha : a < 2 ^ 30) (hb : b < 2 ^ 30) (h : ¬ nI b - 6 < nI a) : a + 6 ≤ b := by
  have h2 : ¬ (nI b - nI 6).toInt < (nI a).toInt := fun z => h (Int32.lt_iff_toInt_lt.mpr z)
  rw [pk_sub_toInt hb (by decide), nI_toInt (by omega)] at h2
  omega
set_option maxRecDepth 100000 in
set_option maxHeartbeats 8000000 in
theorem law_turn (hl : l.stackTraces = false) {w : z_W} {x i kc ks : Nat} {S : sp_S} {n : Int64} (LT : z_LX x S S n w) (hi6 : i + 6 ≤ z_sn G) (hsn : z_sn G ≤ 3072) (hkc : kc + 200 ≤ 793551) (hks : ks + 6000 ≤ 6715452) (KK : ∀ (S9 : sp_S) (n9 : Int64) (w9 : z_W), z_LX x S9 S9 n9 w9 → z_J G l mL_law z_SL 2258 (z_lol x i) [] w9 (kc + 200) (ks + 6000)) : z_J G l mL_law z_SL 37 (z_lol x i) [] w kc ks := by
  show z_J G l mL_law _ 37 [(0, _), (1, _), (2, _), (3, _), (4, _)] [] _ _ _
  refine j_aload_n dL_law_37 rfl rfl ?_
  refine j_iload dL_law_38 rfl ?_
  refine j_sld dL_law_40 (by omega) (by omega) ?_
  refine j_bipush (v := 63) dL_law_41 (by decide) ?_
  refine j_iand dL_law_43 ?_
  refine z_genV ?_
  intro xv
  rcases z_sw47 xv with rfl | rfl | rfl | rfl | rfl | rfl | rfl | rfl | rfl | rfl | rfl | rfl | rfl | rfl | rfl | rfl | rfl | rfl | rfl | rfl | rfl | rfl | rfl | rfl | rfl | rfl | rfl | rfl | rfl | rfl | rfl | rfl | rfl | rfl | rfl | rfl | rfl | rfl | rfl | rfl | rfl | rfl | rfl | rfl | rfl | rfl | rfl | hp
  · exact j_tsIn (tgt := 248) dL_law_44 (by decide) (by decide) rfl (by decide) (lc_0 hl LT hi6 hsn hkc hks KK)
  · exact j_tsIn (tgt := 288) dL_law_44 (by decide) (by decide) rfl (by decide) (lc_1 hl LT hi6 hsn hkc hks KK)
  · exact j_tsIn (tgt := 328) dL_law_44 (by decide) (by decide) rfl (by decide) (lc_2 hl LT hi6 hsn hkc hks KK)
  · exact j_tsIn (tgt := 384) dL_law_44 (by decide) (by decide) rfl (by decide) (lc_3 hl LT hi6 hsn hkc hks KK)
  · exact j_tsIn (tgt := 424) dL_law_44 (by decide) (by decide) rfl (by decide) (lc_4 hl LT hi6 hsn hkc hks KK)
  · exact j_tsIn (tgt := 476) dL_law_44 (by decide) (by decide) rfl (by decide) (lc_5 hl LT hi6 hsn hkc hks KK)
  · exact j_tsIn (tgt := 528) dL_law_44 (by decide) (by decide) rfl (by decide) (lc_6 hl LT hi6 hsn hkc hks KK)
  · exact j_tsIn (tgt := 580) dL_law_44 (by decide) (by decide) rfl (by decide) (lc_7 hl LT hi6 hsn hkc hks KK)
  · exact j_tsIn (tgt := 608) dL_law_44 (by decide) (by decide) rfl (by decide) (lc_8 hl LT hi6 hsn hkc hks KK)
  · exact j_tsIn (tgt := 660) dL_law_44 (by decide) (by decide) rfl (by decide) (lc_9 hl LT hi6 hsn hkc hks KK)
  · exact j_tsIn (tgt := 700) dL_law_44 (by decide) (by decide) rfl (by decide) (lc_10 hl LT hi6 hsn hkc hks KK)
  · exact j_tsIn (tgt := 752) dL_law_44 (by decide) (by decide) rfl (by decide) (lc_11 hl LT hi6 hsn hkc hks KK)
  · exact j_tsIn (tgt := 804) dL_law_44 (by decide) (by decide) rfl (by decide) (lc_12 hl LT hi6 hsn hkc hks KK)
  · exact j_tsIn (tgt := 868) dL_law_44 (by decide) (by decide) rfl (by decide) (lc_13 hl LT hi6 hsn hkc hks KK)
  · exact j_tsIn (tgt := 920) dL_law_44 (by decide) (by decide) rfl (by decide) (lc_14 hl LT hi6 hsn hkc hks KK)
  · exact j_tsIn (tgt := 984) dL_law_44 (by decide) (by decide) rfl (by decide) (lc_15 hl LT hi6 hsn hkc hks KK)
  · exact j_tsIn (tgt := 1048) dL_law_44 (by decide) (by decide) rfl (by decide) (lc_16 hl LT hi6 hsn hkc hks KK)
  · exact j_tsIn (tgt := 1112) dL_law_44 (by decide) (by decide) rfl (by decide) (lc_17 hl LT hi6 hsn hkc hks KK)
  · exact j_tsIn (tgt := 1176) dL_law_44 (by decide) (by decide) rfl (by decide) (lc_18 hl LT hi6 hsn hkc hks KK)
  · exact j_tsIn (tgt := 1216) dL_law_44 (by decide) (by decide) rfl (by decide) (lc_19 hl LT hi6 hsn hkc hks KK)
  · exact j_tsIn (tgt := 1268) dL_law_44 (by decide) (by decide) rfl (by decide) (lc_20 hl LT hi6 hsn hkc hks KK)
  · exact j_tsIn (tgt := 1296) dL_law_44 (by decide) (by decide) rfl (by decide) (lc_21 hl LT hi6 hsn hkc hks KK)
  · exact j_tsIn (tgt := 1360) dL_law_44 (by decide) (by decide) rfl (by decide) (lc_22 hl LT hi6 hsn hkc hks KK)
  · exact j_tsIn (tgt := 1436) dL_law_44 (by decide) (by decide) rfl (by decide) (lc_23 hl LT hi6 hsn hkc hks KK)
  · exact j_tsIn (tgt := 1476) dL_law_44 (by decide) (by decide) rfl (by decide) (lc_24 hl LT hi6 hsn hkc hks KK)
  · exact j_tsIn (tgt := 1516) dL_law_44 (by decide) (by decide) rfl (by decide) (lc_25 hl LT hi6 hsn hkc hks KK)
  · exact j_tsIn (tgt := 1544) dL_law_44 (by decide) (by decide) rfl (by decide) (lc_26 hl LT hi6 hsn hkc hks KK)
  · exact j_tsIn (tgt := 1584) dL_law_44 (by decide) (by decide) rfl (by decide) (lc_27 hl LT hi6 hsn hkc hks KK)
  · exact j_tsIn (tgt := 1612) dL_law_44 (by decide) (by decide) rfl (by decide) (lc_28 hl LT hi6 hsn hkc hks KK)
  · exact j_tsIn (tgt := 1640) dL_law_44 (by decide) (by decide) rfl (by decide) (lc_29 hl LT hi6 hsn hkc hks KK)
  · exact j_tsIn (tgt := 1680) dL_law_44 (by decide) (by decide) rfl (by decide) (lc_30 hl LT hi6 hsn hkc hks KK)
  · exact j_tsIn (tgt := 1708) dL_law_44 (by decide) (by decide) rfl (by decide) (lc_31 hl LT hi6 hsn hkc hks KK)
  · exact j_tsIn (tgt := 1736) dL_law_44 (by decide) (by decide) rfl (by decide) (lc_32 hl LT hi6 hsn hkc hks KK)
  · exact j_tsIn (tgt := 1776) dL_law_44 (by decide) (by decide) rfl (by decide) (lc_33 hl LT hi6 hsn hkc hks KK)
  · exact j_tsIn (tgt := 1804) dL_law_44 (by decide) (by decide) rfl (by decide) (lc_34 hl LT hi6 hsn hkc hks KK)
  · exact j_tsIn (tgt := 1817) dL_law_44 (by decide) (by decide) rfl (by decide) (lc_35 hl LT hi6 hsn hkc hks KK)
  · exact j_tsIn (tgt := 1857) dL_law_44 (by decide) (by decide) rfl (by decide) (lc_36 hl LT hi6 hsn hkc hks KK)
  · exact j_tsIn (tgt := 1909) dL_law_44 (by decide) (by decide) rfl (by decide) (lc_37 hl LT hi6 hsn hkc hks KK)
  · exact j_tsIn (tgt := 1949) dL_law_44 (by decide) (by decide) rfl (by decide) (lc_38 hl LT hi6 hsn hkc hks KK)
  · exact j_tsIn (tgt := 1977) dL_law_44 (by decide) (by decide) rfl (by decide) (lc_39 hl LT hi6 hsn hkc hks KK)
  · exact j_tsIn (tgt := 2035) dL_law_44 (by decide) (by decide) rfl (by decide) (lc_40 hl LT hi6 hsn hkc hks KK)
  · exact j_tsIn (tgt := 2075) dL_law_44 (by decide) (by decide) rfl (by decide) (lc_41 hl LT hi6 hsn hkc hks KK)
  · exact j_tsIn (tgt := 2139) dL_law_44 (by decide) (by decide) rfl (by decide) (lc_42 hl LT hi6 hsn hkc hks KK)
  · exact j_tsIn (tgt := 2191) dL_law_44 (by decide) (by decide) rfl (by decide) (lc_43 hl LT hi6 hsn hkc hks KK)
  · exact j_tsIn (tgt := 2204) dL_law_44 (by decide) (by decide) rfl (by decide) (lc_44 hl LT hi6 hsn hkc hks KK)
  · exact j_tsIn (tgt := 2232) dL_law_44 (by decide) (by decide) rfl (by decide) (lc_45 hl LT hi6 hsn hkc hks KK)
  · exact j_tsIn (tgt := 2245) dL_law_44 (by decide) (by decide) rfl (by decide) (lc_46 hl LT hi6 hsn hkc hks KK)
  · exact j_tsOut (tgt := 2258) dL_law_44 hp (by decide) (j_widen (kc' := kc + 200) (ks' := ks + 6000) (by omega) (by omega) (KK _ _ _ LT))
set_option maxRecDepth 100000 in
set_option maxHeartbeats 8000000 in
theorem law_loop (hl : l.stackTraces = false) (hsn : z_sn G ≤ 3072) {x : Nat} : ∀ (n j : Nat) (S : sp_S) (a : Int64) (w : z_W), 6 * j ≤ z_sn G → 513 ≤ j + n → z_LX x S S a w → z_J G l mL_law z_SL 27 (z_lol x (6 * j)) [] w (100 + 200 * j) (800 + 6000 * j) := by
  intro n
  induction n with
  | zero => intro j S a w h1 h2; exact absurd h2 (by omega)
  | succ n ih =>
    intro j S a w h1 h2 LT
    show z_J G l mL_law _ 27 [(0, _), (1, _), (2, _), (3, _), (4, _)] [] _ _ _
    refine j_iload dL_law_27 rfl ?_
    refine j_aload_n dL_law_29 rfl rfl ?_
    refine j_slen dL_law_30 ?_
    refine j_bipush (v := 6) dL_law_31 (by decide) ?_
    refine j_isub dL_law_33 ?_
    refine j_icmp_gt (tgt := 2264) dL_law_34 (by decide) (fun c => ?_) (fun c => ?_)
    · refine j_iconst (v := 1) dL_law_2264 (by decide) ?_
      refine j_iret dL_law_2265 rfl rfl ?_ (by show _ ≤ 793551; omega) (by show _ ≤ 6715452; omega)
      exact rfl
    · have h6 := z_gt6 (a := 6 * j) (b := z_sn G) (by omega) (by omega) c
      refine law_turn hl LT h6 hsn (by omega) (by omega) (fun S9 n9 w9 LT9 => ?_)
      show z_J G l mL_law _ 2258 [(0, _), (1, _), (2, _), (3, _), (4, _)] [] _ _ _
      refine j_iinc (lo' := [(4, _), (0, _), (1, _), (2, _), (3, _)]) dL_law_2258 rfl (show nI (6 * j) + Int32.ofInt 6 = nI (6 * (j + 1)) from nI_add (6 * j) 6) (by decide) rfl ?_
      refine j_goto (tgt := 27) dL_law_2261 (by decide) ?_
      refine j_widen (kc' := 100 + 200 * (j + 1)) (ks' := 800 + 6000 * (j + 1)) (by omega) (by omega) ?_
      exact j_lo2 (ih (j + 1) S9 n9 w9 (by omega) (by omega) LT9) (z_q1 rfl (z_q1 rfl (z_q1 rfl (z_q1 rfl (z_q1 rfl z_q0)))))
set_option maxRecDepth 100000 in
set_option maxHeartbeats 8000000 in
theorem law_J (hl : l.stackTraces = false) (hsn : z_sn G ≤ 3072) : z_J G l mL_law z_SL 0 [(0, .retAddr 8)] [] ([], z_no) 0 0 := by
  show z_J G l mL_law _ 0 [(0, _)] [] _ 0 0
  refine j_new (N := 9) (w' := ([.inr (12, [.null, .null, .null, .null, .null, .null, .null, .int 0, .int 0])], z_no)) (n := 0) dL_law_0 nL_8 rfl (z_al_l rfl rfl) (Nat.le_of_ble_eq_true rfl) (Nat.le_of_ble_eq_true rfl) ?_
  refine j_dup dL_law_3 rfl ?_
  refine j_callI dL_law_4 kX8_init rfl lL_165 inX8_init rfl (z_dirN (c_X8_init_z hl)) (Nat.le_of_ble_eq_true rfl) ⟨(Nat.le_of_ble_eq_true rfl), (Nat.le_of_ble_eq_true rfl)⟩ rfl (Nat.le_of_ble_eq_true rfl) rfl rfl (fun _ _ h => h.elim) ?_
  rintro _ _ ⟨L1, ⟨rfl, hWk⟩, rfl⟩
  have hlen := (sp_CWc hWk).1
  have hno : ∀ k, 1000 ≤ k → z_g (L1, z_no) k = none := fun k hk => by
    have hb : Nat.blt k 1000 = false := z_bltF hk
    simp only [z_g, hb, cond]
    rfl
  have hfn0 : z_fn (L1, z_no) := ⟨by show L1.length ≤ 1000; omega, 0, fun _ _ => rfl⟩
  refine j_astore_n (lo' := [(1, _), (0, _)]) dL_law_7 rfl (by decide) rfl ?_
  refine j_new (N := 8) (w' := _) (n := 1000) dL_law_8 nL_166 rfl (z_alW (hno 1000 (Nat.le_refl _)) (by decide)) (Nat.le_of_ble_eq_true rfl) (Nat.le_of_ble_eq_true rfl) ?_
  refine j_seal (n := 1000) (by decide) ?_
  intro w1 u1
  have hfn1 := u1.2.2.2 hfn0
  refine j_dup dL_law_11 rfl ?_
  refine j_callI dL_law_12 kX11_init rfl lL_168 inX11_init rfl (cx_init hl w1 hfn1 (fun k hk => (u1.2.1 k (by omega)).trans (hno k (by omega))) u1.1) (Nat.le_of_ble_eq_true rfl) ⟨(Nat.le_of_ble_eq_true rfl), (Nat.le_of_ble_eq_true rfl)⟩ rfl (Nat.le_of_ble_eq_true rfl) rfl rfl (fun _ _ h => h.elim) ?_
  rintro _ w2 ⟨rfl, hb2, s2, h2, hk2⟩
  refine j_astore_n (lo' := [(2, _), (1, _), (0, _)]) dL_law_15 rfl (by decide) rfl ?_
  obtain ⟨x, hx1, hx2, hx3⟩ := z_fresh 60 (by decide) h2.fn
  refine j_new (N := 2) (w' := _) (n := x) dL_law_16 nL_14 rfl (z_alW hx3 hx1) (Nat.le_of_ble_eq_true rfl) (Nat.le_of_ble_eq_true rfl) ?_
  refine j_seal (n := x) hx1 ?_
  intro w3 u3
  have h3 := h2.gar (u3.fw hx1 hx2) (by omega)
  refine j_dup dL_law_19 rfl ?_
  refine j_callIN dL_law_20 kX9_init rfl lL_169 inX9_init rfl (c_X9_init hl w3 x) (Nat.le_of_ble_eq_true rfl) ⟨(Nat.le_of_ble_eq_true rfl), (Nat.le_of_ble_eq_true rfl)⟩ rfl (Nat.le_of_ble_eq_true rfl) rfl rfl (fun _ _ h => h.elim) ?_
  rintro _ _ ⟨rfl, hw9⟩
  refine j_w w3 hw9 ?_
  refine j_astore_n (lo' := [(3, _), (2, _), (1, _), (0, _)]) dL_law_23 rfl (by decide) rfl ?_
  refine j_iconst (v := 0) dL_law_24 (by decide) ?_
  refine j_istore (lo' := [(4, _), (3, _), (2, _), (1, _), (0, _)]) dL_law_25 (by decide) rfl ?_
  have LT : z_LX x sp_S0 sp_S0 0 w3 := ⟨⟨by rw [u3.2.2.1, hb2, u1.2.2.1]; exact hWk, ok_S0⟩, ⟨s2, h3, hk2, ok_S0⟩, ⟨_, u3.1⟩, hx1, hx2⟩
  refine j_widen (kc' := 100 + 200 * 0) (ks' := 800 + 6000 * 0) (Nat.le_of_ble_eq_true rfl) (Nat.le_of_ble_eq_true rfl) ?_
  exact j_lo2 (law_loop hl hsn 513 0 _ _ w3 (by omega) (by omega) LT) (z_q1 rfl (z_q1 rfl (z_q1 rfl (z_q1 rfl (z_q1 rfl z_q0)))))
end ZLawB
end ZM2
