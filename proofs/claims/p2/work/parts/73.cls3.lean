section ZL3
variable {G : z_G} {l : Launch}
set_option maxRecDepth 100000 in
set_option maxHeartbeats 8000000 in
theorem c_X8_isEven (hl : l.stackTraces = false) (w : z_W) (a : Int32) : z_Con G l mX8_isEven 10 0 0 w [.int a] (fun v w9 => (∃ b : Bool, v = some (.int (z_bi b))) ∧ w9 = w) (fun _ _ => False) := by
  refine z_body hl (by decide) rfl (Nat.le_of_ble_eq_true rfl) ?_
  show z_J G l mX8_isEven ((10, 0, 0, w, (fun v w9 => (∃ b : Bool, v = some (.int (z_bi b))) ∧ w9 = w), fun _ _ => False)) 0 [(0, _)] [] _ 0 0
  refine j_iload_n dX8_isEven_0 rfl ?_
  refine j_iconst (v := 1) dX8_isEven_1 (by decide) ?_
  refine j_iand dX8_isEven_2 ?_
  refine j_if_ne (tgt := 10) dX8_isEven_3 (by decide) (fun c_3 => ?_) (fun c_3 => ?_)
  · refine j_iconst (v := 0) dX8_isEven_10 (by decide) ?_
    refine j_iret dX8_isEven_11 rfl rfl ?_ (Nat.le_of_ble_eq_true rfl) (Nat.le_of_ble_eq_true rfl)
    first | exact ⟨⟨true, rfl⟩, rfl⟩ | exact ⟨⟨false, rfl⟩, rfl⟩
  · refine j_iconst (v := 1) dX8_isEven_6 (by decide) ?_
    refine j_goto (tgt := 11) dX8_isEven_7 (by decide) ?_
    refine j_iret dX8_isEven_11 rfl rfl ?_ (Nat.le_of_ble_eq_true rfl) (Nat.le_of_ble_eq_true rfl)
    first | exact ⟨⟨true, rfl⟩, rfl⟩ | exact ⟨⟨false, rfl⟩, rfl⟩
set_option maxRecDepth 100000 in
set_option maxHeartbeats 8000000 in
theorem c_X8_oneIf (hl : l.stackTraces = false) (w : z_W) (a : Int32) : z_Con G l mX8_oneIf 10 0 0 w [.int a] (fun v w9 => (∃ x : Int32, v = some (.int x)) ∧ w9 = w) (fun _ _ => False) := by
  refine z_body hl (by decide) rfl (Nat.le_of_ble_eq_true rfl) ?_
  show z_J G l mX8_oneIf ((10, 0, 0, w, (fun v w9 => (∃ x : Int32, v = some (.int x)) ∧ w9 = w), fun _ _ => False)) 0 [(0, _)] [] _ 0 0
  refine j_iload_n dX8_oneIf_0 rfl ?_
  refine j_if_eq (tgt := 8) dX8_oneIf_1 (by decide) (fun c_1 => ?_) (fun c_1 => ?_)
  · refine j_iconst (v := 0) dX8_oneIf_8 (by decide) ?_
    refine j_iret dX8_oneIf_9 rfl rfl ?_ (Nat.le_of_ble_eq_true rfl) (Nat.le_of_ble_eq_true rfl)
    exact ⟨⟨_, rfl⟩, rfl⟩
  · refine j_iconst (v := 1) dX8_oneIf_4 (by decide) ?_
    refine j_goto (tgt := 9) dX8_oneIf_5 (by decide) ?_
    refine j_iret dX8_oneIf_9 rfl rfl ?_ (Nat.le_of_ble_eq_true rfl) (Nat.le_of_ble_eq_true rfl)
    exact ⟨⟨_, rfl⟩, rfl⟩
set_option maxRecDepth 100000 in
set_option maxHeartbeats 8000000 in
theorem c_X8_bounded (hl : l.stackTraces = false) (w : z_W) (a : Int32) : z_Con G l mX8_bounded 10 0 0 w [.int a] (fun v w9 => (∃ x : Int32, v = some (.int x)) ∧ w9 = w) (fun _ _ => False) := by
  refine z_body hl (by decide) rfl (Nat.le_of_ble_eq_true rfl) ?_
  show z_J G l mX8_bounded ((10, 0, 0, w, (fun v w9 => (∃ x : Int32, v = some (.int x)) ∧ w9 = w), fun _ _ => False)) 0 [(0, _)] [] _ 0 0
  refine j_iload_n dX8_bounded_0 rfl ?_
  refine j_sipush (v := 999) dX8_bounded_1 (by decide) ?_
  refine j_icmp_le (tgt := 11) dX8_bounded_4 (by decide) (fun c_4 => ?_) (fun c_4 => ?_)
  · refine j_iload_n dX8_bounded_11 rfl ?_
    refine j_sipush (v := (-999)) dX8_bounded_12 (by decide) ?_
    refine j_icmp_ge (tgt := 24) dX8_bounded_15 (by decide) (fun c_15 => ?_) (fun c_15 => ?_)
    · refine j_iload_n dX8_bounded_24 rfl ?_
      refine j_iret dX8_bounded_25 rfl rfl ?_ (Nat.le_of_ble_eq_true rfl) (Nat.le_of_ble_eq_true rfl)
      exact ⟨⟨_, rfl⟩, rfl⟩
    · refine j_sipush (v := (-999)) dX8_bounded_18 (by decide) ?_
      refine j_goto (tgt := 25) dX8_bounded_21 (by decide) ?_
      refine j_iret dX8_bounded_25 rfl rfl ?_ (Nat.le_of_ble_eq_true rfl) (Nat.le_of_ble_eq_true rfl)
      exact ⟨⟨_, rfl⟩, rfl⟩
  · refine j_sipush (v := 999) dX8_bounded_7 (by decide) ?_
    refine j_iret dX8_bounded_10 rfl rfl ?_ (Nat.le_of_ble_eq_true rfl) (Nat.le_of_ble_eq_true rfl)
    exact ⟨⟨_, rfl⟩, rfl⟩
set_option maxRecDepth 100000 in
set_option maxHeartbeats 8000000 in
theorem c_X8_ruleTells (hl : l.stackTraces = false) (w : z_W) (a b c e : Int32) : z_Con G l mX8_ruleTells 11 0 0 w [.int a, .int b, .int c, .int e] (fun v w9 => (∃ x : Int32, v = some (.int x)) ∧ w9 = w) (fun _ _ => False) := by
  refine z_body hl (by decide) rfl (Nat.le_of_ble_eq_true rfl) ?_
  show z_J G l mX8_ruleTells ((11, 0, 0, w, (fun v w9 => (∃ x : Int32, v = some (.int x)) ∧ w9 = w), fun _ _ => False)) 0 [(0, _), (1, _), (2, _), (3, _)] [] _ 0 0
  refine j_iload_n dX8_ruleTells_0 rfl ?_
  refine j_sipush (v := (-1000)) dX8_ruleTells_1 (by decide) ?_
  refine j_icmp_ne (tgt := 11) dX8_ruleTells_4 (by decide) (fun c_4 => ?_) (fun c_4 => ?_)
  · refine j_iload_n dX8_ruleTells_11 rfl ?_
    refine j_istore (lo' := [(4, _), (0, _), (1, _), (2, _), (3, _)]) dX8_ruleTells_12 (by decide) rfl ?_
    refine j_iload dX8_ruleTells_14 rfl ?_
    refine j_iload_n dX8_ruleTells_16 rfl ?_
    refine j_iadd dX8_ruleTells_17 ?_
    refine j_callS dX8_ruleTells_18 kX8_bounded lX8_309 stX8_bounded (c_X8_bounded hl _ _) (Nat.le_of_ble_eq_true rfl) ⟨(Nat.le_of_ble_eq_true rfl), (Nat.le_of_ble_eq_true rfl)⟩ rfl (Nat.le_of_ble_eq_true rfl) rfl rfl (fun _ _ h => h.elim) ?_
    rintro _ _ ⟨⟨_, rfl⟩, rfl⟩
    refine j_istore (lo' := [(5, _), (4, _), (0, _), (1, _), (2, _), (3, _)]) dX8_ruleTells_21 (by decide) rfl ?_
    refine j_iload_n dX8_ruleTells_23 rfl ?_
    rcases z_sw5 a with rfl | rfl | rfl | rfl | rfl | hp
    · refine j_tsIn (tgt := 60) dX8_ruleTells_24 (by decide) (by decide) rfl (by decide) ?_
      refine j_iload dX8_ruleTells_60 rfl ?_
      refine j_iret dX8_ruleTells_62 rfl rfl ?_ (Nat.le_of_ble_eq_true rfl) (Nat.le_of_ble_eq_true rfl)
      exact ⟨⟨_, rfl⟩, rfl⟩
    · refine j_tsIn (tgt := 63) dX8_ruleTells_24 (by decide) (by decide) rfl (by decide) ?_
      refine j_iload dX8_ruleTells_63 rfl ?_
      refine j_iload_n dX8_ruleTells_65 rfl ?_
      refine j_icmp_le (tgt := 74) dX8_ruleTells_66 (by decide) (fun c_66 => ?_) (fun c_66 => ?_)
      · refine j_iload_n dX8_ruleTells_74 rfl ?_
        refine j_iret dX8_ruleTells_75 rfl rfl ?_ (Nat.le_of_ble_eq_true rfl) (Nat.le_of_ble_eq_true rfl)
        exact ⟨⟨_, rfl⟩, rfl⟩
      · refine j_iload dX8_ruleTells_69 rfl ?_
        refine j_goto (tgt := 75) dX8_ruleTells_71 (by decide) ?_
        refine j_iret dX8_ruleTells_75 rfl rfl ?_ (Nat.le_of_ble_eq_true rfl) (Nat.le_of_ble_eq_true rfl)
        exact ⟨⟨_, rfl⟩, rfl⟩
    · refine j_tsIn (tgt := 76) dX8_ruleTells_24 (by decide) (by decide) rfl (by decide) ?_
      refine j_iload dX8_ruleTells_76 rfl ?_
      refine j_callS dX8_ruleTells_78 kX8_isEven lX8_312 stX8_isEven (c_X8_isEven hl _ _) (Nat.le_of_ble_eq_true rfl) ⟨(Nat.le_of_ble_eq_true rfl), (Nat.le_of_ble_eq_true rfl)⟩ rfl (Nat.le_of_ble_eq_true rfl) rfl rfl (fun _ _ h => h.elim) ?_
      rintro _ _ ⟨⟨_, rfl⟩, rfl⟩
      refine j_if_eq (tgt := 89) dX8_ruleTells_81 (by decide) (fun c_81 => ?_) (fun c_81 => ?_)
      · refine j_sipush (v := (-1000)) dX8_ruleTells_89 (by decide) ?_
        refine j_iret dX8_ruleTells_92 rfl rfl ?_ (Nat.le_of_ble_eq_true rfl) (Nat.le_of_ble_eq_true rfl)
        exact ⟨⟨_, rfl⟩, rfl⟩
      · refine j_iload dX8_ruleTells_84 rfl ?_
        refine j_goto (tgt := 92) dX8_ruleTells_86 (by decide) ?_
        refine j_iret dX8_ruleTells_92 rfl rfl ?_ (Nat.le_of_ble_eq_true rfl) (Nat.le_of_ble_eq_true rfl)
        exact ⟨⟨_, rfl⟩, rfl⟩
    · refine j_tsIn (tgt := 93) dX8_ruleTells_24 (by decide) (by decide) rfl (by decide) ?_
      refine j_sipush (v := (-1000)) dX8_ruleTells_93 (by decide) ?_
      refine j_iret dX8_ruleTells_96 rfl rfl ?_ (Nat.le_of_ble_eq_true rfl) (Nat.le_of_ble_eq_true rfl)
      exact ⟨⟨_, rfl⟩, rfl⟩
    · refine j_tsIn (tgt := 97) dX8_ruleTells_24 (by decide) (by decide) rfl (by decide) ?_
      refine j_iload dX8_ruleTells_97 rfl ?_
      refine j_callS dX8_ruleTells_99 kX8_isEven lX8_312 stX8_isEven (c_X8_isEven hl _ _) (Nat.le_of_ble_eq_true rfl) ⟨(Nat.le_of_ble_eq_true rfl), (Nat.le_of_ble_eq_true rfl)⟩ rfl (Nat.le_of_ble_eq_true rfl) rfl rfl (fun _ _ h => h.elim) ?_
      rintro _ _ ⟨⟨_, rfl⟩, rfl⟩
      refine j_if_eq (tgt := 110) dX8_ruleTells_102 (by decide) (fun c_102 => ?_) (fun c_102 => ?_)
      · refine j_sipush (v := (-1001)) dX8_ruleTells_110 (by decide) ?_
        refine j_iret dX8_ruleTells_113 rfl rfl ?_ (Nat.le_of_ble_eq_true rfl) (Nat.le_of_ble_eq_true rfl)
        exact ⟨⟨_, rfl⟩, rfl⟩
      · refine j_iload dX8_ruleTells_105 rfl ?_
        refine j_goto (tgt := 113) dX8_ruleTells_107 (by decide) ?_
        refine j_iret dX8_ruleTells_113 rfl rfl ?_ (Nat.le_of_ble_eq_true rfl) (Nat.le_of_ble_eq_true rfl)
        exact ⟨⟨_, rfl⟩, rfl⟩
    · refine j_tsOut (tgt := 114) dX8_ruleTells_24 hp (by decide) ?_
      refine j_iload_n dX8_ruleTells_114 rfl ?_
      refine j_iload_n dX8_ruleTells_115 rfl ?_
      refine j_iadd dX8_ruleTells_116 ?_
      refine j_callS dX8_ruleTells_117 kX8_bounded lX8_309 stX8_bounded (c_X8_bounded hl _ _) (Nat.le_of_ble_eq_true rfl) ⟨(Nat.le_of_ble_eq_true rfl), (Nat.le_of_ble_eq_true rfl)⟩ rfl (Nat.le_of_ble_eq_true rfl) rfl rfl (fun _ _ h => h.elim) ?_
      rintro _ _ ⟨⟨_, rfl⟩, rfl⟩
      refine j_iret dX8_ruleTells_120 rfl rfl ?_ (Nat.le_of_ble_eq_true rfl) (Nat.le_of_ble_eq_true rfl)
      exact ⟨⟨_, rfl⟩, rfl⟩
  · refine j_iconst (v := 0) dX8_ruleTells_7 (by decide) ?_
    refine j_goto (tgt := 12) dX8_ruleTells_8 (by decide) ?_
    refine j_istore (lo' := [(4, _), (0, _), (1, _), (2, _), (3, _)]) dX8_ruleTells_12 (by decide) rfl ?_
    refine j_iload dX8_ruleTells_14 rfl ?_
    refine j_iload_n dX8_ruleTells_16 rfl ?_
    refine j_iadd dX8_ruleTells_17 ?_
    refine j_callS dX8_ruleTells_18 kX8_bounded lX8_309 stX8_bounded (c_X8_bounded hl _ _) (Nat.le_of_ble_eq_true rfl) ⟨(Nat.le_of_ble_eq_true rfl), (Nat.le_of_ble_eq_true rfl)⟩ rfl (Nat.le_of_ble_eq_true rfl) rfl rfl (fun _ _ h => h.elim) ?_
    rintro _ _ ⟨⟨_, rfl⟩, rfl⟩
    refine j_istore (lo' := [(5, _), (4, _), (0, _), (1, _), (2, _), (3, _)]) dX8_ruleTells_21 (by decide) rfl ?_
    refine j_iload_n dX8_ruleTells_23 rfl ?_
    rcases z_sw5 a with rfl | rfl | rfl | rfl | rfl | hp
    · refine j_tsIn (tgt := 60) dX8_ruleTells_24 (by decide) (by decide) rfl (by decide) ?_
      refine j_iload dX8_ruleTells_60 rfl ?_
      refine j_iret dX8_ruleTells_62 rfl rfl ?_ (Nat.le_of_ble_eq_true rfl) (Nat.le_of_ble_eq_true rfl)
      exact ⟨⟨_, rfl⟩, rfl⟩
    · refine j_tsIn (tgt := 63) dX8_ruleTells_24 (by decide) (by decide) rfl (by decide) ?_
      refine j_iload dX8_ruleTells_63 rfl ?_
      refine j_iload_n dX8_ruleTells_65 rfl ?_
      refine j_icmp_le (tgt := 74) dX8_ruleTells_66 (by decide) (fun c_66 => ?_) (fun c_66 => ?_)
      · refine j_iload_n dX8_ruleTells_74 rfl ?_
        refine j_iret dX8_ruleTells_75 rfl rfl ?_ (Nat.le_of_ble_eq_true rfl) (Nat.le_of_ble_eq_true rfl)
        exact ⟨⟨_, rfl⟩, rfl⟩
      · refine j_iload dX8_ruleTells_69 rfl ?_
        refine j_goto (tgt := 75) dX8_ruleTells_71 (by decide) ?_
        refine j_iret dX8_ruleTells_75 rfl rfl ?_ (Nat.le_of_ble_eq_true rfl) (Nat.le_of_ble_eq_true rfl)
        exact ⟨⟨_, rfl⟩, rfl⟩
    · refine j_tsIn (tgt := 76) dX8_ruleTells_24 (by decide) (by decide) rfl (by decide) ?_
      refine j_iload dX8_ruleTells_76 rfl ?_
      refine j_callS dX8_ruleTells_78 kX8_isEven lX8_312 stX8_isEven (c_X8_isEven hl _ _) (Nat.le_of_ble_eq_true rfl) ⟨(Nat.le_of_ble_eq_true rfl), (Nat.le_of_ble_eq_true rfl)⟩ rfl (Nat.le_of_ble_eq_true rfl) rfl rfl (fun _ _ h => h.elim) ?_
      rintro _ _ ⟨⟨_, rfl⟩, rfl⟩
      refine j_if_eq (tgt := 89) dX8_ruleTells_81 (by decide) (fun c_81 => ?_) (fun c_81 => ?_)
      · refine j_sipush (v := (-1000)) dX8_ruleTells_89 (by decide) ?_
        refine j_iret dX8_ruleTells_92 rfl rfl ?_ (Nat.le_of_ble_eq_true rfl) (Nat.le_of_ble_eq_true rfl)
        exact ⟨⟨_, rfl⟩, rfl⟩
      · refine j_iload dX8_ruleTells_84 rfl ?_
        refine j_goto (tgt := 92) dX8_ruleTells_86 (by decide) ?_
        refine j_iret dX8_ruleTells_92 rfl rfl ?_ (Nat.le_of_ble_eq_true rfl) (Nat.le_of_ble_eq_true rfl)
        exact ⟨⟨_, rfl⟩, rfl⟩
    · refine j_tsIn (tgt := 93) dX8_ruleTells_24 (by decide) (by decide) rfl (by decide) ?_
      refine j_sipush (v := (-1000)) dX8_ruleTells_93 (by decide) ?_
      refine j_iret dX8_ruleTells_96 rfl rfl ?_ (Nat.le_of_ble_eq_true rfl) (Nat.le_of_ble_eq_true rfl)
      exact ⟨⟨_, rfl⟩, rfl⟩
    · refine j_tsIn (tgt := 97) dX8_ruleTells_24 (by decide) (by decide) rfl (by decide) ?_
      refine j_iload dX8_ruleTells_97 rfl ?_
      refine j_callS dX8_ruleTells_99 kX8_isEven lX8_312 stX8_isEven (c_X8_isEven hl _ _) (Nat.le_of_ble_eq_true rfl) ⟨(Nat.le_of_ble_eq_true rfl), (Nat.le_of_ble_eq_true rfl)⟩ rfl (Nat.le_of_ble_eq_true rfl) rfl rfl (fun _ _ h => h.elim) ?_
      rintro _ _ ⟨⟨_, rfl⟩, rfl⟩
      refine j_if_eq (tgt := 110) dX8_ruleTells_102 (by decide) (fun c_102 => ?_) (fun c_102 => ?_)
      · refine j_sipush (v := (-1001)) dX8_ruleTells_110 (by decide) ?_
        refine j_iret dX8_ruleTells_113 rfl rfl ?_ (Nat.le_of_ble_eq_true rfl) (Nat.le_of_ble_eq_true rfl)
        exact ⟨⟨_, rfl⟩, rfl⟩
      · refine j_iload dX8_ruleTells_105 rfl ?_
        refine j_goto (tgt := 113) dX8_ruleTells_107 (by decide) ?_
        refine j_iret dX8_ruleTells_113 rfl rfl ?_ (Nat.le_of_ble_eq_true rfl) (Nat.le_of_ble_eq_true rfl)
        exact ⟨⟨_, rfl⟩, rfl⟩
    · refine j_tsOut (tgt := 114) dX8_ruleTells_24 hp (by decide) ?_
      refine j_iload_n dX8_ruleTells_114 rfl ?_
      refine j_iload_n dX8_ruleTells_115 rfl ?_
      refine j_iadd dX8_ruleTells_116 ?_
      refine j_callS dX8_ruleTells_117 kX8_bounded lX8_309 stX8_bounded (c_X8_bounded hl _ _) (Nat.le_of_ble_eq_true rfl) ⟨(Nat.le_of_ble_eq_true rfl), (Nat.le_of_ble_eq_true rfl)⟩ rfl (Nat.le_of_ble_eq_true rfl) rfl rfl (fun _ _ h => h.elim) ?_
      rintro _ _ ⟨⟨_, rfl⟩, rfl⟩
      refine j_iret dX8_ruleTells_120 rfl rfl ?_ (Nat.le_of_ble_eq_true rfl) (Nat.le_of_ble_eq_true rfl)
      exact ⟨⟨_, rfl⟩, rfl⟩
set_option maxRecDepth 100000 in
set_option maxHeartbeats 8000000 in
theorem c_X8_testTells (hl : l.stackTraces = false) (w : z_W) (a b c : Int32) : z_Con G l mX8_testTells 11 0 0 w [.int a, .int b, .int c] (fun v w9 => (∃ x : Int32, v = some (.int x)) ∧ w9 = w) (fun _ _ => False) := by
  refine z_body hl (by decide) rfl (Nat.le_of_ble_eq_true rfl) ?_
  show z_J G l mX8_testTells ((11, 0, 0, w, (fun v w9 => (∃ x : Int32, v = some (.int x)) ∧ w9 = w), fun _ _ => False)) 0 [(0, _), (1, _), (2, _)] [] _ 0 0
  refine j_iload_n dX8_testTells_0 rfl ?_
  rcases z_sw5 a with rfl | rfl | rfl | rfl | rfl | hp
  · refine j_tsIn (tgt := 36) dX8_testTells_1 (by decide) (by decide) rfl (by decide) ?_
    refine j_iload_n dX8_testTells_36 rfl ?_
    refine j_callS dX8_testTells_37 kX8_isEven lX8_312 stX8_isEven (c_X8_isEven hl _ _) (Nat.le_of_ble_eq_true rfl) ⟨(Nat.le_of_ble_eq_true rfl), (Nat.le_of_ble_eq_true rfl)⟩ rfl (Nat.le_of_ble_eq_true rfl) rfl rfl (fun _ _ h => h.elim) ?_
    rintro _ _ ⟨⟨_, rfl⟩, rfl⟩
    refine j_callS dX8_testTells_40 kX8_oneIf lX8_83 stX8_oneIf (c_X8_oneIf hl _ _) (Nat.le_of_ble_eq_true rfl) ⟨(Nat.le_of_ble_eq_true rfl), (Nat.le_of_ble_eq_true rfl)⟩ rfl (Nat.le_of_ble_eq_true rfl) rfl rfl (fun _ _ h => h.elim) ?_
    rintro _ _ ⟨⟨_, rfl⟩, rfl⟩
    refine j_iret dX8_testTells_43 rfl rfl ?_ (Nat.le_of_ble_eq_true rfl) (Nat.le_of_ble_eq_true rfl)
    exact ⟨⟨_, rfl⟩, rfl⟩
  · refine j_tsIn (tgt := 44) dX8_testTells_1 (by decide) (by decide) rfl (by decide) ?_
    refine j_iload_n dX8_testTells_44 rfl ?_
    refine j_callS dX8_testTells_45 kX8_isEven lX8_312 stX8_isEven (c_X8_isEven hl _ _) (Nat.le_of_ble_eq_true rfl) ⟨(Nat.le_of_ble_eq_true rfl), (Nat.le_of_ble_eq_true rfl)⟩ rfl (Nat.le_of_ble_eq_true rfl) rfl rfl (fun _ _ h => h.elim) ?_
    rintro _ _ ⟨⟨_, rfl⟩, rfl⟩
    refine j_if_ne (tgt := 55) dX8_testTells_48 (by decide) (fun c_48 => ?_) (fun c_48 => ?_)
    · refine j_iconst (v := 0) dX8_testTells_55 (by decide) ?_
      refine j_callS dX8_testTells_56 kX8_oneIf lX8_83 stX8_oneIf (c_X8_oneIf hl _ _) (Nat.le_of_ble_eq_true rfl) ⟨(Nat.le_of_ble_eq_true rfl), (Nat.le_of_ble_eq_true rfl)⟩ rfl (Nat.le_of_ble_eq_true rfl) rfl rfl (fun _ _ h => h.elim) ?_
      rintro _ _ ⟨⟨_, rfl⟩, rfl⟩
      refine j_iret dX8_testTells_59 rfl rfl ?_ (Nat.le_of_ble_eq_true rfl) (Nat.le_of_ble_eq_true rfl)
      exact ⟨⟨_, rfl⟩, rfl⟩
    · refine j_iconst (v := 1) dX8_testTells_51 (by decide) ?_
      refine j_goto (tgt := 56) dX8_testTells_52 (by decide) ?_
      refine j_callS dX8_testTells_56 kX8_oneIf lX8_83 stX8_oneIf (c_X8_oneIf hl _ _) (Nat.le_of_ble_eq_true rfl) ⟨(Nat.le_of_ble_eq_true rfl), (Nat.le_of_ble_eq_true rfl)⟩ rfl (Nat.le_of_ble_eq_true rfl) rfl rfl (fun _ _ h => h.elim) ?_
      rintro _ _ ⟨⟨_, rfl⟩, rfl⟩
      refine j_iret dX8_testTells_59 rfl rfl ?_ (Nat.le_of_ble_eq_true rfl) (Nat.le_of_ble_eq_true rfl)
      exact ⟨⟨_, rfl⟩, rfl⟩
  · refine j_tsIn (tgt := 60) dX8_testTells_1 (by decide) (by decide) rfl (by decide) ?_
    refine j_iload_n dX8_testTells_60 rfl ?_
    refine j_iload_n dX8_testTells_61 rfl ?_
    refine j_icmp_ge (tgt := 69) dX8_testTells_62 (by decide) (fun c_62 => ?_) (fun c_62 => ?_)
    · refine j_iconst (v := 0) dX8_testTells_69 (by decide) ?_
      refine j_callS dX8_testTells_70 kX8_oneIf lX8_83 stX8_oneIf (c_X8_oneIf hl _ _) (Nat.le_of_ble_eq_true rfl) ⟨(Nat.le_of_ble_eq_true rfl), (Nat.le_of_ble_eq_true rfl)⟩ rfl (Nat.le_of_ble_eq_true rfl) rfl rfl (fun _ _ h => h.elim) ?_
      rintro _ _ ⟨⟨_, rfl⟩, rfl⟩
      refine j_iret dX8_testTells_73 rfl rfl ?_ (Nat.le_of_ble_eq_true rfl) (Nat.le_of_ble_eq_true rfl)
      exact ⟨⟨_, rfl⟩, rfl⟩
    · refine j_iconst (v := 1) dX8_testTells_65 (by decide) ?_
      refine j_goto (tgt := 70) dX8_testTells_66 (by decide) ?_
      refine j_callS dX8_testTells_70 kX8_oneIf lX8_83 stX8_oneIf (c_X8_oneIf hl _ _) (Nat.le_of_ble_eq_true rfl) ⟨(Nat.le_of_ble_eq_true rfl), (Nat.le_of_ble_eq_true rfl)⟩ rfl (Nat.le_of_ble_eq_true rfl) rfl rfl (fun _ _ h => h.elim) ?_
      rintro _ _ ⟨⟨_, rfl⟩, rfl⟩
      refine j_iret dX8_testTells_73 rfl rfl ?_ (Nat.le_of_ble_eq_true rfl) (Nat.le_of_ble_eq_true rfl)
      exact ⟨⟨_, rfl⟩, rfl⟩
  · refine j_tsIn (tgt := 74) dX8_testTells_1 (by decide) (by decide) rfl (by decide) ?_
    refine j_iload_n dX8_testTells_74 rfl ?_
    refine j_iload_n dX8_testTells_75 rfl ?_
    refine j_icmp_le (tgt := 83) dX8_testTells_76 (by decide) (fun c_76 => ?_) (fun c_76 => ?_)
    · refine j_iconst (v := 0) dX8_testTells_83 (by decide) ?_
      refine j_callS dX8_testTells_84 kX8_oneIf lX8_83 stX8_oneIf (c_X8_oneIf hl _ _) (Nat.le_of_ble_eq_true rfl) ⟨(Nat.le_of_ble_eq_true rfl), (Nat.le_of_ble_eq_true rfl)⟩ rfl (Nat.le_of_ble_eq_true rfl) rfl rfl (fun _ _ h => h.elim) ?_
      rintro _ _ ⟨⟨_, rfl⟩, rfl⟩
      refine j_iret dX8_testTells_87 rfl rfl ?_ (Nat.le_of_ble_eq_true rfl) (Nat.le_of_ble_eq_true rfl)
      exact ⟨⟨_, rfl⟩, rfl⟩
    · refine j_iconst (v := 1) dX8_testTells_79 (by decide) ?_
      refine j_goto (tgt := 84) dX8_testTells_80 (by decide) ?_
      refine j_callS dX8_testTells_84 kX8_oneIf lX8_83 stX8_oneIf (c_X8_oneIf hl _ _) (Nat.le_of_ble_eq_true rfl) ⟨(Nat.le_of_ble_eq_true rfl), (Nat.le_of_ble_eq_true rfl)⟩ rfl (Nat.le_of_ble_eq_true rfl) rfl rfl (fun _ _ h => h.elim) ?_
      rintro _ _ ⟨⟨_, rfl⟩, rfl⟩
      refine j_iret dX8_testTells_87 rfl rfl ?_ (Nat.le_of_ble_eq_true rfl) (Nat.le_of_ble_eq_true rfl)
      exact ⟨⟨_, rfl⟩, rfl⟩
  · refine j_tsIn (tgt := 88) dX8_testTells_1 (by decide) (by decide) rfl (by decide) ?_
    refine j_iload_n dX8_testTells_88 rfl ?_
    refine j_iload_n dX8_testTells_89 rfl ?_
    refine j_icmp_ne (tgt := 97) dX8_testTells_90 (by decide) (fun c_90 => ?_) (fun c_90 => ?_)
    · refine j_iconst (v := 0) dX8_testTells_97 (by decide) ?_
      refine j_callS dX8_testTells_98 kX8_oneIf lX8_83 stX8_oneIf (c_X8_oneIf hl _ _) (Nat.le_of_ble_eq_true rfl) ⟨(Nat.le_of_ble_eq_true rfl), (Nat.le_of_ble_eq_true rfl)⟩ rfl (Nat.le_of_ble_eq_true rfl) rfl rfl (fun _ _ h => h.elim) ?_
      rintro _ _ ⟨⟨_, rfl⟩, rfl⟩
      refine j_iret dX8_testTells_101 rfl rfl ?_ (Nat.le_of_ble_eq_true rfl) (Nat.le_of_ble_eq_true rfl)
      exact ⟨⟨_, rfl⟩, rfl⟩
    · refine j_iconst (v := 1) dX8_testTells_93 (by decide) ?_
      refine j_goto (tgt := 98) dX8_testTells_94 (by decide) ?_
      refine j_callS dX8_testTells_98 kX8_oneIf lX8_83 stX8_oneIf (c_X8_oneIf hl _ _) (Nat.le_of_ble_eq_true rfl) ⟨(Nat.le_of_ble_eq_true rfl), (Nat.le_of_ble_eq_true rfl)⟩ rfl (Nat.le_of_ble_eq_true rfl) rfl rfl (fun _ _ h => h.elim) ?_
      rintro _ _ ⟨⟨_, rfl⟩, rfl⟩
      refine j_iret dX8_testTells_101 rfl rfl ?_ (Nat.le_of_ble_eq_true rfl) (Nat.le_of_ble_eq_true rfl)
      exact ⟨⟨_, rfl⟩, rfl⟩
  · refine j_tsOut (tgt := 102) dX8_testTells_1 hp (by decide) ?_
    refine j_iload_n dX8_testTells_102 rfl ?_
    refine j_iload_n dX8_testTells_103 rfl ?_
    refine j_icmp_ne (tgt := 113) dX8_testTells_104 (by decide) (fun c_104 => ?_) (fun c_104 => ?_)
    · refine j_iconst (v := 0) dX8_testTells_113 (by decide) ?_
      refine j_iret dX8_testTells_114 rfl rfl ?_ (Nat.le_of_ble_eq_true rfl) (Nat.le_of_ble_eq_true rfl)
      exact ⟨⟨_, rfl⟩, rfl⟩
    · refine j_sipush (v := (-1001)) dX8_testTells_107 (by decide) ?_
      refine j_goto (tgt := 114) dX8_testTells_110 (by decide) ?_
      refine j_iret dX8_testTells_114 rfl rfl ?_ (Nat.le_of_ble_eq_true rfl) (Nat.le_of_ble_eq_true rfl)
      exact ⟨⟨_, rfl⟩, rfl⟩
set_option maxRecDepth 100000 in
set_option maxHeartbeats 8000000 in
theorem c_X8_mixed (hl : l.stackTraces = false) (w : z_W) (a : Int64) (b : Int32) : z_Con G l mX8_mixed 10 0 0 w [.long a, .int b] (fun v w9 => (∃ x : Int64, v = some (.long x)) ∧ w9 = w) (fun _ _ => False) := by
  refine z_body hl (by decide) rfl (Nat.le_of_ble_eq_true rfl) ?_
  show z_J G l mX8_mixed ((10, 0, 0, w, (fun v w9 => (∃ x : Int64, v = some (.long x)) ∧ w9 = w), fun _ _ => False)) 0 [(0, _), (2, _)] [] _ 0 0
  refine j_lload_n dX8_mixed_0 rfl ?_
  refine j_ldc2 dX8_mixed_1 kcX8_350 ?_
  refine j_lmul dX8_mixed_4 ?_
  refine j_iload_n dX8_mixed_5 rfl ?_
  refine j_i2l dX8_mixed_6 ?_
  refine j_ladd dX8_mixed_7 ?_
  refine j_lret dX8_mixed_8 rfl ?_ (Nat.le_of_ble_eq_true rfl) (Nat.le_of_ble_eq_true rfl)
  exact ⟨⟨_, rfl⟩, rfl⟩
set_option maxRecDepth 100000 in
set_option maxHeartbeats 8000000 in
theorem c_X8_spanLength (hl : l.stackTraces = false) (w : z_W) (a b c : Int32) : z_Con G l mX8_spanLength 10 0 0 w [.int a, .int b, .int c] (fun v w9 => (∃ x : Int32, v = some (.int x)) ∧ w9 = w) (fun _ _ => False) := by
  refine z_body hl (by decide) rfl (Nat.le_of_ble_eq_true rfl) ?_
  show z_J G l mX8_spanLength ((10, 0, 0, w, (fun v w9 => (∃ x : Int32, v = some (.int x)) ∧ w9 = w), fun _ _ => False)) 0 [(0, _), (1, _), (2, _)] [] _ 0 0
  refine j_iload_n dX8_spanLength_0 rfl ?_
  refine j_iload_n dX8_spanLength_1 rfl ?_
  refine j_icmp_gt (tgt := 10) dX8_spanLength_2 (by decide) (fun c_2 => ?_) (fun c_2 => ?_)
  · refine j_iconst (v := 0) dX8_spanLength_10 (by decide) ?_
    refine j_goto (tgt := 21) dX8_spanLength_11 (by decide) ?_
    refine j_iret dX8_spanLength_21 rfl rfl ?_ (Nat.le_of_ble_eq_true rfl) (Nat.le_of_ble_eq_true rfl)
    exact ⟨⟨_, rfl⟩, rfl⟩
  · refine j_iload_n dX8_spanLength_5 rfl ?_
    refine j_iconst (v := 1) dX8_spanLength_6 (by decide) ?_
    refine j_icmp_ge (tgt := 14) dX8_spanLength_7 (by decide) (fun c_7 => ?_) (fun c_7 => ?_)
    · refine j_iload_n dX8_spanLength_14 rfl ?_
      refine j_iload_n dX8_spanLength_15 rfl ?_
      refine j_isub dX8_spanLength_16 ?_
      refine j_iload_n dX8_spanLength_17 rfl ?_
      refine j_idiv dX8_spanLength_18 (z_ge1 c_7) ?_
      refine j_iconst (v := 1) dX8_spanLength_19 (by decide) ?_
      refine j_iadd dX8_spanLength_20 ?_
      refine j_iret dX8_spanLength_21 rfl rfl ?_ (Nat.le_of_ble_eq_true rfl) (Nat.le_of_ble_eq_true rfl)
      exact ⟨⟨_, rfl⟩, rfl⟩
    · refine j_iconst (v := 0) dX8_spanLength_10 (by decide) ?_
      refine j_goto (tgt := 21) dX8_spanLength_11 (by decide) ?_
      refine j_iret dX8_spanLength_21 rfl rfl ?_ (Nat.le_of_ble_eq_true rfl) (Nat.le_of_ble_eq_true rfl)
      exact ⟨⟨_, rfl⟩, rfl⟩
set_option maxRecDepth 100000 in
set_option maxHeartbeats 8000000 in
theorem c_X8_checkRange (hl : l.stackTraces = false) (w : z_W) (a b c : Int32) : z_Con G l mX8_checkRange 10 1 6 w [.int a, .int b, .int c] (fun v w9 => (v = none) ∧ w9 = w) (fun E w9 => z_xA E ∧ w9 = w) := by
  refine z_body hl (by decide) rfl (Nat.le_of_ble_eq_true rfl) ?_
  show z_J G l mX8_checkRange ((10, 1, 6, w, (fun v w9 => (v = none) ∧ w9 = w), fun E w9 => z_xA E ∧ w9 = w)) 0 [(0, _), (1, _), (2, _)] [] _ 0 0
  refine j_iload_n dX8_checkRange_0 rfl ?_
  refine j_iload_n dX8_checkRange_1 rfl ?_
  refine j_icmp_lt (tgt := 10) dX8_checkRange_2 (by decide) (fun c_2 => ?_) (fun c_2 => ?_)
  · exact j_throwSW (text := "the number is out of its range") rfl th_A (by decide +kernel) dX8_checkRange_10 dX8_checkRange_13 dX8_checkRange_14 dX8_checkRange_17 dX8_checkRange_20 (Nat.le_of_ble_eq_true rfl) (Nat.le_of_ble_eq_true rfl) ⟨rfl, rfl⟩ (Nat.le_of_ble_eq_true rfl) (Nat.le_of_ble_eq_true rfl)
  · refine j_iload_n dX8_checkRange_5 rfl ?_
    refine j_iload_n dX8_checkRange_6 rfl ?_
    refine j_icmp_le (tgt := 21) dX8_checkRange_7 (by decide) (fun c_7 => ?_) (fun c_7 => ?_)
    · refine j_vret dX8_checkRange_21 rfl ?_ (Nat.le_of_ble_eq_true rfl) (Nat.le_of_ble_eq_true rfl)
      exact ⟨rfl, rfl⟩
    · exact j_throwSW (text := "the number is out of its range") rfl th_A (by decide +kernel) dX8_checkRange_10 dX8_checkRange_13 dX8_checkRange_14 dX8_checkRange_17 dX8_checkRange_20 (Nat.le_of_ble_eq_true rfl) (Nat.le_of_ble_eq_true rfl) ⟨rfl, rfl⟩ (Nat.le_of_ble_eq_true rfl) (Nat.le_of_ble_eq_true rfl)
set_option maxRecDepth 100000 in
set_option maxHeartbeats 8000000 in
theorem c_X8_checkRule (hl : l.stackTraces = false) (w : z_W) (a : Int32) : z_Con G l mX8_checkRule 10 1 6 w [.int a] (fun v w9 => (v = none) ∧ w9 = w) (fun E w9 => z_xA E ∧ w9 = w) := by
  refine z_body hl (by decide) rfl (Nat.le_of_ble_eq_true rfl) ?_
  show z_J G l mX8_checkRule ((10, 1, 6, w, (fun v w9 => (v = none) ∧ w9 = w), fun E w9 => z_xA E ∧ w9 = w)) 0 [(0, _)] [] _ 0 0
  refine j_iload_n dX8_checkRule_0 rfl ?_
  refine j_if_ne (tgt := 15) dX8_checkRule_1 (by decide) (fun c_1 => ?_) (fun c_1 => ?_)
  · refine j_vret dX8_checkRule_15 rfl ?_ (Nat.le_of_ble_eq_true rfl) (Nat.le_of_ble_eq_true rfl)
    exact ⟨rfl, rfl⟩
  · exact j_throwSW (text := "the rule is not one of these") rfl th_A (by decide +kernel) dX8_checkRule_4 dX8_checkRule_7 dX8_checkRule_8 dX8_checkRule_11 dX8_checkRule_14 (Nat.le_of_ble_eq_true rfl) (Nat.le_of_ble_eq_true rfl) ⟨rfl, rfl⟩ (Nat.le_of_ble_eq_true rfl) (Nat.le_of_ble_eq_true rfl)
set_option maxRecDepth 100000 in
set_option maxHeartbeats 8000000 in
theorem c_X8_checkValue (hl : l.stackTraces = false) (w : z_W) (a : Int32) : z_Con G l mX8_checkValue 11 1 6 w [.int a] (fun v w9 => (v = none) ∧ w9 = w) (fun E w9 => z_xA E ∧ w9 = w) := by
  refine z_body hl (by decide) rfl (Nat.le_of_ble_eq_true rfl) ?_
  show z_J G l mX8_checkValue ((11, 1, 6, w, (fun v w9 => (v = none) ∧ w9 = w), fun E w9 => z_xA E ∧ w9 = w)) 0 [(0, _)] [] _ 0 0
  refine j_iload_n dX8_checkValue_0 rfl ?_
  refine j_sipush (v := (-999)) dX8_checkValue_1 (by decide) ?_
  refine j_sipush (v := 999) dX8_checkValue_4 (by decide) ?_
  refine j_callS dX8_checkValue_7 kX8_checkRange lX8_72 stX8_checkRange (c_X8_checkRange hl _ _ _ _) (Nat.le_of_ble_eq_true rfl) ⟨(Nat.le_of_ble_eq_true rfl), (Nat.le_of_ble_eq_true rfl)⟩ rfl (Nat.le_of_ble_eq_true rfl) rfl rfl (fun _ _ h => ⟨x_A_A h.1, h.2⟩) ?_
  rintro _ _ ⟨rfl, rfl⟩
  refine j_vret dX8_checkValue_10 rfl ?_ (Nat.le_of_ble_eq_true rfl) (Nat.le_of_ble_eq_true rfl)
  exact ⟨rfl, rfl⟩
set_option maxRecDepth 100000 in
set_option maxHeartbeats 8000000 in
theorem c_X8_checkKey (hl : l.stackTraces = false) (w : z_W) (a : Int32) : z_Con G l mX8_checkKey 11 1 6 w [.int a] (fun v w9 => (v = none) ∧ w9 = w) (fun E w9 => z_xA E ∧ w9 = w) := by
  refine z_body hl (by decide) rfl (Nat.le_of_ble_eq_true rfl) ?_
  show z_J G l mX8_checkKey ((11, 1, 6, w, (fun v w9 => (v = none) ∧ w9 = w), fun E w9 => z_xA E ∧ w9 = w)) 0 [(0, _)] [] _ 0 0
  refine j_iload_n dX8_checkKey_0 rfl ?_
  refine j_iconst (v := 0) dX8_checkKey_1 (by decide) ?_
  refine j_bipush (v := 19) dX8_checkKey_2 (by decide) ?_
  refine j_callS dX8_checkKey_4 kX8_checkRange lX8_72 stX8_checkRange (c_X8_checkRange hl _ _ _ _) (Nat.le_of_ble_eq_true rfl) ⟨(Nat.le_of_ble_eq_true rfl), (Nat.le_of_ble_eq_true rfl)⟩ rfl (Nat.le_of_ble_eq_true rfl) rfl rfl (fun _ _ h => ⟨x_A_A h.1, h.2⟩) ?_
  rintro _ _ ⟨rfl, rfl⟩
  refine j_vret dX8_checkKey_7 rfl ?_ (Nat.le_of_ble_eq_true rfl) (Nat.le_of_ble_eq_true rfl)
  exact ⟨rfl, rfl⟩
set_option maxRecDepth 100000 in
set_option maxHeartbeats 8000000 in
theorem c_X8_checkSpan (hl : l.stackTraces = false) (w : z_W) (a b c : Int32) : z_Con G l mX8_checkSpan 12 4 24 w [.int a, .int b, .int c] (fun v w9 => (v = none) ∧ w9 = w) (fun E w9 => z_xA E ∧ w9 = w) := by
  refine z_body hl (by decide) rfl (Nat.le_of_ble_eq_true rfl) ?_
  show z_J G l mX8_checkSpan ((12, 4, 24, w, (fun v w9 => (v = none) ∧ w9 = w), fun E w9 => z_xA E ∧ w9 = w)) 0 [(0, _), (1, _), (2, _)] [] _ 0 0
  refine j_iload_n dX8_checkSpan_0 rfl ?_
  refine j_callS dX8_checkSpan_1 kX8_checkValue lX8_50 stX8_checkValue (c_X8_checkValue hl _ _) (Nat.le_of_ble_eq_true rfl) ⟨(Nat.le_of_ble_eq_true rfl), (Nat.le_of_ble_eq_true rfl)⟩ rfl (Nat.le_of_ble_eq_true rfl) rfl rfl (fun _ _ h => ⟨x_A_A h.1, h.2⟩) ?_
  rintro _ _ ⟨rfl, rfl⟩
  refine j_iload_n dX8_checkSpan_4 rfl ?_
  refine j_callS dX8_checkSpan_5 kX8_checkValue lX8_50 stX8_checkValue (c_X8_checkValue hl _ _) (Nat.le_of_ble_eq_true rfl) ⟨(Nat.le_of_ble_eq_true rfl), (Nat.le_of_ble_eq_true rfl)⟩ rfl (Nat.le_of_ble_eq_true rfl) rfl rfl (fun _ _ h => ⟨x_A_A h.1, h.2⟩) ?_
  rintro _ _ ⟨rfl, rfl⟩
  refine j_iload_n dX8_checkSpan_8 rfl ?_
  refine j_iconst (v := 1) dX8_checkSpan_9 (by decide) ?_
  refine j_bipush (v := 99) dX8_checkSpan_10 (by decide) ?_
  refine j_callS dX8_checkSpan_12 kX8_checkRange lX8_72 stX8_checkRange (c_X8_checkRange hl _ _ _ _) (Nat.le_of_ble_eq_true rfl) ⟨(Nat.le_of_ble_eq_true rfl), (Nat.le_of_ble_eq_true rfl)⟩ rfl (Nat.le_of_ble_eq_true rfl) rfl rfl (fun _ _ h => ⟨x_A_A h.1, h.2⟩) ?_
  rintro _ _ ⟨rfl, rfl⟩
  refine j_iload_n dX8_checkSpan_15 rfl ?_
  refine j_iload_n dX8_checkSpan_16 rfl ?_
  refine j_iload_n dX8_checkSpan_17 rfl ?_
  refine j_callS dX8_checkSpan_18 kX8_spanLength lX8_176 stX8_spanLength (c_X8_spanLength hl _ _ _ _) (Nat.le_of_ble_eq_true rfl) ⟨(Nat.le_of_ble_eq_true rfl), (Nat.le_of_ble_eq_true rfl)⟩ rfl (Nat.le_of_ble_eq_true rfl) rfl rfl (fun _ _ h => h.elim) ?_
  rintro _ _ ⟨⟨_, rfl⟩, rfl⟩
  refine j_iconst (v := 0) dX8_checkSpan_21 (by decide) ?_
  refine j_bipush (v := 40) dX8_checkSpan_22 (by decide) ?_
  refine j_callS dX8_checkSpan_24 kX8_checkRange lX8_72 stX8_checkRange (c_X8_checkRange hl _ _ _ _) (Nat.le_of_ble_eq_true rfl) ⟨(Nat.le_of_ble_eq_true rfl), (Nat.le_of_ble_eq_true rfl)⟩ rfl (Nat.le_of_ble_eq_true rfl) rfl rfl (fun _ _ h => ⟨x_A_A h.1, h.2⟩) ?_
  rintro _ _ ⟨rfl, rfl⟩
  refine j_vret dX8_checkSpan_27 rfl ?_ (Nat.le_of_ble_eq_true rfl) (Nat.le_of_ble_eq_true rfl)
  exact ⟨rfl, rfl⟩
set_option maxRecDepth 100000 in
set_option maxHeartbeats 8000000 in
theorem c_X4_reckonAbsent (hl : l.stackTraces = false) (f g c : Nat → Int32) (m so : Int32) (p q x : Int32) (hm : z_m20 m): z_CF G l mX4_reckonAbsent 13 0 0 [.inr (9, [.int so, .ref 1, .ref 2, .ref 3, .int m]), z_ia 20 f, z_ia 20 g, .inr (11, [.ref 4]), z_ia 7 c] [.ref 0, .int p, .int q, .int x] (fun v L => ∃ y : Int32, v = some (.int y) ∧ ∃ (f' g' c' : Nat → Int32) (m' : Int32), z_m20 m' ∧ L = [.inr (9, [.int so, .ref 1, .ref 2, .ref 3, .int m']), z_ia 20 f', z_ia 20 g', .inr (11, [.ref 4]), z_ia 7 c']) := by
  refine z_body hl (by decide) rfl (Nat.le_of_ble_eq_true rfl) ?_
  show z_J G l mX4_reckonAbsent (z_SF 13 0 0 [.inr (9, [.int so, .ref 1, .ref 2, .ref 3, .int m]), z_ia 20 f, z_ia 20 g, .inr (11, [.ref 4]), z_ia 7 c] (fun v L => ∃ y : Int32, v = some (.int y) ∧ ∃ (f' g' c' : Nat → Int32) (m' : Int32), z_m20 m' ∧ L = [.inr (9, [.int so, .ref 1, .ref 2, .ref 3, .int m']), z_ia 20 f', z_ia 20 g', .inr (11, [.ref 4]), z_ia 7 c'])) 0 [(0, _), (1, _), (2, _), (3, _)] [] _ 0 0
  refine j_aload_n dX4_reckonAbsent_0 rfl rfl ?_
  refine j_iload_n dX4_reckonAbsent_1 rfl ?_
  refine j_callV (q := (RX4, TX4, 5)) dX4_reckonAbsent_2 kX4_look lX4_37 inX4_look seX4_look rfl rfl (z_frame [0, 1, 2, 3, 4] rfl (by decide) (Nat.le_of_ble_eq_true rfl) (c_X4_look hl _ _ _ _ _ _)) (Nat.le_of_ble_eq_true rfl) ⟨(Nat.le_of_ble_eq_true rfl), (Nat.le_of_ble_eq_true rfl)⟩ rfl (Nat.le_of_ble_eq_true rfl) rfl rfl (fun _ _ h => h.elim) ?_
  rintro _ _ ⟨_, _, ⟨_, rfl, rfl⟩, rfl, rfl⟩
  refine j_w ([.inr (9, [_, _, _, _, _]), z_ia 20 _, z_ia 20 _, .inr (11, [_]), z_ia 7 _], z_no) rfl ?_
  refine j_istore (lo' := [(4, _), (0, _), (1, _), (2, _), (3, _)]) dX4_reckonAbsent_5 (by decide) rfl ?_
  refine j_iload dX4_reckonAbsent_7 rfl ?_
  refine j_sipush (v := (-1000)) dX4_reckonAbsent_9 (by decide) ?_
  refine j_icmp_eq (tgt := 18) dX4_reckonAbsent_12 (by decide) (fun c_12 => ?_) (fun c_12 => ?_)
  · refine j_iload_n dX4_reckonAbsent_18 rfl ?_
    refine j_iload_n dX4_reckonAbsent_19 rfl ?_
    refine j_iload dX4_reckonAbsent_20 rfl ?_
    refine j_iload_n dX4_reckonAbsent_22 rfl ?_
    refine j_callSN dX4_reckonAbsent_23 kX8_ruleTells lX4_58 stX8_ruleTells (c_X8_ruleTells hl _ _ _ _ _) (Nat.le_of_ble_eq_true rfl) ⟨(Nat.le_of_ble_eq_true rfl), (Nat.le_of_ble_eq_true rfl)⟩ rfl (Nat.le_of_ble_eq_true rfl) rfl rfl (fun _ _ h => h.elim) ?_
    rintro _ _ ⟨⟨_, rfl⟩, rfl⟩
    refine j_istore (lo' := [(5, _), (4, _), (0, _), (1, _), (2, _), (3, _)]) dX4_reckonAbsent_26 (by decide) rfl ?_
    refine j_iload dX4_reckonAbsent_28 rfl ?_
    refine j_sipush (v := (-1000)) dX4_reckonAbsent_30 (by decide) ?_
    refine j_icmp_eq (tgt := 52) dX4_reckonAbsent_33 (by decide) (fun c_33 => ?_) (fun c_33 => ?_)
    · refine j_iload dX4_reckonAbsent_52 rfl ?_
      refine j_iret dX4_reckonAbsent_54 rfl rfl ?_ (Nat.le_of_ble_eq_true rfl) (Nat.le_of_ble_eq_true rfl)
      exact ⟨rfl, rfl, _, rfl, _, _, _, _, hm, rfl⟩
    · refine j_iload dX4_reckonAbsent_36 rfl ?_
      refine j_sipush (v := (-1001)) dX4_reckonAbsent_38 (by decide) ?_
      refine j_icmp_eq (tgt := 52) dX4_reckonAbsent_41 (by decide) (fun c_41 => ?_) (fun c_41 => ?_)
      · refine j_iload dX4_reckonAbsent_52 rfl ?_
        refine j_iret dX4_reckonAbsent_54 rfl rfl ?_ (Nat.le_of_ble_eq_true rfl) (Nat.le_of_ble_eq_true rfl)
        exact ⟨rfl, rfl, _, rfl, _, _, _, _, hm, rfl⟩
      · refine j_aload_n dX4_reckonAbsent_44 rfl rfl ?_
        refine j_iload_n dX4_reckonAbsent_45 rfl ?_
        refine j_iload dX4_reckonAbsent_46 rfl ?_
        refine j_callV (q := (RX4, TX4, 5)) dX4_reckonAbsent_48 kX4_store lX4_62 inX4_store seX4_store rfl rfl (z_frame [0, 1, 2, 3, 4] rfl (by decide) (Nat.le_of_ble_eq_true rfl) (c_X4_store hl _ _ _ _ _ _ _ hm)) (Nat.le_of_ble_eq_true rfl) ⟨(Nat.le_of_ble_eq_true rfl), (Nat.le_of_ble_eq_true rfl)⟩ rfl (Nat.le_of_ble_eq_true rfl) rfl rfl (fun _ _ h => h.elim) ?_
        rintro _ _ ⟨_, _, ⟨_, rfl, _, _, _, _, hm, rfl⟩, rfl, rfl⟩
        refine j_w ([.inr (9, [_, _, _, _, _]), z_ia 20 _, z_ia 20 _, .inr (11, [_]), z_ia 7 _], z_no) rfl ?_
        refine j_pop dX4_reckonAbsent_51 rfl ?_
        refine j_iload dX4_reckonAbsent_52 rfl ?_
        refine j_iret dX4_reckonAbsent_54 rfl rfl ?_ (Nat.le_of_ble_eq_true rfl) (Nat.le_of_ble_eq_true rfl)
        exact ⟨rfl, rfl, _, rfl, _, _, _, _, hm, rfl⟩
  · refine j_iload dX4_reckonAbsent_15 rfl ?_
    refine j_iret dX4_reckonAbsent_17 rfl rfl ?_ (Nat.le_of_ble_eq_true rfl) (Nat.le_of_ble_eq_true rfl)
    exact ⟨rfl, rfl, _, rfl, _, _, _, _, hm, rfl⟩
set_option maxRecDepth 100000 in
set_option maxHeartbeats 8000000 in
theorem c_X4_reckon (hl : l.stackTraces = false) (f g c : Nat → Int32) (m so : Int32) (p q x : Int32) (hm : z_m20 m): z_CF G l mX4_reckon 13 0 0 [.inr (9, [.int so, .ref 1, .ref 2, .ref 3, .int m]), z_ia 20 f, z_ia 20 g, .inr (11, [.ref 4]), z_ia 7 c] [.ref 0, .int p, .int q, .int x] (fun v L => ∃ y : Int32, v = some (.int y) ∧ ∃ (f' g' c' : Nat → Int32) (m' : Int32), z_m20 m' ∧ L = [.inr (9, [.int so, .ref 1, .ref 2, .ref 3, .int m']), z_ia 20 f', z_ia 20 g', .inr (11, [.ref 4]), z_ia 7 c']) := by
  refine z_body hl (by decide) rfl (Nat.le_of_ble_eq_true rfl) ?_
  show z_J G l mX4_reckon (z_SF 13 0 0 [.inr (9, [.int so, .ref 1, .ref 2, .ref 3, .int m]), z_ia 20 f, z_ia 20 g, .inr (11, [.ref 4]), z_ia 7 c] (fun v L => ∃ y : Int32, v = some (.int y) ∧ ∃ (f' g' c' : Nat → Int32) (m' : Int32), z_m20 m' ∧ L = [.inr (9, [.int so, .ref 1, .ref 2, .ref 3, .int m']), z_ia 20 f', z_ia 20 g', .inr (11, [.ref 4]), z_ia 7 c'])) 0 [(0, _), (1, _), (2, _), (3, _)] [] _ 0 0
  refine j_aload_n dX4_reckon_0 rfl rfl ?_
  refine j_iload_n dX4_reckon_1 rfl ?_
  refine j_callV (q := (RX4, TX4, 5)) dX4_reckon_2 kX4_look lX4_37 inX4_look seX4_look rfl rfl (z_frame [0, 1, 2, 3, 4] rfl (by decide) (Nat.le_of_ble_eq_true rfl) (c_X4_look hl _ _ _ _ _ _)) (Nat.le_of_ble_eq_true rfl) ⟨(Nat.le_of_ble_eq_true rfl), (Nat.le_of_ble_eq_true rfl)⟩ rfl (Nat.le_of_ble_eq_true rfl) rfl rfl (fun _ _ h => h.elim) ?_
  rintro _ _ ⟨_, _, ⟨_, rfl, rfl⟩, rfl, rfl⟩
  refine j_w ([.inr (9, [_, _, _, _, _]), z_ia 20 _, z_ia 20 _, .inr (11, [_]), z_ia 7 _], z_no) rfl ?_
  refine j_istore (lo' := [(4, _), (0, _), (1, _), (2, _), (3, _)]) dX4_reckon_5 (by decide) rfl ?_
  refine j_iload_n dX4_reckon_7 rfl ?_
  refine j_iload_n dX4_reckon_8 rfl ?_
  refine j_iload dX4_reckon_9 rfl ?_
  refine j_iload_n dX4_reckon_11 rfl ?_
  refine j_callSN dX4_reckon_12 kX8_ruleTells lX4_58 stX8_ruleTells (c_X8_ruleTells hl _ _ _ _ _) (Nat.le_of_ble_eq_true rfl) ⟨(Nat.le_of_ble_eq_true rfl), (Nat.le_of_ble_eq_true rfl)⟩ rfl (Nat.le_of_ble_eq_true rfl) rfl rfl (fun _ _ h => h.elim) ?_
  rintro _ _ ⟨⟨_, rfl⟩, rfl⟩
  refine j_istore (lo' := [(5, _), (4, _), (0, _), (1, _), (2, _), (3, _)]) dX4_reckon_15 (by decide) rfl ?_
  refine j_iload dX4_reckon_17 rfl ?_
  refine j_sipush (v := (-1001)) dX4_reckon_19 (by decide) ?_
  refine j_icmp_ne (tgt := 29) dX4_reckon_22 (by decide) (fun c_22 => ?_) (fun c_22 => ?_)
  · refine j_iload dX4_reckon_29 rfl ?_
    refine j_sipush (v := (-1000)) dX4_reckon_31 (by decide) ?_
    refine j_icmp_eq (tgt := 48) dX4_reckon_34 (by decide) (fun c_34 => ?_) (fun c_34 => ?_)
    · refine j_iload dX4_reckon_48 rfl ?_
      refine j_sipush (v := (-1000)) dX4_reckon_50 (by decide) ?_
      refine j_icmp_eq (tgt := 62) dX4_reckon_53 (by decide) (fun c_53 => ?_) (fun c_53 => ?_)
      · refine j_iload dX4_reckon_62 rfl ?_
        refine j_iret dX4_reckon_64 rfl rfl ?_ (Nat.le_of_ble_eq_true rfl) (Nat.le_of_ble_eq_true rfl)
        exact ⟨rfl, rfl, _, rfl, _, _, _, _, hm, rfl⟩
      · refine j_aload_n dX4_reckon_56 rfl rfl ?_
        refine j_iload_n dX4_reckon_57 rfl ?_
        refine j_callV (q := (RX4, TX4, 5)) dX4_reckon_58 kX4_sendAway lX4_70 inX4_sendAway seX4_sendAway rfl rfl (z_frame [0, 1, 2, 3, 4] rfl (by decide) (Nat.le_of_ble_eq_true rfl) (c_X4_sendAway hl _ _ _ _ _ _ hm)) (Nat.le_of_ble_eq_true rfl) ⟨(Nat.le_of_ble_eq_true rfl), (Nat.le_of_ble_eq_true rfl)⟩ rfl (Nat.le_of_ble_eq_true rfl) rfl rfl (fun _ _ h => h.elim) ?_
        rintro _ _ ⟨_, _, ⟨_, rfl, _, _, _, _, hm, rfl⟩, rfl, rfl⟩
        refine j_w ([.inr (9, [_, _, _, _, _]), z_ia 20 _, z_ia 20 _, .inr (11, [_]), z_ia 7 _], z_no) rfl ?_
        refine j_pop dX4_reckon_61 rfl ?_
        refine j_iload dX4_reckon_62 rfl ?_
        refine j_iret dX4_reckon_64 rfl rfl ?_ (Nat.le_of_ble_eq_true rfl) (Nat.le_of_ble_eq_true rfl)
        exact ⟨rfl, rfl, _, rfl, _, _, _, _, hm, rfl⟩
    · refine j_aload_n dX4_reckon_37 rfl rfl ?_
      refine j_iload_n dX4_reckon_38 rfl ?_
      refine j_iload dX4_reckon_39 rfl ?_
      refine j_callV (q := (RX4, TX4, 5)) dX4_reckon_41 kX4_store lX4_62 inX4_store seX4_store rfl rfl (z_frame [0, 1, 2, 3, 4] rfl (by decide) (Nat.le_of_ble_eq_true rfl) (c_X4_store hl _ _ _ _ _ _ _ hm)) (Nat.le_of_ble_eq_true rfl) ⟨(Nat.le_of_ble_eq_true rfl), (Nat.le_of_ble_eq_true rfl)⟩ rfl (Nat.le_of_ble_eq_true rfl) rfl rfl (fun _ _ h => h.elim) ?_
      rintro _ _ ⟨_, _, ⟨_, rfl, _, _, _, _, hm, rfl⟩, rfl, rfl⟩
      refine j_w ([.inr (9, [_, _, _, _, _]), z_ia 20 _, z_ia 20 _, .inr (11, [_]), z_ia 7 _], z_no) rfl ?_
      refine j_pop dX4_reckon_44 rfl ?_
      refine j_goto (tgt := 62) dX4_reckon_45 (by decide) ?_
      refine j_iload dX4_reckon_62 rfl ?_
      refine j_iret dX4_reckon_64 rfl rfl ?_ (Nat.le_of_ble_eq_true rfl) (Nat.le_of_ble_eq_true rfl)
      exact ⟨rfl, rfl, _, rfl, _, _, _, _, hm, rfl⟩
  · refine j_sipush (v := (-1001)) dX4_reckon_25 (by decide) ?_
    refine j_iret dX4_reckon_28 rfl rfl ?_ (Nat.le_of_ble_eq_true rfl) (Nat.le_of_ble_eq_true rfl)
    exact ⟨rfl, rfl, _, rfl, _, _, _, _, hm, rfl⟩
set_option maxRecDepth 100000 in
set_option maxHeartbeats 8000000 in
theorem c_X4_reckonPresent (hl : l.stackTraces = false) (f g c : Nat → Int32) (m so : Int32) (p q x : Int32) (hm : z_m20 m): z_CF G l mX4_reckonPresent 14 0 0 [.inr (9, [.int so, .ref 1, .ref 2, .ref 3, .int m]), z_ia 20 f, z_ia 20 g, .inr (11, [.ref 4]), z_ia 7 c] [.ref 0, .int p, .int q, .int x] (fun v L => ∃ y : Int32, v = some (.int y) ∧ ∃ (f' g' c' : Nat → Int32) (m' : Int32), z_m20 m' ∧ L = [.inr (9, [.int so, .ref 1, .ref 2, .ref 3, .int m']), z_ia 20 f', z_ia 20 g', .inr (11, [.ref 4]), z_ia 7 c']) := by
  refine z_body hl (by decide) rfl (Nat.le_of_ble_eq_true rfl) ?_
  show z_J G l mX4_reckonPresent (z_SF 14 0 0 [.inr (9, [.int so, .ref 1, .ref 2, .ref 3, .int m]), z_ia 20 f, z_ia 20 g, .inr (11, [.ref 4]), z_ia 7 c] (fun v L => ∃ y : Int32, v = some (.int y) ∧ ∃ (f' g' c' : Nat → Int32) (m' : Int32), z_m20 m' ∧ L = [.inr (9, [.int so, .ref 1, .ref 2, .ref 3, .int m']), z_ia 20 f', z_ia 20 g', .inr (11, [.ref 4]), z_ia 7 c'])) 0 [(0, _), (1, _), (2, _), (3, _)] [] _ 0 0
  refine j_aload_n dX4_reckonPresent_0 rfl rfl ?_
  refine j_iload_n dX4_reckonPresent_1 rfl ?_
  refine j_callV (q := (RX4, TX4, 5)) dX4_reckonPresent_2 kX4_look lX4_37 inX4_look seX4_look rfl rfl (z_frame [0, 1, 2, 3, 4] rfl (by decide) (Nat.le_of_ble_eq_true rfl) (c_X4_look hl _ _ _ _ _ _)) (Nat.le_of_ble_eq_true rfl) ⟨(Nat.le_of_ble_eq_true rfl), (Nat.le_of_ble_eq_true rfl)⟩ rfl (Nat.le_of_ble_eq_true rfl) rfl rfl (fun _ _ h => h.elim) ?_
  rintro _ _ ⟨_, _, ⟨_, rfl, rfl⟩, rfl, rfl⟩
  refine j_w ([.inr (9, [_, _, _, _, _]), z_ia 20 _, z_ia 20 _, .inr (11, [_]), z_ia 7 _], z_no) rfl ?_
  refine j_sipush (v := (-1000)) dX4_reckonPresent_5 (by decide) ?_
  refine j_icmp_ne (tgt := 17) dX4_reckonPresent_8 (by decide) (fun c_8 => ?_) (fun c_8 => ?_)
  · refine j_aload_n dX4_reckonPresent_17 rfl rfl ?_
    refine j_iload_n dX4_reckonPresent_18 rfl ?_
    refine j_iload_n dX4_reckonPresent_19 rfl ?_
    refine j_iload_n dX4_reckonPresent_20 rfl ?_
    refine j_callV (q := (RX4, TX4, 5)) dX4_reckonPresent_21 kX4_reckon lX4_66 inX4_reckon seX4_reckon rfl rfl (z_frame [0, 1, 2, 3, 4] rfl (by decide) (Nat.le_of_ble_eq_true rfl) (c_X4_reckon hl _ _ _ _ _ _ _ _ hm)) (Nat.le_of_ble_eq_true rfl) ⟨(Nat.le_of_ble_eq_true rfl), (Nat.le_of_ble_eq_true rfl)⟩ rfl (Nat.le_of_ble_eq_true rfl) rfl rfl (fun _ _ h => h.elim) ?_
    rintro _ _ ⟨_, _, ⟨_, rfl, _, _, _, _, hm, rfl⟩, rfl, rfl⟩
    refine j_w ([.inr (9, [_, _, _, _, _]), z_ia 20 _, z_ia 20 _, .inr (11, [_]), z_ia 7 _], z_no) rfl ?_
    refine j_iret dX4_reckonPresent_24 rfl rfl ?_ (Nat.le_of_ble_eq_true rfl) (Nat.le_of_ble_eq_true rfl)
    exact ⟨rfl, rfl, _, rfl, _, _, _, _, hm, rfl⟩
  · refine j_sipush (v := (-1000)) dX4_reckonPresent_11 (by decide) ?_
    refine j_goto (tgt := 24) dX4_reckonPresent_14 (by decide) ?_
    refine j_iret dX4_reckonPresent_24 rfl rfl ?_ (Nat.le_of_ble_eq_true rfl) (Nat.le_of_ble_eq_true rfl)
    exact ⟨rfl, rfl, _, rfl, _, _, _, _, hm, rfl⟩
set_option maxRecDepth 100000 in
set_option maxHeartbeats 8000000 in
theorem c_X4_join (hl : l.stackTraces = false) (f g c : Nat → Int32) (m so : Int32) (p q x : Int32) (hm : z_m20 m): z_CF G l mX4_join 14 0 0 [.inr (9, [.int so, .ref 1, .ref 2, .ref 3, .int m]), z_ia 20 f, z_ia 20 g, .inr (11, [.ref 4]), z_ia 7 c] [.ref 0, .int p, .int q, .int x] (fun v L => ∃ y : Int32, v = some (.int y) ∧ ∃ (f' g' c' : Nat → Int32) (m' : Int32), z_m20 m' ∧ L = [.inr (9, [.int so, .ref 1, .ref 2, .ref 3, .int m']), z_ia 20 f', z_ia 20 g', .inr (11, [.ref 4]), z_ia 7 c']) := by
  refine z_body hl (by decide) rfl (Nat.le_of_ble_eq_true rfl) ?_
  show z_J G l mX4_join (z_SF 14 0 0 [.inr (9, [.int so, .ref 1, .ref 2, .ref 3, .int m]), z_ia 20 f, z_ia 20 g, .inr (11, [.ref 4]), z_ia 7 c] (fun v L => ∃ y : Int32, v = some (.int y) ∧ ∃ (f' g' c' : Nat → Int32) (m' : Int32), z_m20 m' ∧ L = [.inr (9, [.int so, .ref 1, .ref 2, .ref 3, .int m']), z_ia 20 f', z_ia 20 g', .inr (11, [.ref 4]), z_ia 7 c'])) 0 [(0, _), (1, _), (2, _), (3, _)] [] _ 0 0
  refine j_aload_n dX4_join_0 rfl rfl ?_
  refine j_iload_n dX4_join_1 rfl ?_
  refine j_callV (q := (RX4, TX4, 5)) dX4_join_2 kX4_look lX4_37 inX4_look seX4_look rfl rfl (z_frame [0, 1, 2, 3, 4] rfl (by decide) (Nat.le_of_ble_eq_true rfl) (c_X4_look hl _ _ _ _ _ _)) (Nat.le_of_ble_eq_true rfl) ⟨(Nat.le_of_ble_eq_true rfl), (Nat.le_of_ble_eq_true rfl)⟩ rfl (Nat.le_of_ble_eq_true rfl) rfl rfl (fun _ _ h => h.elim) ?_
  rintro _ _ ⟨_, _, ⟨_, rfl, rfl⟩, rfl, rfl⟩
  refine j_w ([.inr (9, [_, _, _, _, _]), z_ia 20 _, z_ia 20 _, .inr (11, [_]), z_ia 7 _], z_no) rfl ?_
  refine j_sipush (v := (-1000)) dX4_join_5 (by decide) ?_
  refine j_icmp_eq (tgt := 19) dX4_join_8 (by decide) (fun c_8 => ?_) (fun c_8 => ?_)
  · refine j_aload_n dX4_join_19 rfl rfl ?_
    refine j_iload_n dX4_join_20 rfl ?_
    refine j_iload_n dX4_join_21 rfl ?_
    refine j_callV (q := (RX4, TX4, 5)) dX4_join_22 kX4_store lX4_62 inX4_store seX4_store rfl rfl (z_frame [0, 1, 2, 3, 4] rfl (by decide) (Nat.le_of_ble_eq_true rfl) (c_X4_store hl _ _ _ _ _ _ _ hm)) (Nat.le_of_ble_eq_true rfl) ⟨(Nat.le_of_ble_eq_true rfl), (Nat.le_of_ble_eq_true rfl)⟩ rfl (Nat.le_of_ble_eq_true rfl) rfl rfl (fun _ _ h => h.elim) ?_
    rintro _ _ ⟨_, _, ⟨_, rfl, _, _, _, _, hm, rfl⟩, rfl, rfl⟩
    refine j_w ([.inr (9, [_, _, _, _, _]), z_ia 20 _, z_ia 20 _, .inr (11, [_]), z_ia 7 _], z_no) rfl ?_
    refine j_pop dX4_join_25 rfl ?_
    refine j_iload_n dX4_join_26 rfl ?_
    refine j_iret dX4_join_27 rfl rfl ?_ (Nat.le_of_ble_eq_true rfl) (Nat.le_of_ble_eq_true rfl)
    exact ⟨rfl, rfl, _, rfl, _, _, _, _, hm, rfl⟩
  · refine j_aload_n dX4_join_11 rfl rfl ?_
    refine j_iload_n dX4_join_12 rfl ?_
    refine j_iload_n dX4_join_13 rfl ?_
    refine j_iload_n dX4_join_14 rfl ?_
    refine j_callV (q := (RX4, TX4, 5)) dX4_join_15 kX4_reckon lX4_66 inX4_reckon seX4_reckon rfl rfl (z_frame [0, 1, 2, 3, 4] rfl (by decide) (Nat.le_of_ble_eq_true rfl) (c_X4_reckon hl _ _ _ _ _ _ _ _ hm)) (Nat.le_of_ble_eq_true rfl) ⟨(Nat.le_of_ble_eq_true rfl), (Nat.le_of_ble_eq_true rfl)⟩ rfl (Nat.le_of_ble_eq_true rfl) rfl rfl (fun _ _ h => h.elim) ?_
    rintro _ _ ⟨_, _, ⟨_, rfl, _, _, _, _, hm, rfl⟩, rfl, rfl⟩
    refine j_w ([.inr (9, [_, _, _, _, _]), z_ia 20 _, z_ia 20 _, .inr (11, [_]), z_ia 7 _], z_no) rfl ?_
    refine j_iret dX4_join_18 rfl rfl ?_ (Nat.le_of_ble_eq_true rfl) (Nat.le_of_ble_eq_true rfl)
    exact ⟨rfl, rfl, _, rfl, _, _, _, _, hm, rfl⟩
set_option maxRecDepth 100000 in
set_option maxHeartbeats 8000000 in
theorem c_X2_isMore (hl : l.stackTraces = false) (k u p m fx : Int32) (f c : Nat → Int32) : z_CF G l mX2_isMore 10 0 0 [.inr (7, [.ref 3, .int k, .int u, .ref 1, .int p]), .inr (6, [.ref 2, .ref 3, .int m, .int fx]), z_ia 12 f, .inr (11, [.ref 4]), z_ia 7 c] [.ref 0] (fun v L => (∃ b : Bool, v = some (.int (z_bi b))) ∧ L = [.inr (7, [.ref 3, .int k, .int u, .ref 1, .int p]), .inr (6, [.ref 2, .ref 3, .int m, .int fx]), z_ia 12 f, .inr (11, [.ref 4]), z_ia 7 c]) := by
  refine z_body hl (by decide) rfl (Nat.le_of_ble_eq_true rfl) ?_
  show z_J G l mX2_isMore (z_SF 10 0 0 [.inr (7, [.ref 3, .int k, .int u, .ref 1, .int p]), .inr (6, [.ref 2, .ref 3, .int m, .int fx]), z_ia 12 f, .inr (11, [.ref 4]), z_ia 7 c] (fun v L => (∃ b : Bool, v = some (.int (z_bi b))) ∧ L = [.inr (7, [.ref 3, .int k, .int u, .ref 1, .int p]), .inr (6, [.ref 2, .ref 3, .int m, .int fx]), z_ia 12 f, .inr (11, [.ref 4]), z_ia 7 c])) 0 [(0, _)] [] _ 0 0
  refine j_aload_n dX2_isMore_0 rfl rfl ?_
  refine j_getf dX2_isMore_1 fX2_21 rfl rfl ?_
  refine j_aload_n dX2_isMore_4 rfl rfl ?_
  refine j_getf dX2_isMore_5 fX2_15 rfl rfl ?_
  refine j_getf dX2_isMore_8 fX2_25 rfl rfl ?_
  refine j_icmp_ge (tgt := 18) dX2_isMore_11 (by decide) (fun c_11 => ?_) (fun c_11 => ?_)
  · refine j_iconst (v := 0) dX2_isMore_18 (by decide) ?_
    refine j_iret dX2_isMore_19 rfl rfl ?_ (Nat.le_of_ble_eq_true rfl) (Nat.le_of_ble_eq_true rfl)
    first | exact ⟨rfl, rfl, ⟨true, rfl⟩, rfl⟩ | exact ⟨rfl, rfl, ⟨false, rfl⟩, rfl⟩
  · refine j_iconst (v := 1) dX2_isMore_14 (by decide) ?_
    refine j_goto (tgt := 19) dX2_isMore_15 (by decide) ?_
    refine j_iret dX2_isMore_19 rfl rfl ?_ (Nat.le_of_ble_eq_true rfl) (Nat.le_of_ble_eq_true rfl)
    first | exact ⟨rfl, rfl, ⟨true, rfl⟩, rfl⟩ | exact ⟨rfl, rfl, ⟨false, rfl⟩, rfl⟩
set_option maxRecDepth 100000 in
set_option maxHeartbeats 8000000 in
theorem c_X2_next (hl : l.stackTraces = false) (k u p m fx : Int32) (f c : Nat → Int32) : z_CF G l mX2_next 12 0 0 [.inr (7, [.ref 3, .int k, .int u, .ref 1, .int p]), .inr (6, [.ref 2, .ref 3, .int m, .int fx]), z_ia 12 f, .inr (11, [.ref 4]), z_ia 7 c] [.ref 0] (fun v L => ∃ (x u' p' : Int32), v = some (.int x) ∧ L = [.inr (7, [.ref 3, .int k, .int u', .ref 1, .int p']), .inr (6, [.ref 2, .ref 3, .int m, .int fx]), z_ia 12 f, .inr (11, [.ref 4]), z_ia 7 c]) := by
  refine z_body hl (by decide) rfl (Nat.le_of_ble_eq_true rfl) ?_
  show z_J G l mX2_next (z_SF 12 0 0 [.inr (7, [.ref 3, .int k, .int u, .ref 1, .int p]), .inr (6, [.ref 2, .ref 3, .int m, .int fx]), z_ia 12 f, .inr (11, [.ref 4]), z_ia 7 c] (fun v L => ∃ (x u' p' : Int32), v = some (.int x) ∧ L = [.inr (7, [.ref 3, .int k, .int u', .ref 1, .int p']), .inr (6, [.ref 2, .ref 3, .int m, .int fx]), z_ia 12 f, .inr (11, [.ref 4]), z_ia 7 c])) 0 [(0, _)] [] _ 0 0
  refine j_aload_n dX2_next_0 rfl rfl ?_
  refine j_aload_n dX2_next_1 rfl rfl ?_
  refine j_getf dX2_next_2 fX2_15 rfl rfl ?_
  refine j_aload_n dX2_next_5 rfl rfl ?_
  refine j_getf dX2_next_6 fX2_21 rfl rfl ?_
  refine j_callV (q := (RX1, TX1, 4)) dX2_next_9 kX1_valueAt lX2_28 inX1_valueAt seX1_valueAt rfl rfl (z_frame [1, 2, 3, 4] rfl (by decide) (Nat.le_of_ble_eq_true rfl) (c_X1_valueAt hl _ _ _ _ _)) (Nat.le_of_ble_eq_true rfl) ⟨(Nat.le_of_ble_eq_true rfl), (Nat.le_of_ble_eq_true rfl)⟩ rfl (Nat.le_of_ble_eq_true rfl) rfl rfl (fun _ _ h => h.elim) ?_
  rintro _ _ ⟨_, _, ⟨_, rfl, rfl⟩, rfl, rfl⟩
  refine j_w ([.inr (7, [_, _, _, _, _]), .inr (6, [_, _, _, _]), z_ia 12 _, .inr (11, [_]), z_ia 7 _], z_no) rfl ?_
  refine j_put (w' := ([.inr (7, [_, _, _, _, _]), .inr (6, [_, _, _, _]), z_ia 12 _, .inr (11, [_]), z_ia 7 _], z_no)) dX2_next_12 fX2_32 tX2_2 rfl ⟨rfl, rfl⟩ rfl ?_
  refine j_aload_n dX2_next_15 rfl rfl ?_
  refine j_dup dX2_next_16 rfl ?_
  refine j_getf dX2_next_17 fX2_21 rfl rfl ?_
  refine j_iconst (v := 1) dX2_next_20 (by decide) ?_
  refine j_iadd dX2_next_21 ?_
  refine j_put (w' := ([.inr (7, [_, _, _, _, _]), .inr (6, [_, _, _, _]), z_ia 12 _, .inr (11, [_]), z_ia 7 _], z_no)) dX2_next_22 fX2_21 tX2_4 rfl ⟨rfl, rfl⟩ rfl ?_
  refine j_aload_n dX2_next_25 rfl rfl ?_
  refine j_getf dX2_next_26 fX2_32 rfl rfl ?_
  refine j_iret dX2_next_29 rfl rfl ?_ (Nat.le_of_ble_eq_true rfl) (Nat.le_of_ble_eq_true rfl)
  exact ⟨rfl, rfl, _, _, _, rfl, rfl⟩
set_option maxRecDepth 100000 in
set_option maxHeartbeats 8000000 in
theorem c_X2_putInPlace (hl : l.stackTraces = false) (k u p m fx : Int32) (f c : Nat → Int32) (x : Int32) : z_CF G l mX2_putInPlace 12 0 0 [.inr (7, [.ref 3, .int k, .int u, .ref 1, .int p]), .inr (6, [.ref 2, .ref 3, .int m, .int fx]), z_ia 12 f, .inr (11, [.ref 4]), z_ia 7 c] [.ref 0, .int x] (fun v L => (∃ b : Bool, v = some (.int (z_bi b))) ∧ ∃ f' c' : Nat → Int32, L = [.inr (7, [.ref 3, .int k, .int u, .ref 1, .int p]), .inr (6, [.ref 2, .ref 3, .int m, .int fx]), z_ia 12 f', .inr (11, [.ref 4]), z_ia 7 c']) := by
  refine z_body hl (by decide) rfl (Nat.le_of_ble_eq_true rfl) ?_
  show z_J G l mX2_putInPlace (z_SF 12 0 0 [.inr (7, [.ref 3, .int k, .int u, .ref 1, .int p]), .inr (6, [.ref 2, .ref 3, .int m, .int fx]), z_ia 12 f, .inr (11, [.ref 4]), z_ia 7 c] (fun v L => (∃ b : Bool, v = some (.int (z_bi b))) ∧ ∃ f' c' : Nat → Int32, L = [.inr (7, [.ref 3, .int k, .int u, .ref 1, .int p]), .inr (6, [.ref 2, .ref 3, .int m, .int fx]), z_ia 12 f', .inr (11, [.ref 4]), z_ia 7 c'])) 0 [(0, _), (1, _)] [] _ 0 0
  refine j_aload_n dX2_putInPlace_0 rfl rfl ?_
  refine j_getf dX2_putInPlace_1 fX2_15 rfl rfl ?_
  refine j_getf dX2_putInPlace_4 fX2_35 rfl rfl ?_
  refine j_if_eq (tgt := 12) dX2_putInPlace_7 (by decide) (fun c_7 => ?_) (fun c_7 => ?_)
  · refine j_aload_n dX2_putInPlace_12 rfl rfl ?_
    refine j_getf dX2_putInPlace_13 fX2_39 rfl rfl ?_
    refine j_iconst (v := 3) dX2_putInPlace_16 (by decide) ?_
    refine j_callV (q := (RX6, TX6, 1)) dX2_putInPlace_17 kX6_add lX2_40 inX6_add seX6_add rfl rfl (z_frame [3, 4] rfl (by decide) (Nat.le_of_ble_eq_true rfl) (c_X6_add hl _ _)) (Nat.le_of_ble_eq_true rfl) ⟨(Nat.le_of_ble_eq_true rfl), (Nat.le_of_ble_eq_true rfl)⟩ rfl (Nat.le_of_ble_eq_true rfl) rfl rfl (fun _ _ h => h.elim) ?_
    rintro _ _ ⟨_, _, ⟨rfl, _, rfl⟩, rfl, rfl⟩
    refine j_w ([.inr (7, [_, _, _, _, _]), .inr (6, [_, _, _, _]), z_ia 12 _, .inr (11, [_]), z_ia 7 _], z_no) rfl ?_
    refine j_aload_n dX2_putInPlace_20 rfl rfl ?_
    refine j_getf dX2_putInPlace_21 fX2_15 rfl rfl ?_
    refine j_aload_n dX2_putInPlace_24 rfl rfl ?_
    refine j_getf dX2_putInPlace_25 fX2_21 rfl rfl ?_
    refine j_iconst (v := 1) dX2_putInPlace_28 (by decide) ?_
    refine j_isub dX2_putInPlace_29 ?_
    refine j_iload_n dX2_putInPlace_30 rfl ?_
    refine j_callV (q := (RX1, TX1, 4)) dX2_putInPlace_31 kX1_setAt lX2_46 inX1_setAt seX1_setAt rfl rfl (z_frame [1, 2, 3, 4] rfl (by decide) (Nat.le_of_ble_eq_true rfl) (c_X1_setAt hl _ _ _ _ _ _)) (Nat.le_of_ble_eq_true rfl) ⟨(Nat.le_of_ble_eq_true rfl), (Nat.le_of_ble_eq_true rfl)⟩ rfl (Nat.le_of_ble_eq_true rfl) rfl rfl (fun _ _ h => h.elim) ?_
    rintro _ _ ⟨_, _, ⟨rfl, _, rfl⟩, rfl, rfl⟩
    refine j_w ([.inr (7, [_, _, _, _, _]), .inr (6, [_, _, _, _]), z_ia 12 _, .inr (11, [_]), z_ia 7 _], z_no) rfl ?_
    refine j_iconst (v := 1) dX2_putInPlace_34 (by decide) ?_
    refine j_iret dX2_putInPlace_35 rfl rfl ?_ (Nat.le_of_ble_eq_true rfl) (Nat.le_of_ble_eq_true rfl)
    exact ⟨rfl, rfl, ⟨true, rfl⟩, _, _, rfl⟩
  · refine j_iconst (v := 0) dX2_putInPlace_10 (by decide) ?_
    refine j_iret dX2_putInPlace_11 rfl rfl ?_ (Nat.le_of_ble_eq_true rfl) (Nat.le_of_ble_eq_true rfl)
    exact ⟨rfl, rfl, ⟨false, rfl⟩, _, _, rfl⟩
set_option maxRecDepth 100000 in
set_option maxHeartbeats 8000000 in
theorem c_X2_takeAway (hl : l.stackTraces = false) (k u p m fx : Int32) (f c : Nat → Int32) : z_CF G l mX2_takeAway 13 0 0 [.inr (7, [.ref 3, .int k, .int u, .ref 1, .int p]), .inr (6, [.ref 2, .ref 3, .int m, .int fx]), z_ia 12 f, .inr (11, [.ref 4]), z_ia 7 c] [.ref 0] (fun v L => (∃ b : Bool, v = some (.int (z_bi b))) ∧ ∃ (p' m' : Int32) (f' c' : Nat → Int32), L = [.inr (7, [.ref 3, .int k, .int u, .ref 1, .int p']), .inr (6, [.ref 2, .ref 3, .int m', .int fx]), z_ia 12 f', .inr (11, [.ref 4]), z_ia 7 c']) := by
  refine z_body hl (by decide) rfl (Nat.le_of_ble_eq_true rfl) ?_
  show z_J G l mX2_takeAway (z_SF 13 0 0 [.inr (7, [.ref 3, .int k, .int u, .ref 1, .int p]), .inr (6, [.ref 2, .ref 3, .int m, .int fx]), z_ia 12 f, .inr (11, [.ref 4]), z_ia 7 c] (fun v L => (∃ b : Bool, v = some (.int (z_bi b))) ∧ ∃ (p' m' : Int32) (f' c' : Nat → Int32), L = [.inr (7, [.ref 3, .int k, .int u, .ref 1, .int p']), .inr (6, [.ref 2, .ref 3, .int m', .int fx]), z_ia 12 f', .inr (11, [.ref 4]), z_ia 7 c'])) 0 [(0, _)] [] _ 0 0
  refine j_aload_n dX2_takeAway_0 rfl rfl ?_
  refine j_getf dX2_takeAway_1 fX2_15 rfl rfl ?_
  refine j_getf dX2_takeAway_4 fX2_35 rfl rfl ?_
  refine j_if_eq (tgt := 12) dX2_takeAway_7 (by decide) (fun c_7 => ?_) (fun c_7 => ?_)
  · refine j_aload_n dX2_takeAway_12 rfl rfl ?_
    refine j_getf dX2_takeAway_13 fX2_39 rfl rfl ?_
    refine j_iconst (v := 4) dX2_takeAway_16 (by decide) ?_
    refine j_callV (q := (RX6, TX6, 1)) dX2_takeAway_17 kX6_add lX2_40 inX6_add seX6_add rfl rfl (z_frame [3, 4] rfl (by decide) (Nat.le_of_ble_eq_true rfl) (c_X6_add hl _ _)) (Nat.le_of_ble_eq_true rfl) ⟨(Nat.le_of_ble_eq_true rfl), (Nat.le_of_ble_eq_true rfl)⟩ rfl (Nat.le_of_ble_eq_true rfl) rfl rfl (fun _ _ h => h.elim) ?_
    rintro _ _ ⟨_, _, ⟨rfl, _, rfl⟩, rfl, rfl⟩
    refine j_w ([.inr (7, [_, _, _, _, _]), .inr (6, [_, _, _, _]), z_ia 12 _, .inr (11, [_]), z_ia 7 _], z_no) rfl ?_
    refine j_aload_n dX2_takeAway_20 rfl rfl ?_
    refine j_dup dX2_takeAway_21 rfl ?_
    refine j_getf dX2_takeAway_22 fX2_21 rfl rfl ?_
    refine j_iconst (v := 1) dX2_takeAway_25 (by decide) ?_
    refine j_isub dX2_takeAway_26 ?_
    refine j_put (w' := ([.inr (7, [_, _, _, _, _]), .inr (6, [_, _, _, _]), z_ia 12 _, .inr (11, [_]), z_ia 7 _], z_no)) dX2_takeAway_27 fX2_21 tX2_4 rfl ⟨rfl, rfl⟩ rfl ?_
    refine j_aload_n dX2_takeAway_30 rfl rfl ?_
    refine j_getf dX2_takeAway_31 fX2_15 rfl rfl ?_
    refine j_aload_n dX2_takeAway_34 rfl rfl ?_
    refine j_getf dX2_takeAway_35 fX2_21 rfl rfl ?_
    refine j_callV (q := (RX1, TX1, 4)) dX2_takeAway_38 kX1_takeOut lX2_50 inX1_takeOut seX1_takeOut rfl rfl (z_frame [1, 2, 3, 4] rfl (by decide) (Nat.le_of_ble_eq_true rfl) (c_X1_takeOut hl _ _ _ _ _)) (Nat.le_of_ble_eq_true rfl) ⟨(Nat.le_of_ble_eq_true rfl), (Nat.le_of_ble_eq_true rfl)⟩ rfl (Nat.le_of_ble_eq_true rfl) rfl rfl (fun _ _ h => h.elim) ?_
    rintro _ _ ⟨_, _, ⟨rfl, _, _, rfl⟩, rfl, rfl⟩
    refine j_w ([.inr (7, [_, _, _, _, _]), .inr (6, [_, _, _, _]), z_ia 12 _, .inr (11, [_]), z_ia 7 _], z_no) rfl ?_
    refine j_iconst (v := 1) dX2_takeAway_41 (by decide) ?_
    refine j_iret dX2_takeAway_42 rfl rfl ?_ (Nat.le_of_ble_eq_true rfl) (Nat.le_of_ble_eq_true rfl)
    exact ⟨rfl, rfl, ⟨true, rfl⟩, _, _, _, _, rfl⟩
  · refine j_iconst (v := 0) dX2_takeAway_10 (by decide) ?_
    refine j_iret dX2_takeAway_11 rfl rfl ?_ (Nat.le_of_ble_eq_true rfl) (Nat.le_of_ble_eq_true rfl)
    exact ⟨rfl, rfl, ⟨false, rfl⟩, _, _, _, _, rfl⟩
set_option maxRecDepth 100000 in
set_option maxHeartbeats 8000000 in
theorem c_X5_isMore (hl : l.stackTraces = false) (k u p : Int32) (f g c : Nat → Int32) (m so : Int32) : z_CF G l mX5_isMore 10 0 0 [.inr (10, [.ref 4, .int k, .int u, .ref 1, .int p]), .inr (9, [.int so, .ref 2, .ref 3, .ref 4, .int m]), z_ia 20 f, z_ia 20 g, .inr (11, [.ref 5]), z_ia 7 c] [.ref 0] (fun v L => (∃ b : Bool, v = some (.int (z_bi b))) ∧ L = [.inr (10, [.ref 4, .int k, .int u, .ref 1, .int p]), .inr (9, [.int so, .ref 2, .ref 3, .ref 4, .int m]), z_ia 20 f, z_ia 20 g, .inr (11, [.ref 5]), z_ia 7 c]) := by
  refine z_body hl (by decide) rfl (Nat.le_of_ble_eq_true rfl) ?_
  show z_J G l mX5_isMore (z_SF 10 0 0 [.inr (10, [.ref 4, .int k, .int u, .ref 1, .int p]), .inr (9, [.int so, .ref 2, .ref 3, .ref 4, .int m]), z_ia 20 f, z_ia 20 g, .inr (11, [.ref 5]), z_ia 7 c] (fun v L => (∃ b : Bool, v = some (.int (z_bi b))) ∧ L = [.inr (10, [.ref 4, .int k, .int u, .ref 1, .int p]), .inr (9, [.int so, .ref 2, .ref 3, .ref 4, .int m]), z_ia 20 f, z_ia 20 g, .inr (11, [.ref 5]), z_ia 7 c])) 0 [(0, _)] [] _ 0 0
  refine j_aload_n dX5_isMore_0 rfl rfl ?_
  refine j_getf dX5_isMore_1 fX5_21 rfl rfl ?_
  refine j_aload_n dX5_isMore_4 rfl rfl ?_
  refine j_getf dX5_isMore_5 fX5_15 rfl rfl ?_
  refine j_getf dX5_isMore_8 fX5_25 rfl rfl ?_
  refine j_icmp_ge (tgt := 18) dX5_isMore_11 (by decide) (fun c_11 => ?_) (fun c_11 => ?_)
  · refine j_iconst (v := 0) dX5_isMore_18 (by decide) ?_
    refine j_iret dX5_isMore_19 rfl rfl ?_ (Nat.le_of_ble_eq_true rfl) (Nat.le_of_ble_eq_true rfl)
    first | exact ⟨rfl, rfl, ⟨true, rfl⟩, rfl⟩ | exact ⟨rfl, rfl, ⟨false, rfl⟩, rfl⟩
  · refine j_iconst (v := 1) dX5_isMore_14 (by decide) ?_
    refine j_goto (tgt := 19) dX5_isMore_15 (by decide) ?_
    refine j_iret dX5_isMore_19 rfl rfl ?_ (Nat.le_of_ble_eq_true rfl) (Nat.le_of_ble_eq_true rfl)
    first | exact ⟨rfl, rfl, ⟨true, rfl⟩, rfl⟩ | exact ⟨rfl, rfl, ⟨false, rfl⟩, rfl⟩
set_option maxRecDepth 100000 in
set_option maxHeartbeats 8000000 in
theorem c_X5_next (hl : l.stackTraces = false) (k u p : Int32) (f g c : Nat → Int32) (m so : Int32) : z_CF G l mX5_next 12 0 0 [.inr (10, [.ref 4, .int k, .int u, .ref 1, .int p]), .inr (9, [.int so, .ref 2, .ref 3, .ref 4, .int m]), z_ia 20 f, z_ia 20 g, .inr (11, [.ref 5]), z_ia 7 c] [.ref 0] (fun v L => ∃ (x k' u' p' : Int32), v = some (.int x) ∧ L = [.inr (10, [.ref 4, .int k', .int u', .ref 1, .int p']), .inr (9, [.int so, .ref 2, .ref 3, .ref 4, .int m]), z_ia 20 f, z_ia 20 g, .inr (11, [.ref 5]), z_ia 7 c]) := by
  refine z_body hl (by decide) rfl (Nat.le_of_ble_eq_true rfl) ?_
  show z_J G l mX5_next (z_SF 12 0 0 [.inr (10, [.ref 4, .int k, .int u, .ref 1, .int p]), .inr (9, [.int so, .ref 2, .ref 3, .ref 4, .int m]), z_ia 20 f, z_ia 20 g, .inr (11, [.ref 5]), z_ia 7 c] (fun v L => ∃ (x k' u' p' : Int32), v = some (.int x) ∧ L = [.inr (10, [.ref 4, .int k', .int u', .ref 1, .int p']), .inr (9, [.int so, .ref 2, .ref 3, .ref 4, .int m]), z_ia 20 f, z_ia 20 g, .inr (11, [.ref 5]), z_ia 7 c])) 0 [(0, _)] [] _ 0 0
  refine j_aload_n dX5_next_0 rfl rfl ?_
  refine j_aload_n dX5_next_1 rfl rfl ?_
  refine j_getf dX5_next_2 fX5_15 rfl rfl ?_
  refine j_aload_n dX5_next_5 rfl rfl ?_
  refine j_getf dX5_next_6 fX5_21 rfl rfl ?_
  refine j_callV (q := (RX4, TX4, 5)) dX5_next_9 kX4_keyAt lX5_28 inX4_keyAt seX4_keyAt rfl rfl (z_frame [1, 2, 3, 4, 5] rfl (by decide) (Nat.le_of_ble_eq_true rfl) (c_X4_keyAt hl _ _ _ _ _ _)) (Nat.le_of_ble_eq_true rfl) ⟨(Nat.le_of_ble_eq_true rfl), (Nat.le_of_ble_eq_true rfl)⟩ rfl (Nat.le_of_ble_eq_true rfl) rfl rfl (fun _ _ h => h.elim) ?_
  rintro _ _ ⟨_, _, ⟨_, rfl, rfl⟩, rfl, rfl⟩
  refine j_w ([.inr (10, [_, _, _, _, _]), .inr (9, [_, _, _, _, _]), z_ia 20 _, z_ia 20 _, .inr (11, [_]), z_ia 7 _], z_no) rfl ?_
  refine j_put (w' := ([.inr (10, [_, _, _, _, _]), .inr (9, [_, _, _, _, _]), z_ia 20 _, z_ia 20 _, .inr (11, [_]), z_ia 7 _], z_no)) dX5_next_12 fX5_32 tX5_1 rfl ⟨rfl, rfl⟩ rfl ?_
  refine j_aload_n dX5_next_15 rfl rfl ?_
  refine j_aload_n dX5_next_16 rfl rfl ?_
  refine j_getf dX5_next_17 fX5_15 rfl rfl ?_
  refine j_aload_n dX5_next_20 rfl rfl ?_
  refine j_getf dX5_next_21 fX5_32 rfl rfl ?_
  refine j_callV (q := (RX4, TX4, 5)) dX5_next_24 kX4_look lX5_35 inX4_look seX4_look rfl rfl (z_frame [1, 2, 3, 4, 5] rfl (by decide) (Nat.le_of_ble_eq_true rfl) (c_X4_look hl _ _ _ _ _ _)) (Nat.le_of_ble_eq_true rfl) ⟨(Nat.le_of_ble_eq_true rfl), (Nat.le_of_ble_eq_true rfl)⟩ rfl (Nat.le_of_ble_eq_true rfl) rfl rfl (fun _ _ h => h.elim) ?_
  rintro _ _ ⟨_, _, ⟨_, rfl, rfl⟩, rfl, rfl⟩
  refine j_w ([.inr (10, [_, _, _, _, _]), .inr (9, [_, _, _, _, _]), z_ia 20 _, z_ia 20 _, .inr (11, [_]), z_ia 7 _], z_no) rfl ?_
  refine j_put (w' := ([.inr (10, [_, _, _, _, _]), .inr (9, [_, _, _, _, _]), z_ia 20 _, z_ia 20 _, .inr (11, [_]), z_ia 7 _], z_no)) dX5_next_27 fX5_38 tX5_2 rfl ⟨rfl, rfl⟩ rfl ?_
  refine j_aload_n dX5_next_30 rfl rfl ?_
  refine j_dup dX5_next_31 rfl ?_
  refine j_getf dX5_next_32 fX5_21 rfl rfl ?_
  refine j_iconst (v := 1) dX5_next_35 (by decide) ?_
  refine j_iadd dX5_next_36 ?_
  refine j_put (w' := ([.inr (10, [_, _, _, _, _]), .inr (9, [_, _, _, _, _]), z_ia 20 _, z_ia 20 _, .inr (11, [_]), z_ia 7 _], z_no)) dX5_next_37 fX5_21 tX5_4 rfl ⟨rfl, rfl⟩ rfl ?_
  refine j_sipush (v := 1000) dX5_next_40 (by decide) ?_
  refine j_aload_n dX5_next_43 rfl rfl ?_
  refine j_getf dX5_next_44 fX5_32 rfl rfl ?_
  refine j_imul dX5_next_47 ?_
  refine j_aload_n dX5_next_48 rfl rfl ?_
  refine j_getf dX5_next_49 fX5_38 rfl rfl ?_
  refine j_iadd dX5_next_52 ?_
  refine j_iret dX5_next_53 rfl rfl ?_ (Nat.le_of_ble_eq_true rfl) (Nat.le_of_ble_eq_true rfl)
  exact ⟨rfl, rfl, _, _, _, _, rfl, rfl⟩
set_option maxRecDepth 100000 in
set_option maxHeartbeats 8000000 in
theorem c_X5_putInPlace (hl : l.stackTraces = false) (k u p : Int32) (f g c : Nat → Int32) (m so : Int32) (x : Int32) : z_CF G l mX5_putInPlace 12 0 0 [.inr (10, [.ref 4, .int k, .int u, .ref 1, .int p]), .inr (9, [.int so, .ref 2, .ref 3, .ref 4, .int m]), z_ia 20 f, z_ia 20 g, .inr (11, [.ref 5]), z_ia 7 c] [.ref 0, .int x] (fun v L => (∃ b : Bool, v = some (.int (z_bi b))) ∧ ∃ f' c' : Nat → Int32, L = [.inr (10, [.ref 4, .int k, .int u, .ref 1, .int p]), .inr (9, [.int so, .ref 2, .ref 3, .ref 4, .int m]), z_ia 20 f', z_ia 20 g, .inr (11, [.ref 5]), z_ia 7 c']) := by
  refine z_body hl (by decide) rfl (Nat.le_of_ble_eq_true rfl) ?_
  show z_J G l mX5_putInPlace (z_SF 12 0 0 [.inr (10, [.ref 4, .int k, .int u, .ref 1, .int p]), .inr (9, [.int so, .ref 2, .ref 3, .ref 4, .int m]), z_ia 20 f, z_ia 20 g, .inr (11, [.ref 5]), z_ia 7 c] (fun v L => (∃ b : Bool, v = some (.int (z_bi b))) ∧ ∃ f' c' : Nat → Int32, L = [.inr (10, [.ref 4, .int k, .int u, .ref 1, .int p]), .inr (9, [.int so, .ref 2, .ref 3, .ref 4, .int m]), z_ia 20 f', z_ia 20 g, .inr (11, [.ref 5]), z_ia 7 c'])) 0 [(0, _), (1, _)] [] _ 0 0
  refine j_aload_n dX5_putInPlace_0 rfl rfl ?_
  refine j_getf dX5_putInPlace_1 fX5_41 rfl rfl ?_
  refine j_iconst (v := 3) dX5_putInPlace_4 (by decide) ?_
  refine j_callV (q := (RX6, TX6, 1)) dX5_putInPlace_5 kX6_add lX5_42 inX6_add seX6_add rfl rfl (z_frame [4, 5] rfl (by decide) (Nat.le_of_ble_eq_true rfl) (c_X6_add hl _ _)) (Nat.le_of_ble_eq_true rfl) ⟨(Nat.le_of_ble_eq_true rfl), (Nat.le_of_ble_eq_true rfl)⟩ rfl (Nat.le_of_ble_eq_true rfl) rfl rfl (fun _ _ h => h.elim) ?_
  rintro _ _ ⟨_, _, ⟨rfl, _, rfl⟩, rfl, rfl⟩
  refine j_w ([.inr (10, [_, _, _, _, _]), .inr (9, [_, _, _, _, _]), z_ia 20 _, z_ia 20 _, .inr (11, [_]), z_ia 7 _], z_no) rfl ?_
  refine j_aload_n dX5_putInPlace_8 rfl rfl ?_
  refine j_getf dX5_putInPlace_9 fX5_15 rfl rfl ?_
  refine j_aload_n dX5_putInPlace_12 rfl rfl ?_
  refine j_getf dX5_putInPlace_13 fX5_32 rfl rfl ?_
  refine j_iload_n dX5_putInPlace_16 rfl ?_
  refine j_callV (q := (RX4, TX4, 5)) dX5_putInPlace_17 kX4_setValue lX5_48 inX4_setValue seX4_setValue rfl rfl (z_frame [1, 2, 3, 4, 5] rfl (by decide) (Nat.le_of_ble_eq_true rfl) (c_X4_setValue hl _ _ _ _ _ _ _)) (Nat.le_of_ble_eq_true rfl) ⟨(Nat.le_of_ble_eq_true rfl), (Nat.le_of_ble_eq_true rfl)⟩ rfl (Nat.le_of_ble_eq_true rfl) rfl rfl (fun _ _ h => h.elim) ?_
  rintro _ _ ⟨_, _, ⟨rfl, _, rfl⟩, rfl, rfl⟩
  refine j_w ([.inr (10, [_, _, _, _, _]), .inr (9, [_, _, _, _, _]), z_ia 20 _, z_ia 20 _, .inr (11, [_]), z_ia 7 _], z_no) rfl ?_
  refine j_iconst (v := 1) dX5_putInPlace_20 (by decide) ?_
  refine j_iret dX5_putInPlace_21 rfl rfl ?_ (Nat.le_of_ble_eq_true rfl) (Nat.le_of_ble_eq_true rfl)
  exact ⟨rfl, rfl, ⟨true, rfl⟩, _, _, rfl⟩
set_option maxRecDepth 100000 in
set_option maxHeartbeats 8000000 in
theorem c_X3_isMore (hl : l.stackTraces = false) (k u a to by9 : Int32) (c : Nat → Int32) : z_CF G l mX3_isMore 10 0 0 [.inr (8, [.ref 1, .int k, .int u, .int to, .int by9, .int a]), .inr (11, [.ref 2]), z_ia 7 c] [.ref 0] (fun v L => (∃ b : Bool, v = some (.int (z_bi b))) ∧ L = [.inr (8, [.ref 1, .int k, .int u, .int to, .int by9, .int a]), .inr (11, [.ref 2]), z_ia 7 c]) := by
  refine z_body hl (by decide) rfl (Nat.le_of_ble_eq_true rfl) ?_
  show z_J G l mX3_isMore (z_SF 10 0 0 [.inr (8, [.ref 1, .int k, .int u, .int to, .int by9, .int a]), .inr (11, [.ref 2]), z_ia 7 c] (fun v L => (∃ b : Bool, v = some (.int (z_bi b))) ∧ L = [.inr (8, [.ref 1, .int k, .int u, .int to, .int by9, .int a]), .inr (11, [.ref 2]), z_ia 7 c])) 0 [(0, _)] [] _ 0 0
  refine j_aload_n dX3_isMore_0 rfl rfl ?_
  refine j_getf dX3_isMore_1 fX3_12 rfl rfl ?_
  refine j_aload_n dX3_isMore_4 rfl rfl ?_
  refine j_getf dX3_isMore_5 fX3_18 rfl rfl ?_
  refine j_icmp_gt (tgt := 15) dX3_isMore_8 (by decide) (fun c_8 => ?_) (fun c_8 => ?_)
  · refine j_iconst (v := 0) dX3_isMore_15 (by decide) ?_
    refine j_iret dX3_isMore_16 rfl rfl ?_ (Nat.le_of_ble_eq_true rfl) (Nat.le_of_ble_eq_true rfl)
    first | exact ⟨rfl, rfl, ⟨true, rfl⟩, rfl⟩ | exact ⟨rfl, rfl, ⟨false, rfl⟩, rfl⟩
  · refine j_iconst (v := 1) dX3_isMore_11 (by decide) ?_
    refine j_goto (tgt := 16) dX3_isMore_12 (by decide) ?_
    refine j_iret dX3_isMore_16 rfl rfl ?_ (Nat.le_of_ble_eq_true rfl) (Nat.le_of_ble_eq_true rfl)
    first | exact ⟨rfl, rfl, ⟨true, rfl⟩, rfl⟩ | exact ⟨rfl, rfl, ⟨false, rfl⟩, rfl⟩
set_option maxRecDepth 100000 in
set_option maxHeartbeats 8000000 in
theorem c_X3_next (hl : l.stackTraces = false) (k u a to by9 : Int32) (c : Nat → Int32) : z_CF G l mX3_next 12 0 0 [.inr (8, [.ref 1, .int k, .int u, .int to, .int by9, .int a]), .inr (11, [.ref 2]), z_ia 7 c] [.ref 0] (fun v L => ∃ (x u' a' : Int32), v = some (.int x) ∧ L = [.inr (8, [.ref 1, .int k, .int u', .int to, .int by9, .int a']), .inr (11, [.ref 2]), z_ia 7 c]) := by
  refine z_body hl (by decide) rfl (Nat.le_of_ble_eq_true rfl) ?_
  show z_J G l mX3_next (z_SF 12 0 0 [.inr (8, [.ref 1, .int k, .int u, .int to, .int by9, .int a]), .inr (11, [.ref 2]), z_ia 7 c] (fun v L => ∃ (x u' a' : Int32), v = some (.int x) ∧ L = [.inr (8, [.ref 1, .int k, .int u', .int to, .int by9, .int a']), .inr (11, [.ref 2]), z_ia 7 c])) 0 [(0, _)] [] _ 0 0
  refine j_aload_n dX3_next_0 rfl rfl ?_
  refine j_aload_n dX3_next_1 rfl rfl ?_
  refine j_getf dX3_next_2 fX3_12 rfl rfl ?_
  refine j_put (w' := ([.inr (8, [_, _, _, _, _, _]), .inr (11, [_]), z_ia 7 _], z_no)) dX3_next_5 fX3_24 tX3_2 rfl ⟨rfl, rfl⟩ rfl ?_
  refine j_aload_n dX3_next_8 rfl rfl ?_
  refine j_dup dX3_next_9 rfl ?_
  refine j_getf dX3_next_10 fX3_12 rfl rfl ?_
  refine j_aload_n dX3_next_13 rfl rfl ?_
  refine j_getf dX3_next_14 fX3_21 rfl rfl ?_
  refine j_iadd dX3_next_17 ?_
  refine j_put (w' := ([.inr (8, [_, _, _, _, _, _]), .inr (11, [_]), z_ia 7 _], z_no)) dX3_next_18 fX3_12 tX3_5 rfl ⟨rfl, rfl⟩ rfl ?_
  refine j_aload_n dX3_next_21 rfl rfl ?_
  refine j_getf dX3_next_22 fX3_24 rfl rfl ?_
  refine j_iret dX3_next_25 rfl rfl ?_ (Nat.le_of_ble_eq_true rfl) (Nat.le_of_ble_eq_true rfl)
  exact ⟨rfl, rfl, _, _, _, rfl, rfl⟩
set_option maxRecDepth 100000 in
set_option maxHeartbeats 8000000 in
theorem c_X3_putInPlace (hl : l.stackTraces = false) (k u a to by9 : Int32) (c : Nat → Int32) (x : Int32) : z_CF G l mX3_putInPlace 10 0 0 [.inr (8, [.ref 1, .int k, .int u, .int to, .int by9, .int a]), .inr (11, [.ref 2]), z_ia 7 c] [.ref 0, .int x] (fun v L => (∃ b : Bool, v = some (.int (z_bi b))) ∧ L = [.inr (8, [.ref 1, .int k, .int u, .int to, .int by9, .int a]), .inr (11, [.ref 2]), z_ia 7 c]) := by
  refine z_body hl (by decide) rfl (Nat.le_of_ble_eq_true rfl) ?_
  show z_J G l mX3_putInPlace (z_SF 10 0 0 [.inr (8, [.ref 1, .int k, .int u, .int to, .int by9, .int a]), .inr (11, [.ref 2]), z_ia 7 c] (fun v L => (∃ b : Bool, v = some (.int (z_bi b))) ∧ L = [.inr (8, [.ref 1, .int k, .int u, .int to, .int by9, .int a]), .inr (11, [.ref 2]), z_ia 7 c])) 0 [(0, _), (1, _)] [] _ 0 0
  refine j_iconst (v := 0) dX3_putInPlace_0 (by decide) ?_
  refine j_iret dX3_putInPlace_1 rfl rfl ?_ (Nat.le_of_ble_eq_true rfl) (Nat.le_of_ble_eq_true rfl)
  exact ⟨rfl, rfl, ⟨false, rfl⟩, rfl⟩
set_option maxRecDepth 100000 in
set_option maxHeartbeats 8000000 in
theorem c_X7_ask_X2 (hl : l.stackTraces = false) (k u p m fx : Int32) (f c : Nat → Int32) : z_CF G l mX7_ask 13 0 0 [.inr (7, [.ref 3, .int k, .int u, .ref 1, .int p]), .inr (6, [.ref 2, .ref 3, .int m, .int fx]), z_ia 12 f, .inr (11, [.ref 4]), z_ia 7 c] [.ref 0] (fun v L => (∃ b : Bool, v = some (.int (z_bi b))) ∧ ∃ c' : Nat → Int32, L = [.inr (7, [.ref 3, .int k, .int u, .ref 1, .int p]), .inr (6, [.ref 2, .ref 3, .int m, .int fx]), z_ia 12 f, .inr (11, [.ref 4]), z_ia 7 c']) := by
  refine z_body hl (by decide) rfl (Nat.le_of_ble_eq_true rfl) ?_
  show z_J G l mX7_ask (z_SF 13 0 0 [.inr (7, [.ref 3, .int k, .int u, .ref 1, .int p]), .inr (6, [.ref 2, .ref 3, .int m, .int fx]), z_ia 12 f, .inr (11, [.ref 4]), z_ia 7 c] (fun v L => (∃ b : Bool, v = some (.int (z_bi b))) ∧ ∃ c' : Nat → Int32, L = [.inr (7, [.ref 3, .int k, .int u, .ref 1, .int p]), .inr (6, [.ref 2, .ref 3, .int m, .int fx]), z_ia 12 f, .inr (11, [.ref 4]), z_ia 7 c'])) 0 [(0, _)] [] _ 0 0
  refine j_aload_n dX7_ask_0 rfl rfl ?_
  refine j_getf dX7_ask_1 fX7_9_X2 rfl rfl ?_
  refine j_iconst (v := 1) dX7_ask_4 (by decide) ?_
  refine j_callV (q := (RX6, TX6, 1)) dX7_ask_5 kX6_add lX7_15 inX6_add seX6_add rfl rfl (z_frame [3, 4] rfl (by decide) (Nat.le_of_ble_eq_true rfl) (c_X6_add hl _ _)) (Nat.le_of_ble_eq_true rfl) ⟨(Nat.le_of_ble_eq_true rfl), (Nat.le_of_ble_eq_true rfl)⟩ rfl (Nat.le_of_ble_eq_true rfl) rfl rfl (fun _ _ h => h.elim) ?_
  rintro _ _ ⟨_, _, ⟨rfl, _, rfl⟩, rfl, rfl⟩
  refine j_w ([.inr (7, [_, _, _, _, _]), .inr (6, [_, _, _, _]), z_ia 12 _, .inr (11, [_]), z_ia 7 _], z_no) rfl ?_
  refine j_aload_n dX7_ask_8 rfl rfl ?_
  refine j_callU (q := (RX2, TX2, 5)) dX7_ask_9 kX2_isMore cuX7_21_X2 rfl rfl (z_frame [0, 1, 2, 3, 4] rfl (by decide) (Nat.le_of_ble_eq_true rfl) (c_X2_isMore hl _ _ _ _ _ _ _)) (Nat.le_of_ble_eq_true rfl) ⟨(Nat.le_of_ble_eq_true rfl), (Nat.le_of_ble_eq_true rfl)⟩ rfl (Nat.le_of_ble_eq_true rfl) rfl rfl (fun _ _ h => h.elim) ?_
  rintro _ _ ⟨_, _, ⟨⟨b, rfl⟩, rfl⟩, rfl, rfl⟩
  refine j_w ([.inr (7, [_, _, _, _, _]), .inr (6, [_, _, _, _]), z_ia 12 _, .inr (11, [_]), z_ia 7 _], z_no) rfl ?_
  refine j_iret dX7_ask_12 rfl (z_bn _) ?_ (Nat.le_of_ble_eq_true rfl) (Nat.le_of_ble_eq_true rfl)
  exact ⟨rfl, rfl, ⟨_, rfl⟩, _, rfl⟩
set_option maxRecDepth 100000 in
set_option maxHeartbeats 8000000 in
theorem c_X7_give_X2 (hl : l.stackTraces = false) (k u p m fx : Int32) (f c : Nat → Int32) : z_CF G l mX7_give 13 0 0 [.inr (7, [.ref 3, .int k, .int u, .ref 1, .int p]), .inr (6, [.ref 2, .ref 3, .int m, .int fx]), z_ia 12 f, .inr (11, [.ref 4]), z_ia 7 c] [.ref 0] (fun v L => ∃ x : Int32, v = some (.int x) ∧ ∃ (k' u' p' : Int32) (c' : Nat → Int32), L = [.inr (7, [.ref 3, .int k', .int u', .ref 1, .int p']), .inr (6, [.ref 2, .ref 3, .int m, .int fx]), z_ia 12 f, .inr (11, [.ref 4]), z_ia 7 c']) := by
  refine z_body hl (by decide) rfl (Nat.le_of_ble_eq_true rfl) ?_
  show z_J G l mX7_give (z_SF 13 0 0 [.inr (7, [.ref 3, .int k, .int u, .ref 1, .int p]), .inr (6, [.ref 2, .ref 3, .int m, .int fx]), z_ia 12 f, .inr (11, [.ref 4]), z_ia 7 c] (fun v L => ∃ x : Int32, v = some (.int x) ∧ ∃ (k' u' p' : Int32) (c' : Nat → Int32), L = [.inr (7, [.ref 3, .int k', .int u', .ref 1, .int p']), .inr (6, [.ref 2, .ref 3, .int m, .int fx]), z_ia 12 f, .inr (11, [.ref 4]), z_ia 7 c'])) 0 [(0, _)] [] _ 0 0
  refine j_aload_n dX7_give_0 rfl rfl ?_
  refine j_getf dX7_give_1 fX7_9_X2 rfl rfl ?_
  refine j_iconst (v := 2) dX7_give_4 (by decide) ?_
  refine j_callV (q := (RX6, TX6, 1)) dX7_give_5 kX6_add lX7_15 inX6_add seX6_add rfl rfl (z_frame [3, 4] rfl (by decide) (Nat.le_of_ble_eq_true rfl) (c_X6_add hl _ _)) (Nat.le_of_ble_eq_true rfl) ⟨(Nat.le_of_ble_eq_true rfl), (Nat.le_of_ble_eq_true rfl)⟩ rfl (Nat.le_of_ble_eq_true rfl) rfl rfl (fun _ _ h => h.elim) ?_
  rintro _ _ ⟨_, _, ⟨rfl, _, rfl⟩, rfl, rfl⟩
  refine j_w ([.inr (7, [_, _, _, _, _]), .inr (6, [_, _, _, _]), z_ia 12 _, .inr (11, [_]), z_ia 7 _], z_no) rfl ?_
  refine j_aload_n dX7_give_8 rfl rfl ?_
  refine j_callU (q := (RX2, TX2, 5)) dX7_give_9 kX2_next cuX7_25_X2 rfl rfl (z_frame [0, 1, 2, 3, 4] rfl (by decide) (Nat.le_of_ble_eq_true rfl) (c_X2_next hl _ _ _ _ _ _ _)) (Nat.le_of_ble_eq_true rfl) ⟨(Nat.le_of_ble_eq_true rfl), (Nat.le_of_ble_eq_true rfl)⟩ rfl (Nat.le_of_ble_eq_true rfl) rfl rfl (fun _ _ h => h.elim) ?_
  rintro _ _ ⟨_, _, ⟨_, _, _, rfl, rfl⟩, rfl, rfl⟩
  refine j_w ([.inr (7, [_, _, _, _, _]), .inr (6, [_, _, _, _]), z_ia 12 _, .inr (11, [_]), z_ia 7 _], z_no) rfl ?_
  refine j_iret dX7_give_12 rfl rfl ?_ (Nat.le_of_ble_eq_true rfl) (Nat.le_of_ble_eq_true rfl)
  exact ⟨rfl, rfl, _, rfl, _, _, _, _, rfl⟩
set_option maxRecDepth 100000 in
set_option maxHeartbeats 8000000 in
theorem c_X7_ask_X5 (hl : l.stackTraces = false) (k u p : Int32) (f g c : Nat → Int32) (m so : Int32) : z_CF G l mX7_ask 13 0 0 [.inr (10, [.ref 4, .int k, .int u, .ref 1, .int p]), .inr (9, [.int so, .ref 2, .ref 3, .ref 4, .int m]), z_ia 20 f, z_ia 20 g, .inr (11, [.ref 5]), z_ia 7 c] [.ref 0] (fun v L => (∃ b : Bool, v = some (.int (z_bi b))) ∧ ∃ c' : Nat → Int32, L = [.inr (10, [.ref 4, .int k, .int u, .ref 1, .int p]), .inr (9, [.int so, .ref 2, .ref 3, .ref 4, .int m]), z_ia 20 f, z_ia 20 g, .inr (11, [.ref 5]), z_ia 7 c']) := by
  refine z_body hl (by decide) rfl (Nat.le_of_ble_eq_true rfl) ?_
  show z_J G l mX7_ask (z_SF 13 0 0 [.inr (10, [.ref 4, .int k, .int u, .ref 1, .int p]), .inr (9, [.int so, .ref 2, .ref 3, .ref 4, .int m]), z_ia 20 f, z_ia 20 g, .inr (11, [.ref 5]), z_ia 7 c] (fun v L => (∃ b : Bool, v = some (.int (z_bi b))) ∧ ∃ c' : Nat → Int32, L = [.inr (10, [.ref 4, .int k, .int u, .ref 1, .int p]), .inr (9, [.int so, .ref 2, .ref 3, .ref 4, .int m]), z_ia 20 f, z_ia 20 g, .inr (11, [.ref 5]), z_ia 7 c'])) 0 [(0, _)] [] _ 0 0
  refine j_aload_n dX7_ask_0 rfl rfl ?_
  refine j_getf dX7_ask_1 fX7_9_X5 rfl rfl ?_
  refine j_iconst (v := 1) dX7_ask_4 (by decide) ?_
  refine j_callV (q := (RX6, TX6, 1)) dX7_ask_5 kX6_add lX7_15 inX6_add seX6_add rfl rfl (z_frame [4, 5] rfl (by decide) (Nat.le_of_ble_eq_true rfl) (c_X6_add hl _ _)) (Nat.le_of_ble_eq_true rfl) ⟨(Nat.le_of_ble_eq_true rfl), (Nat.le_of_ble_eq_true rfl)⟩ rfl (Nat.le_of_ble_eq_true rfl) rfl rfl (fun _ _ h => h.elim) ?_
  rintro _ _ ⟨_, _, ⟨rfl, _, rfl⟩, rfl, rfl⟩
  refine j_w ([.inr (10, [_, _, _, _, _]), .inr (9, [_, _, _, _, _]), z_ia 20 _, z_ia 20 _, .inr (11, [_]), z_ia 7 _], z_no) rfl ?_
  refine j_aload_n dX7_ask_8 rfl rfl ?_
  refine j_callU (q := (RX5, TX5, 5)) dX7_ask_9 kX5_isMore cuX7_21_X5 rfl rfl (z_frame [0, 1, 2, 3, 4, 5] rfl (by decide) (Nat.le_of_ble_eq_true rfl) (c_X5_isMore hl _ _ _ _ _ _ _ _)) (Nat.le_of_ble_eq_true rfl) ⟨(Nat.le_of_ble_eq_true rfl), (Nat.le_of_ble_eq_true rfl)⟩ rfl (Nat.le_of_ble_eq_true rfl) rfl rfl (fun _ _ h => h.elim) ?_
  rintro _ _ ⟨_, _, ⟨⟨b, rfl⟩, rfl⟩, rfl, rfl⟩
  refine j_w ([.inr (10, [_, _, _, _, _]), .inr (9, [_, _, _, _, _]), z_ia 20 _, z_ia 20 _, .inr (11, [_]), z_ia 7 _], z_no) rfl ?_
  refine j_iret dX7_ask_12 rfl (z_bn _) ?_ (Nat.le_of_ble_eq_true rfl) (Nat.le_of_ble_eq_true rfl)
  exact ⟨rfl, rfl, ⟨_, rfl⟩, _, rfl⟩
set_option maxRecDepth 100000 in
set_option maxHeartbeats 8000000 in
theorem c_X7_give_X5 (hl : l.stackTraces = false) (k u p : Int32) (f g c : Nat → Int32) (m so : Int32) : z_CF G l mX7_give 13 0 0 [.inr (10, [.ref 4, .int k, .int u, .ref 1, .int p]), .inr (9, [.int so, .ref 2, .ref 3, .ref 4, .int m]), z_ia 20 f, z_ia 20 g, .inr (11, [.ref 5]), z_ia 7 c] [.ref 0] (fun v L => ∃ x : Int32, v = some (.int x) ∧ ∃ (k' u' p' : Int32) (c' : Nat → Int32), L = [.inr (10, [.ref 4, .int k', .int u', .ref 1, .int p']), .inr (9, [.int so, .ref 2, .ref 3, .ref 4, .int m]), z_ia 20 f, z_ia 20 g, .inr (11, [.ref 5]), z_ia 7 c']) := by
  refine z_body hl (by decide) rfl (Nat.le_of_ble_eq_true rfl) ?_
  show z_J G l mX7_give (z_SF 13 0 0 [.inr (10, [.ref 4, .int k, .int u, .ref 1, .int p]), .inr (9, [.int so, .ref 2, .ref 3, .ref 4, .int m]), z_ia 20 f, z_ia 20 g, .inr (11, [.ref 5]), z_ia 7 c] (fun v L => ∃ x : Int32, v = some (.int x) ∧ ∃ (k' u' p' : Int32) (c' : Nat → Int32), L = [.inr (10, [.ref 4, .int k', .int u', .ref 1, .int p']), .inr (9, [.int so, .ref 2, .ref 3, .ref 4, .int m]), z_ia 20 f, z_ia 20 g, .inr (11, [.ref 5]), z_ia 7 c'])) 0 [(0, _)] [] _ 0 0
  refine j_aload_n dX7_give_0 rfl rfl ?_
  refine j_getf dX7_give_1 fX7_9_X5 rfl rfl ?_
  refine j_iconst (v := 2) dX7_give_4 (by decide) ?_
  refine j_callV (q := (RX6, TX6, 1)) dX7_give_5 kX6_add lX7_15 inX6_add seX6_add rfl rfl (z_frame [4, 5] rfl (by decide) (Nat.le_of_ble_eq_true rfl) (c_X6_add hl _ _)) (Nat.le_of_ble_eq_true rfl) ⟨(Nat.le_of_ble_eq_true rfl), (Nat.le_of_ble_eq_true rfl)⟩ rfl (Nat.le_of_ble_eq_true rfl) rfl rfl (fun _ _ h => h.elim) ?_
  rintro _ _ ⟨_, _, ⟨rfl, _, rfl⟩, rfl, rfl⟩
  refine j_w ([.inr (10, [_, _, _, _, _]), .inr (9, [_, _, _, _, _]), z_ia 20 _, z_ia 20 _, .inr (11, [_]), z_ia 7 _], z_no) rfl ?_
  refine j_aload_n dX7_give_8 rfl rfl ?_
  refine j_callU (q := (RX5, TX5, 5)) dX7_give_9 kX5_next cuX7_25_X5 rfl rfl (z_frame [0, 1, 2, 3, 4, 5] rfl (by decide) (Nat.le_of_ble_eq_true rfl) (c_X5_next hl _ _ _ _ _ _ _ _)) (Nat.le_of_ble_eq_true rfl) ⟨(Nat.le_of_ble_eq_true rfl), (Nat.le_of_ble_eq_true rfl)⟩ rfl (Nat.le_of_ble_eq_true rfl) rfl rfl (fun _ _ h => h.elim) ?_
  rintro _ _ ⟨_, _, ⟨_, _, _, _, rfl, rfl⟩, rfl, rfl⟩
  refine j_w ([.inr (10, [_, _, _, _, _]), .inr (9, [_, _, _, _, _]), z_ia 20 _, z_ia 20 _, .inr (11, [_]), z_ia 7 _], z_no) rfl ?_
  refine j_iret dX7_give_12 rfl rfl ?_ (Nat.le_of_ble_eq_true rfl) (Nat.le_of_ble_eq_true rfl)
  exact ⟨rfl, rfl, _, rfl, _, _, _, _, rfl⟩
set_option maxRecDepth 100000 in
set_option maxHeartbeats 8000000 in
theorem c_X7_ask_X3 (hl : l.stackTraces = false) (k u a to by9 : Int32) (c : Nat → Int32) : z_CF G l mX7_ask 13 0 0 [.inr (8, [.ref 1, .int k, .int u, .int to, .int by9, .int a]), .inr (11, [.ref 2]), z_ia 7 c] [.ref 0] (fun v L => (∃ b : Bool, v = some (.int (z_bi b))) ∧ ∃ c' : Nat → Int32, L = [.inr (8, [.ref 1, .int k, .int u, .int to, .int by9, .int a]), .inr (11, [.ref 2]), z_ia 7 c']) := by
  refine z_body hl (by decide) rfl (Nat.le_of_ble_eq_true rfl) ?_
  show z_J G l mX7_ask (z_SF 13 0 0 [.inr (8, [.ref 1, .int k, .int u, .int to, .int by9, .int a]), .inr (11, [.ref 2]), z_ia 7 c] (fun v L => (∃ b : Bool, v = some (.int (z_bi b))) ∧ ∃ c' : Nat → Int32, L = [.inr (8, [.ref 1, .int k, .int u, .int to, .int by9, .int a]), .inr (11, [.ref 2]), z_ia 7 c'])) 0 [(0, _)] [] _ 0 0
  refine j_aload_n dX7_ask_0 rfl rfl ?_
  refine j_getf dX7_ask_1 fX7_9_X3 rfl rfl ?_
  refine j_iconst (v := 1) dX7_ask_4 (by decide) ?_
  refine j_callV (q := (RX6, TX6, 1)) dX7_ask_5 kX6_add lX7_15 inX6_add seX6_add rfl rfl (z_frame [1, 2] rfl (by decide) (Nat.le_of_ble_eq_true rfl) (c_X6_add hl _ _)) (Nat.le_of_ble_eq_true rfl) ⟨(Nat.le_of_ble_eq_true rfl), (Nat.le_of_ble_eq_true rfl)⟩ rfl (Nat.le_of_ble_eq_true rfl) rfl rfl (fun _ _ h => h.elim) ?_
  rintro _ _ ⟨_, _, ⟨rfl, _, rfl⟩, rfl, rfl⟩
  refine j_w ([.inr (8, [_, _, _, _, _, _]), .inr (11, [_]), z_ia 7 _], z_no) rfl ?_
  refine j_aload_n dX7_ask_8 rfl rfl ?_
  refine j_callU (q := (RX3, TX3, 6)) dX7_ask_9 kX3_isMore cuX7_21_X3 rfl rfl (z_frame [0, 1, 2] rfl (by decide) (Nat.le_of_ble_eq_true rfl) (c_X3_isMore hl _ _ _ _ _ _)) (Nat.le_of_ble_eq_true rfl) ⟨(Nat.le_of_ble_eq_true rfl), (Nat.le_of_ble_eq_true rfl)⟩ rfl (Nat.le_of_ble_eq_true rfl) rfl rfl (fun _ _ h => h.elim) ?_
  rintro _ _ ⟨_, _, ⟨⟨b, rfl⟩, rfl⟩, rfl, rfl⟩
  refine j_w ([.inr (8, [_, _, _, _, _, _]), .inr (11, [_]), z_ia 7 _], z_no) rfl ?_
  refine j_iret dX7_ask_12 rfl (z_bn _) ?_ (Nat.le_of_ble_eq_true rfl) (Nat.le_of_ble_eq_true rfl)
  exact ⟨rfl, rfl, ⟨_, rfl⟩, _, rfl⟩
set_option maxRecDepth 100000 in
set_option maxHeartbeats 8000000 in
theorem c_X7_give_X3 (hl : l.stackTraces = false) (k u a to by9 : Int32) (c : Nat → Int32) : z_CF G l mX7_give 13 0 0 [.inr (8, [.ref 1, .int k, .int u, .int to, .int by9, .int a]), .inr (11, [.ref 2]), z_ia 7 c] [.ref 0] (fun v L => ∃ x : Int32, v = some (.int x) ∧ ∃ (k' u' a' : Int32) (c' : Nat → Int32), L = [.inr (8, [.ref 1, .int k', .int u', .int to, .int by9, .int a']), .inr (11, [.ref 2]), z_ia 7 c']) := by
  refine z_body hl (by decide) rfl (Nat.le_of_ble_eq_true rfl) ?_
  show z_J G l mX7_give (z_SF 13 0 0 [.inr (8, [.ref 1, .int k, .int u, .int to, .int by9, .int a]), .inr (11, [.ref 2]), z_ia 7 c] (fun v L => ∃ x : Int32, v = some (.int x) ∧ ∃ (k' u' a' : Int32) (c' : Nat → Int32), L = [.inr (8, [.ref 1, .int k', .int u', .int to, .int by9, .int a']), .inr (11, [.ref 2]), z_ia 7 c'])) 0 [(0, _)] [] _ 0 0
  refine j_aload_n dX7_give_0 rfl rfl ?_
  refine j_getf dX7_give_1 fX7_9_X3 rfl rfl ?_
  refine j_iconst (v := 2) dX7_give_4 (by decide) ?_
  refine j_callV (q := (RX6, TX6, 1)) dX7_give_5 kX6_add lX7_15 inX6_add seX6_add rfl rfl (z_frame [1, 2] rfl (by decide) (Nat.le_of_ble_eq_true rfl) (c_X6_add hl _ _)) (Nat.le_of_ble_eq_true rfl) ⟨(Nat.le_of_ble_eq_true rfl), (Nat.le_of_ble_eq_true rfl)⟩ rfl (Nat.le_of_ble_eq_true rfl) rfl rfl (fun _ _ h => h.elim) ?_
  rintro _ _ ⟨_, _, ⟨rfl, _, rfl⟩, rfl, rfl⟩
  refine j_w ([.inr (8, [_, _, _, _, _, _]), .inr (11, [_]), z_ia 7 _], z_no) rfl ?_
  refine j_aload_n dX7_give_8 rfl rfl ?_
  refine j_callU (q := (RX3, TX3, 6)) dX7_give_9 kX3_next cuX7_25_X3 rfl rfl (z_frame [0, 1, 2] rfl (by decide) (Nat.le_of_ble_eq_true rfl) (c_X3_next hl _ _ _ _ _ _)) (Nat.le_of_ble_eq_true rfl) ⟨(Nat.le_of_ble_eq_true rfl), (Nat.le_of_ble_eq_true rfl)⟩ rfl (Nat.le_of_ble_eq_true rfl) rfl rfl (fun _ _ h => h.elim) ?_
  rintro _ _ ⟨_, _, ⟨_, _, _, rfl, rfl⟩, rfl, rfl⟩
  refine j_w ([.inr (8, [_, _, _, _, _, _]), .inr (11, [_]), z_ia 7 _], z_no) rfl ?_
  refine j_iret dX7_give_12 rfl rfl ?_ (Nat.le_of_ble_eq_true rfl) (Nat.le_of_ble_eq_true rfl)
  exact ⟨rfl, rfl, _, rfl, _, _, _, _, rfl⟩
end ZL3
