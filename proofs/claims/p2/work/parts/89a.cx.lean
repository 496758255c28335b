section ZCx
variable {G : z_G} {l : Launch}
set_option maxRecDepth 100000 in
set_option maxHeartbeats 8000000 in
theorem c_X8_isEven_e (hl : l.stackTraces = false) (w : z_W) (a : Int32) : z_Con G l mX8_isEven 10 0 0 w [.int a] (fun v w9 => (v = some (.int (z_bi (q_ev a)))) ∧ w9 = w) (fun _ _ => False) := by
  refine z_body hl (by decide) rfl (Nat.le_of_ble_eq_true rfl) ?_
  show z_J G l mX8_isEven ((10, 0, 0, w, (fun v w9 => (v = some (.int (z_bi (q_ev a)))) ∧ w9 = w), fun _ _ => False)) 0 [(0, _)] [] _ 0 0
  refine j_iload_n dX8_isEven_0 rfl ?_
  refine j_iconst (v := 1) dX8_isEven_1 (by decide) ?_
  refine j_iand dX8_isEven_2 ?_
  refine j_if_ne (tgt := 10) dX8_isEven_3 (by decide) (fun c_3 => ?_) (fun c_3 => ?_)
  · refine j_iconst (v := 0) dX8_isEven_10 (by decide) ?_
    refine j_iret dX8_isEven_11 rfl rfl ?_ (Nat.le_of_ble_eq_true rfl) (Nat.le_of_ble_eq_true rfl)
    first | exact ⟨by rw [q_ev1 c_3]; rfl, rfl⟩ | exact ⟨by rw [q_ev0 c_3]; rfl, rfl⟩
  · refine j_iconst (v := 1) dX8_isEven_6 (by decide) ?_
    refine j_goto (tgt := 11) dX8_isEven_7 (by decide) ?_
    refine j_iret dX8_isEven_11 rfl rfl ?_ (Nat.le_of_ble_eq_true rfl) (Nat.le_of_ble_eq_true rfl)
    first | exact ⟨by rw [q_ev1 c_3]; rfl, rfl⟩ | exact ⟨by rw [q_ev0 c_3]; rfl, rfl⟩
set_option maxRecDepth 100000 in
set_option maxHeartbeats 8000000 in
theorem c_X8_bounded_e (hl : l.stackTraces = false) (w : z_W) (a : Int32) : z_Con G l mX8_bounded 10 0 0 w [.int a] (fun v w9 => (v = some (.int (q_bd a))) ∧ w9 = w) (fun _ _ => False) := by
  refine z_body hl (by decide) rfl (Nat.le_of_ble_eq_true rfl) ?_
  show z_J G l mX8_bounded ((10, 0, 0, w, (fun v w9 => (v = some (.int (q_bd a))) ∧ w9 = w), fun _ _ => False)) 0 [(0, _)] [] _ 0 0
  refine j_iload_n dX8_bounded_0 rfl ?_
  refine j_sipush (v := 999) dX8_bounded_1 (by decide) ?_
  refine j_icmp_le (tgt := 11) dX8_bounded_4 (by decide) (fun c_4 => ?_) (fun c_4 => ?_)
  · refine j_iload_n dX8_bounded_11 rfl ?_
    refine j_sipush (v := (-999)) dX8_bounded_12 (by decide) ?_
    refine j_icmp_ge (tgt := 24) dX8_bounded_15 (by decide) (fun c_15 => ?_) (fun c_15 => ?_)
    · refine j_iload_n dX8_bounded_24 rfl ?_
      refine j_iret dX8_bounded_25 rfl rfl ?_ (Nat.le_of_ble_eq_true rfl) (Nat.le_of_ble_eq_true rfl)
      first | exact ⟨by rw [q_bd1 (Int32.not_le.mp c_4)], rfl⟩ | exact ⟨by rw [q_bd2 (Int32.not_le.mp c_15)], rfl⟩ | exact ⟨by rw [q_bd3 (Int32.not_lt.mpr c_15) (Int32.not_lt.mpr c_4)], rfl⟩
    · refine j_sipush (v := (-999)) dX8_bounded_18 (by decide) ?_
      refine j_goto (tgt := 25) dX8_bounded_21 (by decide) ?_
      refine j_iret dX8_bounded_25 rfl rfl ?_ (Nat.le_of_ble_eq_true rfl) (Nat.le_of_ble_eq_true rfl)
      first | exact ⟨by rw [q_bd1 (Int32.not_le.mp c_4)], rfl⟩ | exact ⟨by rw [q_bd2 (Int32.not_le.mp c_15)], rfl⟩ | exact ⟨by rw [q_bd3 (Int32.not_lt.mpr c_15) (Int32.not_lt.mpr c_4)], rfl⟩
  · refine j_sipush (v := 999) dX8_bounded_7 (by decide) ?_
    refine j_iret dX8_bounded_10 rfl rfl ?_ (Nat.le_of_ble_eq_true rfl) (Nat.le_of_ble_eq_true rfl)
    first | exact ⟨by rw [q_bd1 (Int32.not_le.mp c_4)], rfl⟩ | exact ⟨by rw [q_bd2 (Int32.not_le.mp c_15)], rfl⟩ | exact ⟨by rw [q_bd3 (Int32.not_lt.mpr c_15) (Int32.not_lt.mpr c_4)], rfl⟩
set_option maxRecDepth 100000 in
set_option maxHeartbeats 8000000 in
theorem c_X8_ruleTells_e (hl : l.stackTraces = false) (w : z_W) (a b c e : Int32) : z_Con G l mX8_ruleTells 11 0 0 w [.int a, .int b, .int c, .int e] (fun v w9 => (v = some (.int ((q_rt a b (q_d c) e).getD (-1001)))) ∧ w9 = w) (fun _ _ => False) := by
  refine z_body hl (by decide) rfl (Nat.le_of_ble_eq_true rfl) ?_
  show z_J G l mX8_ruleTells ((11, 0, 0, w, (fun v w9 => (v = some (.int ((q_rt a b (q_d c) e).getD (-1001)))) ∧ w9 = w), fun _ _ => False)) 0 [(0, _), (1, _), (2, _), (3, _)] [] _ 0 0
  refine j_iload_n dX8_ruleTells_0 rfl ?_
  refine j_sipush (v := (-1000)) dX8_ruleTells_1 (by decide) ?_
  refine j_icmp_ne (tgt := 11) dX8_ruleTells_4 (by decide) (fun c_4 => ?_) (fun c_4 => ?_)
  · have hd : q_d c = c := if_neg c_4
    refine j_iload_n dX8_ruleTells_11 rfl ?_
    refine j_istore (lo' := [(4, _), (0, _), (1, _), (2, _), (3, _)]) dX8_ruleTells_12 (by decide) rfl ?_
    refine j_iload dX8_ruleTells_14 rfl ?_
    refine j_iload_n dX8_ruleTells_16 rfl ?_
    refine j_iadd dX8_ruleTells_17 ?_
    refine j_callS dX8_ruleTells_18 kX8_bounded lX8_309 stX8_bounded (c_X8_bounded_e hl _ _) (Nat.le_of_ble_eq_true rfl) ⟨(Nat.le_of_ble_eq_true rfl), (Nat.le_of_ble_eq_true rfl)⟩ rfl (Nat.le_of_ble_eq_true rfl) rfl rfl (fun _ _ h => h.elim) ?_
    rintro _ _ ⟨rfl, rfl⟩
    refine j_istore (lo' := [(5, _), (4, _), (0, _), (1, _), (2, _), (3, _)]) dX8_ruleTells_21 (by decide) rfl ?_
    refine j_iload_n dX8_ruleTells_23 rfl ?_
    rcases z_sw5 a with rfl | rfl | rfl | rfl | rfl | hp
    · refine j_tsIn (tgt := 60) dX8_ruleTells_24 (by decide) (by decide) rfl (by decide) ?_
      refine j_iload dX8_ruleTells_60 rfl ?_
      refine j_iret dX8_ruleTells_62 rfl rfl ?_ (Nat.le_of_ble_eq_true rfl) (Nat.le_of_ble_eq_true rfl)
      exact ⟨by rw [hd]; rfl, rfl⟩
    · refine j_tsIn (tgt := 63) dX8_ruleTells_24 (by decide) (by decide) rfl (by decide) ?_
      refine j_iload dX8_ruleTells_63 rfl ?_
      refine j_iload_n dX8_ruleTells_65 rfl ?_
      refine j_icmp_le (tgt := 74) dX8_ruleTells_66 (by decide) (fun c_66 => ?_) (fun c_66 => ?_)
      · refine j_iload_n dX8_ruleTells_74 rfl ?_
        refine j_iret dX8_ruleTells_75 rfl rfl ?_ (Nat.le_of_ble_eq_true rfl) (Nat.le_of_ble_eq_true rfl)
        first | exact ⟨by rw [hd, q_rt1, q_mx2 c_66]; rfl, rfl⟩ | exact ⟨by rw [hd, q_rt1, q_mx1 (Int32.not_le.mp c_66)]; rfl, rfl⟩
      · refine j_iload dX8_ruleTells_69 rfl ?_
        refine j_goto (tgt := 75) dX8_ruleTells_71 (by decide) ?_
        refine j_iret dX8_ruleTells_75 rfl rfl ?_ (Nat.le_of_ble_eq_true rfl) (Nat.le_of_ble_eq_true rfl)
        first | exact ⟨by rw [hd, q_rt1, q_mx2 c_66]; rfl, rfl⟩ | exact ⟨by rw [hd, q_rt1, q_mx1 (Int32.not_le.mp c_66)]; rfl, rfl⟩
    · refine j_tsIn (tgt := 76) dX8_ruleTells_24 (by decide) (by decide) rfl (by decide) ?_
      refine j_iload dX8_ruleTells_76 rfl ?_
      refine j_callS dX8_ruleTells_78 kX8_isEven lX8_312 stX8_isEven (c_X8_isEven_e hl _ _) (Nat.le_of_ble_eq_true rfl) ⟨(Nat.le_of_ble_eq_true rfl), (Nat.le_of_ble_eq_true rfl)⟩ rfl (Nat.le_of_ble_eq_true rfl) rfl rfl (fun _ _ h => h.elim) ?_
      rintro _ _ ⟨rfl, rfl⟩
      refine j_if_eq (tgt := 89) dX8_ruleTells_81 (by decide) (fun c_81 => ?_) (fun c_81 => ?_)
      · refine j_sipush (v := (-1000)) dX8_ruleTells_89 (by decide) ?_
        refine j_iret dX8_ruleTells_92 rfl rfl ?_ (Nat.le_of_ble_eq_true rfl) (Nat.le_of_ble_eq_true rfl)
        first | exact ⟨by rw [hd, q_rt2, z_bF c_81]; rfl, rfl⟩ | exact ⟨by rw [hd, q_rt2, z_bt c_81]; rfl, rfl⟩
      · refine j_iload dX8_ruleTells_84 rfl ?_
        refine j_goto (tgt := 92) dX8_ruleTells_86 (by decide) ?_
        refine j_iret dX8_ruleTells_92 rfl rfl ?_ (Nat.le_of_ble_eq_true rfl) (Nat.le_of_ble_eq_true rfl)
        first | exact ⟨by rw [hd, q_rt2, z_bF c_81]; rfl, rfl⟩ | exact ⟨by rw [hd, q_rt2, z_bt c_81]; rfl, rfl⟩
    · refine j_tsIn (tgt := 93) dX8_ruleTells_24 (by decide) (by decide) rfl (by decide) ?_
      refine j_sipush (v := (-1000)) dX8_ruleTells_93 (by decide) ?_
      refine j_iret dX8_ruleTells_96 rfl rfl ?_ (Nat.le_of_ble_eq_true rfl) (Nat.le_of_ble_eq_true rfl)
      exact ⟨rfl, rfl⟩
    · refine j_tsIn (tgt := 97) dX8_ruleTells_24 (by decide) (by decide) rfl (by decide) ?_
      refine j_iload dX8_ruleTells_97 rfl ?_
      refine j_callS dX8_ruleTells_99 kX8_isEven lX8_312 stX8_isEven (c_X8_isEven_e hl _ _) (Nat.le_of_ble_eq_true rfl) ⟨(Nat.le_of_ble_eq_true rfl), (Nat.le_of_ble_eq_true rfl)⟩ rfl (Nat.le_of_ble_eq_true rfl) rfl rfl (fun _ _ h => h.elim) ?_
      rintro _ _ ⟨rfl, rfl⟩
      refine j_if_eq (tgt := 110) dX8_ruleTells_102 (by decide) (fun c_102 => ?_) (fun c_102 => ?_)
      · refine j_sipush (v := (-1001)) dX8_ruleTells_110 (by decide) ?_
        refine j_iret dX8_ruleTells_113 rfl rfl ?_ (Nat.le_of_ble_eq_true rfl) (Nat.le_of_ble_eq_true rfl)
        first | exact ⟨by rw [hd, q_rt4, z_bF c_102]; rfl, rfl⟩ | exact ⟨by rw [hd, q_rt4, z_bt c_102]; rfl, rfl⟩
      · refine j_iload dX8_ruleTells_105 rfl ?_
        refine j_goto (tgt := 113) dX8_ruleTells_107 (by decide) ?_
        refine j_iret dX8_ruleTells_113 rfl rfl ?_ (Nat.le_of_ble_eq_true rfl) (Nat.le_of_ble_eq_true rfl)
        first | exact ⟨by rw [hd, q_rt4, z_bF c_102]; rfl, rfl⟩ | exact ⟨by rw [hd, q_rt4, z_bt c_102]; rfl, rfl⟩
    · refine j_tsOut (tgt := 114) dX8_ruleTells_24 hp (by decide) ?_
      refine j_iload_n dX8_ruleTells_114 rfl ?_
      refine j_iload_n dX8_ruleTells_115 rfl ?_
      refine j_iadd dX8_ruleTells_116 ?_
      refine j_callS dX8_ruleTells_117 kX8_bounded lX8_309 stX8_bounded (c_X8_bounded_e hl _ _) (Nat.le_of_ble_eq_true rfl) ⟨(Nat.le_of_ble_eq_true rfl), (Nat.le_of_ble_eq_true rfl)⟩ rfl (Nat.le_of_ble_eq_true rfl) rfl rfl (fun _ _ h => h.elim) ?_
      rintro _ _ ⟨rfl, rfl⟩
      refine j_iret dX8_ruleTells_120 rfl rfl ?_ (Nat.le_of_ble_eq_true rfl) (Nat.le_of_ble_eq_true rfl)
      exact ⟨by rw [q_rt5 hp]; rfl, rfl⟩
  · have hd : q_d c = 0 := if_pos c_4
    refine j_iconst (v := 0) dX8_ruleTells_7 (by decide) ?_
    refine j_goto (tgt := 12) dX8_ruleTells_8 (by decide) ?_
    refine j_istore (lo' := [(4, _), (0, _), (1, _), (2, _), (3, _)]) dX8_ruleTells_12 (by decide) rfl ?_
    refine j_iload dX8_ruleTells_14 rfl ?_
    refine j_iload_n dX8_ruleTells_16 rfl ?_
    refine j_iadd dX8_ruleTells_17 ?_
    refine j_callS dX8_ruleTells_18 kX8_bounded lX8_309 stX8_bounded (c_X8_bounded_e hl _ _) (Nat.le_of_ble_eq_true rfl) ⟨(Nat.le_of_ble_eq_true rfl), (Nat.le_of_ble_eq_true rfl)⟩ rfl (Nat.le_of_ble_eq_true rfl) rfl rfl (fun _ _ h => h.elim) ?_
    rintro _ _ ⟨rfl, rfl⟩
    refine j_istore (lo' := [(5, _), (4, _), (0, _), (1, _), (2, _), (3, _)]) dX8_ruleTells_21 (by decide) rfl ?_
    refine j_iload_n dX8_ruleTells_23 rfl ?_
    rcases z_sw5 a with rfl | rfl | rfl | rfl | rfl | hp
    · refine j_tsIn (tgt := 60) dX8_ruleTells_24 (by decide) (by decide) rfl (by decide) ?_
      refine j_iload dX8_ruleTells_60 rfl ?_
      refine j_iret dX8_ruleTells_62 rfl rfl ?_ (Nat.le_of_ble_eq_true rfl) (Nat.le_of_ble_eq_true rfl)
      exact ⟨by rw [hd]; rfl, rfl⟩
    · refine j_tsIn (tgt := 63) dX8_ruleTells_24 (by decide) (by decide) rfl (by decide) ?_
      refine j_iload dX8_ruleTells_63 rfl ?_
      refine j_iload_n dX8_ruleTells_65 rfl ?_
      refine j_icmp_le (tgt := 74) dX8_ruleTells_66 (by decide) (fun c_66 => ?_) (fun c_66 => ?_)
      · refine j_iload_n dX8_ruleTells_74 rfl ?_
        refine j_iret dX8_ruleTells_75 rfl rfl ?_ (Nat.le_of_ble_eq_true rfl) (Nat.le_of_ble_eq_true rfl)
        first | exact ⟨by rw [hd, q_rt1, q_mx2 c_66]; rfl, rfl⟩ | exact ⟨by rw [hd, q_rt1, q_mx1 (Int32.not_le.mp c_66)]; rfl, rfl⟩
      · refine j_iload dX8_ruleTells_69 rfl ?_
        refine j_goto (tgt := 75) dX8_ruleTells_71 (by decide) ?_
        refine j_iret dX8_ruleTells_75 rfl rfl ?_ (Nat.le_of_ble_eq_true rfl) (Nat.le_of_ble_eq_true rfl)
        first | exact ⟨by rw [hd, q_rt1, q_mx2 c_66]; rfl, rfl⟩ | exact ⟨by rw [hd, q_rt1, q_mx1 (Int32.not_le.mp c_66)]; rfl, rfl⟩
    · refine j_tsIn (tgt := 76) dX8_ruleTells_24 (by decide) (by decide) rfl (by decide) ?_
      refine j_iload dX8_ruleTells_76 rfl ?_
      refine j_callS dX8_ruleTells_78 kX8_isEven lX8_312 stX8_isEven (c_X8_isEven_e hl _ _) (Nat.le_of_ble_eq_true rfl) ⟨(Nat.le_of_ble_eq_true rfl), (Nat.le_of_ble_eq_true rfl)⟩ rfl (Nat.le_of_ble_eq_true rfl) rfl rfl (fun _ _ h => h.elim) ?_
      rintro _ _ ⟨rfl, rfl⟩
      refine j_if_eq (tgt := 89) dX8_ruleTells_81 (by decide) (fun c_81 => ?_) (fun c_81 => ?_)
      · refine j_sipush (v := (-1000)) dX8_ruleTells_89 (by decide) ?_
        refine j_iret dX8_ruleTells_92 rfl rfl ?_ (Nat.le_of_ble_eq_true rfl) (Nat.le_of_ble_eq_true rfl)
        first | exact ⟨by rw [hd, q_rt2, z_bF c_81]; rfl, rfl⟩ | exact ⟨by rw [hd, q_rt2, z_bt c_81]; rfl, rfl⟩
      · refine j_iload dX8_ruleTells_84 rfl ?_
        refine j_goto (tgt := 92) dX8_ruleTells_86 (by decide) ?_
        refine j_iret dX8_ruleTells_92 rfl rfl ?_ (Nat.le_of_ble_eq_true rfl) (Nat.le_of_ble_eq_true rfl)
        first | exact ⟨by rw [hd, q_rt2, z_bF c_81]; rfl, rfl⟩ | exact ⟨by rw [hd, q_rt2, z_bt c_81]; rfl, rfl⟩
    · refine j_tsIn (tgt := 93) dX8_ruleTells_24 (by decide) (by decide) rfl (by decide) ?_
      refine j_sipush (v := (-1000)) dX8_ruleTells_93 (by decide) ?_
      refine j_iret dX8_ruleTells_96 rfl rfl ?_ (Nat.le_of_ble_eq_true rfl) (Nat.le_of_ble_eq_true rfl)
      exact ⟨rfl, rfl⟩
    · refine j_tsIn (tgt := 97) dX8_ruleTells_24 (by decide) (by decide) rfl (by decide) ?_
      refine j_iload dX8_ruleTells_97 rfl ?_
      refine j_callS dX8_ruleTells_99 kX8_isEven lX8_312 stX8_isEven (c_X8_isEven_e hl _ _) (Nat.le_of_ble_eq_true rfl) ⟨(Nat.le_of_ble_eq_true rfl), (Nat.le_of_ble_eq_true rfl)⟩ rfl (Nat.le_of_ble_eq_true rfl) rfl rfl (fun _ _ h => h.elim) ?_
      rintro _ _ ⟨rfl, rfl⟩
      refine j_if_eq (tgt := 110) dX8_ruleTells_102 (by decide) (fun c_102 => ?_) (fun c_102 => ?_)
      · refine j_sipush (v := (-1001)) dX8_ruleTells_110 (by decide) ?_
        refine j_iret dX8_ruleTells_113 rfl rfl ?_ (Nat.le_of_ble_eq_true rfl) (Nat.le_of_ble_eq_true rfl)
        first | exact ⟨by rw [hd, q_rt4, z_bF c_102]; rfl, rfl⟩ | exact ⟨by rw [hd, q_rt4, z_bt c_102]; rfl, rfl⟩
      · refine j_iload dX8_ruleTells_105 rfl ?_
        refine j_goto (tgt := 113) dX8_ruleTells_107 (by decide) ?_
        refine j_iret dX8_ruleTells_113 rfl rfl ?_ (Nat.le_of_ble_eq_true rfl) (Nat.le_of_ble_eq_true rfl)
        first | exact ⟨by rw [hd, q_rt4, z_bF c_102]; rfl, rfl⟩ | exact ⟨by rw [hd, q_rt4, z_bt c_102]; rfl, rfl⟩
    · refine j_tsOut (tgt := 114) dX8_ruleTells_24 hp (by decide) ?_
      refine j_iload_n dX8_ruleTells_114 rfl ?_
      refine j_iload_n dX8_ruleTells_115 rfl ?_
      refine j_iadd dX8_ruleTells_116 ?_
      refine j_callS dX8_ruleTells_117 kX8_bounded lX8_309 stX8_bounded (c_X8_bounded_e hl _ _) (Nat.le_of_ble_eq_true rfl) ⟨(Nat.le_of_ble_eq_true rfl), (Nat.le_of_ble_eq_true rfl)⟩ rfl (Nat.le_of_ble_eq_true rfl) rfl rfl (fun _ _ h => h.elim) ?_
      rintro _ _ ⟨rfl, rfl⟩
      refine j_iret dX8_ruleTells_120 rfl rfl ?_ (Nat.le_of_ble_eq_true rfl) (Nat.le_of_ble_eq_true rfl)
      exact ⟨by rw [q_rt5 hp]; rfl, rfl⟩
set_option maxRecDepth 100000 in
set_option maxHeartbeats 8000000 in
theorem c_X8_testTells_e (hl : l.stackTraces = false) (w : z_W) (a b c : Int32) : z_Con G l mX8_testTells 11 0 0 w [.int a, .int b, .int c] (fun v w9 => (v = some (.int ((q_tt a b c).getD (-1001)))) ∧ w9 = w) (fun _ _ => False) := by
  refine z_body hl (by decide) rfl (Nat.le_of_ble_eq_true rfl) ?_
  show z_J G l mX8_testTells ((11, 0, 0, w, (fun v w9 => (v = some (.int ((q_tt a b c).getD (-1001)))) ∧ w9 = w), fun _ _ => False)) 0 [(0, _), (1, _), (2, _)] [] _ 0 0
  refine j_iload_n dX8_testTells_0 rfl ?_
  rcases z_sw5 a with rfl | rfl | rfl | rfl | rfl | hp
  · refine j_tsIn (tgt := 36) dX8_testTells_1 (by decide) (by decide) rfl (by decide) ?_
    refine j_iload_n dX8_testTells_36 rfl ?_
    refine j_callS dX8_testTells_37 kX8_isEven lX8_312 stX8_isEven (c_X8_isEven_e hl _ _) (Nat.le_of_ble_eq_true rfl) ⟨(Nat.le_of_ble_eq_true rfl), (Nat.le_of_ble_eq_true rfl)⟩ rfl (Nat.le_of_ble_eq_true rfl) rfl rfl (fun _ _ h => h.elim) ?_
    rintro _ _ ⟨rfl, rfl⟩
    refine j_callS dX8_testTells_40 kX8_oneIf lX8_83 stX8_oneIf (c_X8_oneIf_b hl _ _) (Nat.le_of_ble_eq_true rfl) ⟨(Nat.le_of_ble_eq_true rfl), (Nat.le_of_ble_eq_true rfl)⟩ rfl (Nat.le_of_ble_eq_true rfl) rfl rfl (fun _ _ h => h.elim) ?_
    rintro _ _ ⟨rfl, rfl⟩
    refine j_iret dX8_testTells_43 rfl rfl ?_ (Nat.le_of_ble_eq_true rfl) (Nat.le_of_ble_eq_true rfl)
    exact ⟨rfl, rfl⟩
  · refine j_tsIn (tgt := 44) dX8_testTells_1 (by decide) (by decide) rfl (by decide) ?_
    refine j_iload_n dX8_testTells_44 rfl ?_
    refine j_callS dX8_testTells_45 kX8_isEven lX8_312 stX8_isEven (c_X8_isEven_e hl _ _) (Nat.le_of_ble_eq_true rfl) ⟨(Nat.le_of_ble_eq_true rfl), (Nat.le_of_ble_eq_true rfl)⟩ rfl (Nat.le_of_ble_eq_true rfl) rfl rfl (fun _ _ h => h.elim) ?_
    rintro _ _ ⟨rfl, rfl⟩
    refine j_if_ne (tgt := 55) dX8_testTells_48 (by decide) (fun c_48 => ?_) (fun c_48 => ?_)
    · refine j_iconst (v := 0) dX8_testTells_55 (by decide) ?_
      refine j_callS dX8_testTells_56 kX8_oneIf lX8_83 stX8_oneIf (c_X8_oneIf_b hl _ false) (Nat.le_of_ble_eq_true rfl) ⟨(Nat.le_of_ble_eq_true rfl), (Nat.le_of_ble_eq_true rfl)⟩ rfl (Nat.le_of_ble_eq_true rfl) rfl rfl (fun _ _ h => h.elim) ?_
      rintro _ _ ⟨rfl, rfl⟩
      refine j_iret dX8_testTells_59 rfl rfl ?_ (Nat.le_of_ble_eq_true rfl) (Nat.le_of_ble_eq_true rfl)
      first | exact ⟨by rw [q_tt1, z_bF c_48]; rfl, rfl⟩ | exact ⟨by rw [q_tt1, z_bt c_48]; rfl, rfl⟩
    · refine j_iconst (v := 1) dX8_testTells_51 (by decide) ?_
      refine j_goto (tgt := 56) dX8_testTells_52 (by decide) ?_
      refine j_callS dX8_testTells_56 kX8_oneIf lX8_83 stX8_oneIf (c_X8_oneIf_b hl _ true) (Nat.le_of_ble_eq_true rfl) ⟨(Nat.le_of_ble_eq_true rfl), (Nat.le_of_ble_eq_true rfl)⟩ rfl (Nat.le_of_ble_eq_true rfl) rfl rfl (fun _ _ h => h.elim) ?_
      rintro _ _ ⟨rfl, rfl⟩
      refine j_iret dX8_testTells_59 rfl rfl ?_ (Nat.le_of_ble_eq_true rfl) (Nat.le_of_ble_eq_true rfl)
      first | exact ⟨by rw [q_tt1, z_bF c_48]; rfl, rfl⟩ | exact ⟨by rw [q_tt1, z_bt c_48]; rfl, rfl⟩
  · refine j_tsIn (tgt := 60) dX8_testTells_1 (by decide) (by decide) rfl (by decide) ?_
    refine j_iload_n dX8_testTells_60 rfl ?_
    refine j_iload_n dX8_testTells_61 rfl ?_
    refine j_icmp_ge (tgt := 69) dX8_testTells_62 (by decide) (fun c_62 => ?_) (fun c_62 => ?_)
    · refine j_iconst (v := 0) dX8_testTells_69 (by decide) ?_
      refine j_callS dX8_testTells_70 kX8_oneIf lX8_83 stX8_oneIf (c_X8_oneIf_b hl _ false) (Nat.le_of_ble_eq_true rfl) ⟨(Nat.le_of_ble_eq_true rfl), (Nat.le_of_ble_eq_true rfl)⟩ rfl (Nat.le_of_ble_eq_true rfl) rfl rfl (fun _ _ h => h.elim) ?_
      rintro _ _ ⟨rfl, rfl⟩
      refine j_iret dX8_testTells_73 rfl rfl ?_ (Nat.le_of_ble_eq_true rfl) (Nat.le_of_ble_eq_true rfl)
      first | exact ⟨by rw [q_tt2, decide_eq_false (Int32.not_lt.mpr c_62)]; rfl, rfl⟩ | exact ⟨by rw [q_tt2, decide_eq_true (Int32.not_le.mp c_62)]; rfl, rfl⟩
    · refine j_iconst (v := 1) dX8_testTells_65 (by decide) ?_
      refine j_goto (tgt := 70) dX8_testTells_66 (by decide) ?_
      refine j_callS dX8_testTells_70 kX8_oneIf lX8_83 stX8_oneIf (c_X8_oneIf_b hl _ true) (Nat.le_of_ble_eq_true rfl) ⟨(Nat.le_of_ble_eq_true rfl), (Nat.le_of_ble_eq_true rfl)⟩ rfl (Nat.le_of_ble_eq_true rfl) rfl rfl (fun _ _ h => h.elim) ?_
      rintro _ _ ⟨rfl, rfl⟩
      refine j_iret dX8_testTells_73 rfl rfl ?_ (Nat.le_of_ble_eq_true rfl) (Nat.le_of_ble_eq_true rfl)
      first | exact ⟨by rw [q_tt2, decide_eq_false (Int32.not_lt.mpr c_62)]; rfl, rfl⟩ | exact ⟨by rw [q_tt2, decide_eq_true (Int32.not_le.mp c_62)]; rfl, rfl⟩
  · refine j_tsIn (tgt := 74) dX8_testTells_1 (by decide) (by decide) rfl (by decide) ?_
    refine j_iload_n dX8_testTells_74 rfl ?_
    refine j_iload_n dX8_testTells_75 rfl ?_
    refine j_icmp_le (tgt := 83) dX8_testTells_76 (by decide) (fun c_76 => ?_) (fun c_76 => ?_)
    · refine j_iconst (v := 0) dX8_testTells_83 (by decide) ?_
      refine j_callS dX8_testTells_84 kX8_oneIf lX8_83 stX8_oneIf (c_X8_oneIf_b hl _ false) (Nat.le_of_ble_eq_true rfl) ⟨(Nat.le_of_ble_eq_true rfl), (Nat.le_of_ble_eq_true rfl)⟩ rfl (Nat.le_of_ble_eq_true rfl) rfl rfl (fun _ _ h => h.elim) ?_
      rintro _ _ ⟨rfl, rfl⟩
      refine j_iret dX8_testTells_87 rfl rfl ?_ (Nat.le_of_ble_eq_true rfl) (Nat.le_of_ble_eq_true rfl)
      first | exact ⟨by rw [q_tt3, decide_eq_false (Int32.not_lt.mpr c_76)]; rfl, rfl⟩ | exact ⟨by rw [q_tt3, decide_eq_true (Int32.not_le.mp c_76)]; rfl, rfl⟩
    · refine j_iconst (v := 1) dX8_testTells_79 (by decide) ?_
      refine j_goto (tgt := 84) dX8_testTells_80 (by decide) ?_
      refine j_callS dX8_testTells_84 kX8_oneIf lX8_83 stX8_oneIf (c_X8_oneIf_b hl _ true) (Nat.le_of_ble_eq_true rfl) ⟨(Nat.le_of_ble_eq_true rfl), (Nat.le_of_ble_eq_true rfl)⟩ rfl (Nat.le_of_ble_eq_true rfl) rfl rfl (fun _ _ h => h.elim) ?_
      rintro _ _ ⟨rfl, rfl⟩
      refine j_iret dX8_testTells_87 rfl rfl ?_ (Nat.le_of_ble_eq_true rfl) (Nat.le_of_ble_eq_true rfl)
      first | exact ⟨by rw [q_tt3, decide_eq_false (Int32.not_lt.mpr c_76)]; rfl, rfl⟩ | exact ⟨by rw [q_tt3, decide_eq_true (Int32.not_le.mp c_76)]; rfl, rfl⟩
  · refine j_tsIn (tgt := 88) dX8_testTells_1 (by decide) (by decide) rfl (by decide) ?_
    refine j_iload_n dX8_testTells_88 rfl ?_
    refine j_iload_n dX8_testTells_89 rfl ?_
    refine j_icmp_ne (tgt := 97) dX8_testTells_90 (by decide) (fun c_90 => ?_) (fun c_90 => ?_)
    · refine j_iconst (v := 0) dX8_testTells_97 (by decide) ?_
      refine j_callS dX8_testTells_98 kX8_oneIf lX8_83 stX8_oneIf (c_X8_oneIf_b hl _ false) (Nat.le_of_ble_eq_true rfl) ⟨(Nat.le_of_ble_eq_true rfl), (Nat.le_of_ble_eq_true rfl)⟩ rfl (Nat.le_of_ble_eq_true rfl) rfl rfl (fun _ _ h => h.elim) ?_
      rintro _ _ ⟨rfl, rfl⟩
      refine j_iret dX8_testTells_101 rfl rfl ?_ (Nat.le_of_ble_eq_true rfl) (Nat.le_of_ble_eq_true rfl)
      first | exact ⟨by rw [q_tt4, decide_eq_false c_90]; rfl, rfl⟩ | exact ⟨by rw [q_tt4, decide_eq_true c_90]; rfl, rfl⟩
    · refine j_iconst (v := 1) dX8_testTells_93 (by decide) ?_
      refine j_goto (tgt := 98) dX8_testTells_94 (by decide) ?_
      refine j_callS dX8_testTells_98 kX8_oneIf lX8_83 stX8_oneIf (c_X8_oneIf_b hl _ true) (Nat.le_of_ble_eq_true rfl) ⟨(Nat.le_of_ble_eq_true rfl), (Nat.le_of_ble_eq_true rfl)⟩ rfl (Nat.le_of_ble_eq_true rfl) rfl rfl (fun _ _ h => h.elim) ?_
      rintro _ _ ⟨rfl, rfl⟩
      refine j_iret dX8_testTells_101 rfl rfl ?_ (Nat.le_of_ble_eq_true rfl) (Nat.le_of_ble_eq_true rfl)
      first | exact ⟨by rw [q_tt4, decide_eq_false c_90]; rfl, rfl⟩ | exact ⟨by rw [q_tt4, decide_eq_true c_90]; rfl, rfl⟩
  · refine j_tsOut (tgt := 102) dX8_testTells_1 hp (by decide) ?_
    refine j_iload_n dX8_testTells_102 rfl ?_
    refine j_iload_n dX8_testTells_103 rfl ?_
    refine j_icmp_ne (tgt := 113) dX8_testTells_104 (by decide) (fun c_104 => ?_) (fun c_104 => ?_)
    · refine j_iconst (v := 0) dX8_testTells_113 (by decide) ?_
      refine j_iret dX8_testTells_114 rfl rfl ?_ (Nat.le_of_ble_eq_true rfl) (Nat.le_of_ble_eq_true rfl)
      first | exact ⟨by rw [q_tt5 hp, if_neg c_104]; rfl, rfl⟩ | exact ⟨by rw [q_tt5 hp, if_pos c_104]; rfl, rfl⟩
    · refine j_sipush (v := (-1001)) dX8_testTells_107 (by decide) ?_
      refine j_goto (tgt := 114) dX8_testTells_110 (by decide) ?_
      refine j_iret dX8_testTells_114 rfl rfl ?_ (Nat.le_of_ble_eq_true rfl) (Nat.le_of_ble_eq_true rfl)
      first | exact ⟨by rw [q_tt5 hp, if_neg c_104]; rfl, rfl⟩ | exact ⟨by rw [q_tt5 hp, if_pos c_104]; rfl, rfl⟩
set_option maxRecDepth 100000 in
set_option maxHeartbeats 8000000 in
theorem c_X8_checkRange_e (hl : l.stackTraces = false) (w : z_W) (a b c : Int32) : z_Con G l mX8_checkRange 10 1 6 w [.int a, .int b, .int c] (fun v w9 => (v = none ∧ ¬ (a < b ∨ c < a)) ∧ w9 = w) (fun E w9 => (z_xA E ∧ (a < b ∨ c < a)) ∧ w9 = w) := by
  refine z_body hl (by decide) rfl (Nat.le_of_ble_eq_true rfl) ?_
  show z_J G l mX8_checkRange ((10, 1, 6, w, (fun v w9 => (v = none ∧ ¬ (a < b ∨ c < a)) ∧ w9 = w), fun E w9 => (z_xA E ∧ (a < b ∨ c < a)) ∧ w9 = w)) 0 [(0, _), (1, _), (2, _)] [] _ 0 0
  refine j_iload_n dX8_checkRange_0 rfl ?_
  refine j_iload_n dX8_checkRange_1 rfl ?_
  refine j_icmp_lt (tgt := 10) dX8_checkRange_2 (by decide) (fun c_2 => ?_) (fun c_2 => ?_)
  · exact j_throwSW (text := "the number is out of its range") rfl th_A (by decide +kernel) dX8_checkRange_10 dX8_checkRange_13 dX8_checkRange_14 dX8_checkRange_17 dX8_checkRange_20 (Nat.le_of_ble_eq_true rfl) (Nat.le_of_ble_eq_true rfl) ⟨⟨rfl, by first | exact Or.inl c_2 | exact Or.inr (Int32.not_le.mp c_7)⟩, rfl⟩ (Nat.le_of_ble_eq_true rfl) (Nat.le_of_ble_eq_true rfl)
  · refine j_iload_n dX8_checkRange_5 rfl ?_
    refine j_iload_n dX8_checkRange_6 rfl ?_
    refine j_icmp_le (tgt := 21) dX8_checkRange_7 (by decide) (fun c_7 => ?_) (fun c_7 => ?_)
    · refine j_vret dX8_checkRange_21 rfl ?_ (Nat.le_of_ble_eq_true rfl) (Nat.le_of_ble_eq_true rfl)
      exact ⟨⟨rfl, fun z => z.elim (fun z => c_2 z) (fun z => absurd z (Int32.not_lt.mpr c_7))⟩, rfl⟩
    · exact j_throwSW (text := "the number is out of its range") rfl th_A (by decide +kernel) dX8_checkRange_10 dX8_checkRange_13 dX8_checkRange_14 dX8_checkRange_17 dX8_checkRange_20 (Nat.le_of_ble_eq_true rfl) (Nat.le_of_ble_eq_true rfl) ⟨⟨rfl, by first | exact Or.inl c_2 | exact Or.inr (Int32.not_le.mp c_7)⟩, rfl⟩ (Nat.le_of_ble_eq_true rfl) (Nat.le_of_ble_eq_true rfl)
set_option maxRecDepth 100000 in
set_option maxHeartbeats 8000000 in
theorem c_X8_checkValue_e (hl : l.stackTraces = false) (w : z_W) (a : Int32) : z_Con G l mX8_checkValue 11 1 6 w [.int a] (fun v w9 => (v = none ∧ ¬ (a < -999 ∨ 999 < a)) ∧ w9 = w) (fun E w9 => (z_xA E ∧ (a < -999 ∨ 999 < a)) ∧ w9 = w) := by
  refine z_body hl (by decide) rfl (Nat.le_of_ble_eq_true rfl) ?_
  show z_J G l mX8_checkValue ((11, 1, 6, w, (fun v w9 => (v = none ∧ ¬ (a < -999 ∨ 999 < a)) ∧ w9 = w), fun E w9 => (z_xA E ∧ (a < -999 ∨ 999 < a)) ∧ w9 = w)) 0 [(0, _)] [] _ 0 0
  refine j_iload_n dX8_checkValue_0 rfl ?_
  refine j_sipush (v := (-999)) dX8_checkValue_1 (by decide) ?_
  refine j_sipush (v := 999) dX8_checkValue_4 (by decide) ?_
  refine j_callS dX8_checkValue_7 kX8_checkRange lX8_72 stX8_checkRange (c_X8_checkRange_e hl _ _ _ _) (Nat.le_of_ble_eq_true rfl) ⟨(Nat.le_of_ble_eq_true rfl), (Nat.le_of_ble_eq_true rfl)⟩ rfl (Nat.le_of_ble_eq_true rfl) rfl rfl (fun _ _ h => ⟨(fun h1 => h1) h.1, h.2⟩) ?_
  rintro _ _ ⟨⟨rfl, hc7⟩, rfl⟩
  refine j_vret dX8_checkValue_10 rfl ?_ (Nat.le_of_ble_eq_true rfl) (Nat.le_of_ble_eq_true rfl)
  exact ⟨⟨rfl, hc7⟩, rfl⟩
set_option maxRecDepth 100000 in
set_option maxHeartbeats 8000000 in
theorem c_X8_checkKey_e (hl : l.stackTraces = false) (w : z_W) (a : Int32) : z_Con G l mX8_checkKey 11 1 6 w [.int a] (fun v w9 => (v = none ∧ ¬ (a < 0 ∨ 19 < a)) ∧ w9 = w) (fun E w9 => (z_xA E ∧ (a < 0 ∨ 19 < a)) ∧ w9 = w) := by
  refine z_body hl (by decide) rfl (Nat.le_of_ble_eq_true rfl) ?_
  show z_J G l mX8_checkKey ((11, 1, 6, w, (fun v w9 => (v = none ∧ ¬ (a < 0 ∨ 19 < a)) ∧ w9 = w), fun E w9 => (z_xA E ∧ (a < 0 ∨ 19 < a)) ∧ w9 = w)) 0 [(0, _)] [] _ 0 0
  refine j_iload_n dX8_checkKey_0 rfl ?_
  refine j_iconst (v := 0) dX8_checkKey_1 (by decide) ?_
  refine j_bipush (v := 19) dX8_checkKey_2 (by decide) ?_
  refine j_callS dX8_checkKey_4 kX8_checkRange lX8_72 stX8_checkRange (c_X8_checkRange_e hl _ _ _ _) (Nat.le_of_ble_eq_true rfl) ⟨(Nat.le_of_ble_eq_true rfl), (Nat.le_of_ble_eq_true rfl)⟩ rfl (Nat.le_of_ble_eq_true rfl) rfl rfl (fun _ _ h => ⟨(fun h1 => h1) h.1, h.2⟩) ?_
  rintro _ _ ⟨⟨rfl, hc4⟩, rfl⟩
  refine j_vret dX8_checkKey_7 rfl ?_ (Nat.le_of_ble_eq_true rfl) (Nat.le_of_ble_eq_true rfl)
  exact ⟨⟨rfl, hc4⟩, rfl⟩
set_option maxRecDepth 100000 in
set_option maxHeartbeats 8000000 in
theorem c_X8_rowFor_e (hl : l.stackTraces = false) (rf : Int32) (kn : Int32) (ma : Int32) (xa : Bool) (fa : Nat → Int32) (ca : Nat → Int32) (mb : Int32) (xb : Bool) (fb : Nat → Int32) (cb : Nat → Int32) (mt : Int32) (xt : Bool) (ft : Nat → Int32) (ct : Nat → Int32) (f0 : Nat → Int32) (g0 : Nat → Int32) (c0 : Nat → Int32) (m0 : Int32) (s0 : Int32) (f1 : Nat → Int32) (g1 : Nat → Int32) (c1 : Nat → Int32) (m1 : Int32) (s1 : Int32) (f2 : Nat → Int32) (g2 : Nat → Int32) (c2 : Nat → Int32) (m2 : Int32) (s2 : Int32) (f3 : Nat → Int32) (g3 : Nat → Int32) (c3 : Nat → Int32) (m3 : Int32) (s3 : Int32) (f4 : Nat → Int32) (g4 : Nat → Int32) (c4 : Nat → Int32) (m4 : Int32) (s4 : Int32) (f5 : Nat → Int32) (g5 : Nat → Int32) (c5 : Nat → Int32) (m5 : Int32) (s5 : Int32) (ek0 : Int32) (em0 : Int32) (es0 : Int32) (el0 : Int32) (b0 : Int32) (ef0 : Nat → Int32) (ek1 : Int32) (em1 : Int32) (es1 : Int32) (el1 : Int32) (b1 : Int32) (ef1 : Nat → Int32) (r : Int32) : z_CX G l mX8_rowFor 10 1 6 (z_cw rf kn ma xa fa ca mb xb fb cb mt xt ft ct f0 g0 c0 m0 s0 f1 g1 c1 m1 s1 f2 g2 c2 m2 s2 f3 g3 c3 m3 s3 f4 g4 c4 m4 s4 f5 g5 c5 m5 s5 ek0 em0 es0 el0 b0 ef0 ek1 em1 es1 el1 b1 ef1 []) [.ref 0, .int r] (fun v L => ∃ n : Nat, v = some (.ref n) ∧ ((r = 0 ∧ n = 2) ∨ (r = 1 ∧ n = 6)) ∧ L = (z_cw rf kn ma xa fa ca mb xb fb cb mt xt ft ct f0 g0 c0 m0 s0 f1 g1 c1 m1 s1 f2 g2 c2 m2 s2 f3 g3 c3 m3 s3 f4 g4 c4 m4 s4 f5 g5 c5 m5 s5 ek0 em0 es0 el0 b0 ef0 ek1 em1 es1 el1 b1 ef1 [])) (fun E L => (z_xI E ∧ ¬ (r = 0 ∨ r = 1)) ∧ L = (z_cw rf kn ma xa fa ca mb xb fb cb mt xt ft ct f0 g0 c0 m0 s0 f1 g1 c1 m1 s1 f2 g2 c2 m2 s2 f3 g3 c3 m3 s3 f4 g4 c4 m4 s4 f5 g5 c5 m5 s5 ek0 em0 es0 el0 b0 ef0 ek1 em1 es1 el1 b1 ef1 [])) := by
  refine z_body hl (by decide) rfl (Nat.le_of_ble_eq_true rfl) ?_
  show z_J G l mX8_rowFor (z_SX 10 1 6 (z_cw rf kn ma xa fa ca mb xb fb cb mt xt ft ct f0 g0 c0 m0 s0 f1 g1 c1 m1 s1 f2 g2 c2 m2 s2 f3 g3 c3 m3 s3 f4 g4 c4 m4 s4 f5 g5 c5 m5 s5 ek0 em0 es0 el0 b0 ef0 ek1 em1 es1 el1 b1 ef1 []) (fun v L => ∃ n : Nat, v = some (.ref n) ∧ ((r = 0 ∧ n = 2) ∨ (r = 1 ∧ n = 6)) ∧ L = (z_cw rf kn ma xa fa ca mb xb fb cb mt xt ft ct f0 g0 c0 m0 s0 f1 g1 c1 m1 s1 f2 g2 c2 m2 s2 f3 g3 c3 m3 s3 f4 g4 c4 m4 s4 f5 g5 c5 m5 s5 ek0 em0 es0 el0 b0 ef0 ek1 em1 es1 el1 b1 ef1 [])) (fun E L => (z_xI E ∧ ¬ (r = 0 ∨ r = 1)) ∧ L = (z_cw rf kn ma xa fa ca mb xb fb cb mt xt ft ct f0 g0 c0 m0 s0 f1 g1 c1 m1 s1 f2 g2 c2 m2 s2 f3 g3 c3 m3 s3 f4 g4 c4 m4 s4 f5 g5 c5 m5 s5 ek0 em0 es0 el0 b0 ef0 ek1 em1 es1 el1 b1 ef1 []))) 0 [(0, _), (1, _)] [] _ 0 0
  refine j_iload_n dX8_rowFor_0 rfl ?_
  refine j_if_lt (tgt := 13) dX8_rowFor_1 (by decide) (fun c_1 => ?_) (fun c_1 => ?_)
  · exact j_throwSW (text := "there is no such row") rfl th_I (by decide +kernel) dX8_rowFor_13 dX8_rowFor_16 dX8_rowFor_17 dX8_rowFor_20 dX8_rowFor_23 (Nat.le_of_ble_eq_true rfl) (Nat.le_of_ble_eq_true rfl) ⟨rfl, rfl, ⟨rfl, by first | exact q_n2a c_1 | exact q_n2b c_10⟩, rfl⟩ (Nat.le_of_ble_eq_true rfl) (Nat.le_of_ble_eq_true rfl)
  · refine j_iload_n dX8_rowFor_4 rfl ?_
    refine j_aload_n dX8_rowFor_5 rfl rfl ?_
    refine j_getf dX8_rowFor_6 fX8_10 rfl rfl ?_
    refine j_alen dX8_rowFor_9 rfl rfl rfl ?_
    refine j_icmp_lt (tgt := 24) dX8_rowFor_10 (by decide) (fun c_10 => ?_) (fun c_10 => ?_)
    · rcases z_r2 c_1 c_10 with rfl | rfl
      · refine j_aload_n dX8_rowFor_24 rfl rfl ?_
        refine j_getf dX8_rowFor_25 fX8_10 rfl rfl ?_
        refine j_iload_n dX8_rowFor_28 rfl ?_
        refine j_aald (v := .ref 2) dX8_rowFor_29 rfl rfl rfl (vp_in_iff.mpr (by decide)) rfl ?_
        refine j_aret dX8_rowFor_30 rfl (Or.inl ⟨_, rfl⟩) rfl ?_ (Nat.le_of_ble_eq_true rfl) (Nat.le_of_ble_eq_true rfl)
        exact ⟨rfl, rfl, _, rfl, (by first | exact Or.inl ⟨rfl, rfl⟩ | exact Or.inr (⟨rfl, rfl⟩)), rfl⟩
      · refine j_aload_n dX8_rowFor_24 rfl rfl ?_
        refine j_getf dX8_rowFor_25 fX8_10 rfl rfl ?_
        refine j_iload_n dX8_rowFor_28 rfl ?_
        refine j_aald (v := .ref 6) dX8_rowFor_29 rfl rfl rfl (vp_in_iff.mpr (by decide)) rfl ?_
        refine j_aret dX8_rowFor_30 rfl (Or.inl ⟨_, rfl⟩) rfl ?_ (Nat.le_of_ble_eq_true rfl) (Nat.le_of_ble_eq_true rfl)
        exact ⟨rfl, rfl, _, rfl, (by first | exact Or.inl ⟨rfl, rfl⟩ | exact Or.inr (⟨rfl, rfl⟩)), rfl⟩
    · exact j_throwSW (text := "there is no such row") rfl th_I (by decide +kernel) dX8_rowFor_13 dX8_rowFor_16 dX8_rowFor_17 dX8_rowFor_20 dX8_rowFor_23 (Nat.le_of_ble_eq_true rfl) (Nat.le_of_ble_eq_true rfl) ⟨rfl, rfl, ⟨rfl, by first | exact q_n2a c_1 | exact q_n2b c_10⟩, rfl⟩ (Nat.le_of_ble_eq_true rfl) (Nat.le_of_ble_eq_true rfl)
set_option maxRecDepth 100000 in
set_option maxHeartbeats 8000000 in
theorem c_X8_hearerFor_e (hl : l.stackTraces = false) (rf : Int32) (kn : Int32) (ma : Int32) (xa : Bool) (fa : Nat → Int32) (ca : Nat → Int32) (mb : Int32) (xb : Bool) (fb : Nat → Int32) (cb : Nat → Int32) (mt : Int32) (xt : Bool) (ft : Nat → Int32) (ct : Nat → Int32) (f0 : Nat → Int32) (g0 : Nat → Int32) (c0 : Nat → Int32) (m0 : Int32) (s0 : Int32) (f1 : Nat → Int32) (g1 : Nat → Int32) (c1 : Nat → Int32) (m1 : Int32) (s1 : Int32) (f2 : Nat → Int32) (g2 : Nat → Int32) (c2 : Nat → Int32) (m2 : Int32) (s2 : Int32) (f3 : Nat → Int32) (g3 : Nat → Int32) (c3 : Nat → Int32) (m3 : Int32) (s3 : Int32) (f4 : Nat → Int32) (g4 : Nat → Int32) (c4 : Nat → Int32) (m4 : Int32) (s4 : Int32) (f5 : Nat → Int32) (g5 : Nat → Int32) (c5 : Nat → Int32) (m5 : Int32) (s5 : Int32) (ek0 : Int32) (em0 : Int32) (es0 : Int32) (el0 : Int32) (b0 : Int32) (ef0 : Nat → Int32) (ek1 : Int32) (em1 : Int32) (es1 : Int32) (el1 : Int32) (b1 : Int32) (ef1 : Nat → Int32) (r : Int32) : z_CX G l mX8_hearerFor 10 1 6 (z_cw rf kn ma xa fa ca mb xb fb cb mt xt ft ct f0 g0 c0 m0 s0 f1 g1 c1 m1 s1 f2 g2 c2 m2 s2 f3 g3 c3 m3 s3 f4 g4 c4 m4 s4 f5 g5 c5 m5 s5 ek0 em0 es0 el0 b0 ef0 ek1 em1 es1 el1 b1 ef1 []) [.ref 0, .int r] (fun v L => ∃ n : Nat, v = some (.ref n) ∧ ((r = 0 ∧ n = 27) ∨ (r = 1 ∧ n = 29)) ∧ L = (z_cw rf kn ma xa fa ca mb xb fb cb mt xt ft ct f0 g0 c0 m0 s0 f1 g1 c1 m1 s1 f2 g2 c2 m2 s2 f3 g3 c3 m3 s3 f4 g4 c4 m4 s4 f5 g5 c5 m5 s5 ek0 em0 es0 el0 b0 ef0 ek1 em1 es1 el1 b1 ef1 [])) (fun E L => (z_xI E ∧ ¬ (r = 0 ∨ r = 1)) ∧ L = (z_cw rf kn ma xa fa ca mb xb fb cb mt xt ft ct f0 g0 c0 m0 s0 f1 g1 c1 m1 s1 f2 g2 c2 m2 s2 f3 g3 c3 m3 s3 f4 g4 c4 m4 s4 f5 g5 c5 m5 s5 ek0 em0 es0 el0 b0 ef0 ek1 em1 es1 el1 b1 ef1 [])) := by
  refine z_body hl (by decide) rfl (Nat.le_of_ble_eq_true rfl) ?_
  show z_J G l mX8_hearerFor (z_SX 10 1 6 (z_cw rf kn ma xa fa ca mb xb fb cb mt xt ft ct f0 g0 c0 m0 s0 f1 g1 c1 m1 s1 f2 g2 c2 m2 s2 f3 g3 c3 m3 s3 f4 g4 c4 m4 s4 f5 g5 c5 m5 s5 ek0 em0 es0 el0 b0 ef0 ek1 em1 es1 el1 b1 ef1 []) (fun v L => ∃ n : Nat, v = some (.ref n) ∧ ((r = 0 ∧ n = 27) ∨ (r = 1 ∧ n = 29)) ∧ L = (z_cw rf kn ma xa fa ca mb xb fb cb mt xt ft ct f0 g0 c0 m0 s0 f1 g1 c1 m1 s1 f2 g2 c2 m2 s2 f3 g3 c3 m3 s3 f4 g4 c4 m4 s4 f5 g5 c5 m5 s5 ek0 em0 es0 el0 b0 ef0 ek1 em1 es1 el1 b1 ef1 [])) (fun E L => (z_xI E ∧ ¬ (r = 0 ∨ r = 1)) ∧ L = (z_cw rf kn ma xa fa ca mb xb fb cb mt xt ft ct f0 g0 c0 m0 s0 f1 g1 c1 m1 s1 f2 g2 c2 m2 s2 f3 g3 c3 m3 s3 f4 g4 c4 m4 s4 f5 g5 c5 m5 s5 ek0 em0 es0 el0 b0 ef0 ek1 em1 es1 el1 b1 ef1 []))) 0 [(0, _), (1, _)] [] _ 0 0
  refine j_iload_n dX8_hearerFor_0 rfl ?_
  refine j_if_lt (tgt := 13) dX8_hearerFor_1 (by decide) (fun c_1 => ?_) (fun c_1 => ?_)
  · exact j_throwSW (text := "there is no such hearer") rfl th_I (by decide +kernel) dX8_hearerFor_13 dX8_hearerFor_16 dX8_hearerFor_17 dX8_hearerFor_20 dX8_hearerFor_23 (Nat.le_of_ble_eq_true rfl) (Nat.le_of_ble_eq_true rfl) ⟨rfl, rfl, ⟨rfl, by first | exact q_n2a c_1 | exact q_n2b c_10⟩, rfl⟩ (Nat.le_of_ble_eq_true rfl) (Nat.le_of_ble_eq_true rfl)
  · refine j_iload_n dX8_hearerFor_4 rfl ?_
    refine j_aload_n dX8_hearerFor_5 rfl rfl ?_
    refine j_getf dX8_hearerFor_6 fX8_32 rfl rfl ?_
    refine j_alen dX8_hearerFor_9 rfl rfl rfl ?_
    refine j_icmp_lt (tgt := 24) dX8_hearerFor_10 (by decide) (fun c_10 => ?_) (fun c_10 => ?_)
    · rcases z_r2 c_1 c_10 with rfl | rfl
      · refine j_aload_n dX8_hearerFor_24 rfl rfl ?_
        refine j_getf dX8_hearerFor_25 fX8_32 rfl rfl ?_
        refine j_iload_n dX8_hearerFor_28 rfl ?_
        refine j_aald (v := .ref 27) dX8_hearerFor_29 rfl rfl rfl (vp_in_iff.mpr (by decide)) rfl ?_
        refine j_aret dX8_hearerFor_30 rfl (Or.inl ⟨_, rfl⟩) rfl ?_ (Nat.le_of_ble_eq_true rfl) (Nat.le_of_ble_eq_true rfl)
        exact ⟨rfl, rfl, _, rfl, (by first | exact Or.inl ⟨rfl, rfl⟩ | exact Or.inr (⟨rfl, rfl⟩)), rfl⟩
      · refine j_aload_n dX8_hearerFor_24 rfl rfl ?_
        refine j_getf dX8_hearerFor_25 fX8_32 rfl rfl ?_
        refine j_iload_n dX8_hearerFor_28 rfl ?_
        refine j_aald (v := .ref 29) dX8_hearerFor_29 rfl rfl rfl (vp_in_iff.mpr (by decide)) rfl ?_
        refine j_aret dX8_hearerFor_30 rfl (Or.inl ⟨_, rfl⟩) rfl ?_ (Nat.le_of_ble_eq_true rfl) (Nat.le_of_ble_eq_true rfl)
        exact ⟨rfl, rfl, _, rfl, (by first | exact Or.inl ⟨rfl, rfl⟩ | exact Or.inr (⟨rfl, rfl⟩)), rfl⟩
    · exact j_throwSW (text := "there is no such hearer") rfl th_I (by decide +kernel) dX8_hearerFor_13 dX8_hearerFor_16 dX8_hearerFor_17 dX8_hearerFor_20 dX8_hearerFor_23 (Nat.le_of_ble_eq_true rfl) (Nat.le_of_ble_eq_true rfl) ⟨rfl, rfl, ⟨rfl, by first | exact q_n2a c_1 | exact q_n2b c_10⟩, rfl⟩ (Nat.le_of_ble_eq_true rfl) (Nat.le_of_ble_eq_true rfl)
set_option maxRecDepth 100000 in
set_option maxHeartbeats 8000000 in
theorem c_X8_fix_e (hl : l.stackTraces = false) (rf : Int32) (kn : Int32) (ma : Int32) (xa : Bool) (fa : Nat → Int32) (ca : Nat → Int32) (mb : Int32) (xb : Bool) (fb : Nat → Int32) (cb : Nat → Int32) (mt : Int32) (xt : Bool) (ft : Nat → Int32) (ct : Nat → Int32) (f0 : Nat → Int32) (g0 : Nat → Int32) (c0 : Nat → Int32) (m0 : Int32) (s0 : Int32) (f1 : Nat → Int32) (g1 : Nat → Int32) (c1 : Nat → Int32) (m1 : Int32) (s1 : Int32) (f2 : Nat → Int32) (g2 : Nat → Int32) (c2 : Nat → Int32) (m2 : Int32) (s2 : Int32) (f3 : Nat → Int32) (g3 : Nat → Int32) (c3 : Nat → Int32) (m3 : Int32) (s3 : Int32) (f4 : Nat → Int32) (g4 : Nat → Int32) (c4 : Nat → Int32) (m4 : Int32) (s4 : Int32) (f5 : Nat → Int32) (g5 : Nat → Int32) (c5 : Nat → Int32) (m5 : Int32) (s5 : Int32) (ek0 : Int32) (em0 : Int32) (es0 : Int32) (el0 : Int32) (b0 : Int32) (ef0 : Nat → Int32) (ek1 : Int32) (em1 : Int32) (es1 : Int32) (el1 : Int32) (b1 : Int32) (ef1 : Nat → Int32) (r : Int32) (b : Bool) (h0 : z_m20 m0) (h1 : z_m20 m1) (h2 : z_m20 m2) (h3 : z_m20 m3) (h4 : z_m20 m4) (h5 : z_m20 m5) : z_CX G l mX8_fix 20 14 120 (z_cw rf kn ma xa fa ca mb xb fb cb mt xt ft ct f0 g0 c0 m0 s0 f1 g1 c1 m1 s1 f2 g2 c2 m2 s2 f3 g3 c3 m3 s3 f4 g4 c4 m4 s4 f5 g5 c5 m5 s5 ek0 em0 es0 el0 b0 ef0 ek1 em1 es1 el1 b1 ef1 []) [.ref 0, .int r, .int (z_bi b)] (fun v L => q_k2 r = 0 ∧ ∃ b9 : Bool, v = some (.int (z_bi b9)) ∧ ((r = 0 ∧ b9 = xa ∧ z_Wk kn b xb b0 b1 L) ∨ (r = 1 ∧ b9 = xb ∧ z_Wk kn xa b b0 b1 L))) (fun E L => (z_xI E ∧ q_k2 r = 1) ∧ L = (z_cw rf kn ma xa fa ca mb xb fb cb mt xt ft ct f0 g0 c0 m0 s0 f1 g1 c1 m1 s1 f2 g2 c2 m2 s2 f3 g3 c3 m3 s3 f4 g4 c4 m4 s4 f5 g5 c5 m5 s5 ek0 em0 es0 el0 b0 ef0 ek1 em1 es1 el1 b1 ef1 [])) := by
  refine z_body hl (by decide) rfl (Nat.le_of_ble_eq_true rfl) ?_
  show z_J G l mX8_fix (z_SX 20 14 120 (z_cw rf kn ma xa fa ca mb xb fb cb mt xt ft ct f0 g0 c0 m0 s0 f1 g1 c1 m1 s1 f2 g2 c2 m2 s2 f3 g3 c3 m3 s3 f4 g4 c4 m4 s4 f5 g5 c5 m5 s5 ek0 em0 es0 el0 b0 ef0 ek1 em1 es1 el1 b1 ef1 []) (fun v L => q_k2 r = 0 ∧ ∃ b9 : Bool, v = some (.int (z_bi b9)) ∧ ((r = 0 ∧ b9 = xa ∧ z_Wk kn b xb b0 b1 L) ∨ (r = 1 ∧ b9 = xb ∧ z_Wk kn xa b b0 b1 L))) (fun E L => (z_xI E ∧ q_k2 r = 1) ∧ L = (z_cw rf kn ma xa fa ca mb xb fb cb mt xt ft ct f0 g0 c0 m0 s0 f1 g1 c1 m1 s1 f2 g2 c2 m2 s2 f3 g3 c3 m3 s3 f4 g4 c4 m4 s4 f5 g5 c5 m5 s5 ek0 em0 es0 el0 b0 ef0 ek1 em1 es1 el1 b1 ef1 []))) 0 [(0, _), (1, _), (2, _)] [] _ 0 0
  refine j_aload_n dX8_fix_0 rfl rfl ?_
  refine j_iload_n dX8_fix_1 rfl ?_
  refine j_callV (q := (RX8, TX8, 9)) dX8_fix_2 kX8_rowFor lX8_46 inX8_rowFor seX8_rowFor rfl rfl (z_dirX (c_X8_rowFor_e hl _ _ _ _ _ _ _ _ _ _ _ _ _ _ _ _ _ _ _ _ _ _ _ _ _ _ _ _ _ _ _ _ _ _ _ _ _ _ _ _ _ _ _ _ _ _ _ _ _ _ _ _ _ _ _ _ _)) (Nat.le_of_ble_eq_true rfl) ⟨(Nat.le_of_ble_eq_true rfl), (Nat.le_of_ble_eq_true rfl)⟩ rfl (Nat.le_of_ble_eq_true rfl) rfl rfl (fun _ _ h => by obtain ⟨_, ⟨h1, rfl⟩, rfl⟩ := h; exact ⟨rfl, rfl, ⟨h1.1, if_neg h1.2⟩, rfl⟩) ?_
  rintro _ _ ⟨_, ⟨_, rfl, hr, rfl⟩, rfl⟩
  rcases hr with ⟨e_2, rfl⟩ | ⟨e_2, rfl⟩
  · refine j_astore_n (lo' := [(3, _), (0, _), (1, _), (2, _)]) dX8_fix_5 rfl (by decide) rfl ?_
    refine j_aload_n dX8_fix_6 rfl rfl ?_
    refine j_getf dX8_fix_7 fX8_79 rfl rfl ?_
    refine j_callS dX8_fix_10 kX8_oneIf lX8_83 stX8_oneIf (c_X8_oneIf_b hl _ _) (Nat.le_of_ble_eq_true rfl) ⟨(Nat.le_of_ble_eq_true rfl), (Nat.le_of_ble_eq_true rfl)⟩ rfl (Nat.le_of_ble_eq_true rfl) rfl rfl (fun _ _ h => h.elim) ?_
    rintro _ _ ⟨rfl, rfl⟩
    refine j_istore (lo' := [(4, _), (3, _), (0, _), (1, _), (2, _)]) dX8_fix_13 (by decide) rfl ?_
    refine j_aload_n dX8_fix_15 rfl rfl ?_
    refine j_iload_n dX8_fix_16 rfl ?_
    refine j_put (w' := (z_cw _ _ _ _ _ _ _ _ _ _ _ _ _ _ _ _ _ _ _ _ _ _ _ _ _ _ _ _ _ _ _ _ _ _ _ _ _ _ _ _ _ _ _ _ _ _ _ _ _ _ _ _ _ _ _ _ [], z_no)) dX8_fix_17 fX8_79 tX1_3 rfl ⟨z_bn _, z_bf _⟩ rfl ?_
    refine j_iload dX8_fix_20 rfl ?_
    refine j_iret dX8_fix_22 rfl rfl ?_ (Nat.le_of_ble_eq_true rfl) (Nat.le_of_ble_eq_true rfl)
    first | exact ⟨rfl, rfl, (if_pos (by first | exact Or.inl e_2 | exact Or.inr e_2)), _, rfl, Or.inl ⟨e_2, rfl, (z_wk (by first | assumption | exact z_m20z) (by first | assumption | exact z_m20z) (by first | assumption | exact z_m20z) (by first | assumption | exact z_m20z) (by first | assumption | exact z_m20z) (by first | assumption | exact z_m20z))⟩⟩ | exact ⟨rfl, rfl, (if_pos (by first | exact Or.inl e_2 | exact Or.inr e_2)), _, rfl, Or.inr ⟨e_2, rfl, (z_wk (by first | assumption | exact z_m20z) (by first | assumption | exact z_m20z) (by first | assumption | exact z_m20z) (by first | assumption | exact z_m20z) (by first | assumption | exact z_m20z) (by first | assumption | exact z_m20z))⟩⟩
  · refine j_astore_n (lo' := [(3, _), (0, _), (1, _), (2, _)]) dX8_fix_5 rfl (by decide) rfl ?_
    refine j_aload_n dX8_fix_6 rfl rfl ?_
    refine j_getf dX8_fix_7 fX8_79 rfl rfl ?_
    refine j_callS dX8_fix_10 kX8_oneIf lX8_83 stX8_oneIf (c_X8_oneIf_b hl _ _) (Nat.le_of_ble_eq_true rfl) ⟨(Nat.le_of_ble_eq_true rfl), (Nat.le_of_ble_eq_true rfl)⟩ rfl (Nat.le_of_ble_eq_true rfl) rfl rfl (fun _ _ h => h.elim) ?_
    rintro _ _ ⟨rfl, rfl⟩
    refine j_istore (lo' := [(4, _), (3, _), (0, _), (1, _), (2, _)]) dX8_fix_13 (by decide) rfl ?_
    refine j_aload_n dX8_fix_15 rfl rfl ?_
    refine j_iload_n dX8_fix_16 rfl ?_
    refine j_put (w' := (z_cw _ _ _ _ _ _ _ _ _ _ _ _ _ _ _ _ _ _ _ _ _ _ _ _ _ _ _ _ _ _ _ _ _ _ _ _ _ _ _ _ _ _ _ _ _ _ _ _ _ _ _ _ _ _ _ _ [], z_no)) dX8_fix_17 fX8_79 tX1_3 rfl ⟨z_bn _, z_bf _⟩ rfl ?_
    refine j_iload dX8_fix_20 rfl ?_
    refine j_iret dX8_fix_22 rfl rfl ?_ (Nat.le_of_ble_eq_true rfl) (Nat.le_of_ble_eq_true rfl)
    first | exact ⟨rfl, rfl, (if_pos (by first | exact Or.inl e_2 | exact Or.inr e_2)), _, rfl, Or.inl ⟨e_2, rfl, (z_wk (by first | assumption | exact z_m20z) (by first | assumption | exact z_m20z) (by first | assumption | exact z_m20z) (by first | assumption | exact z_m20z) (by first | assumption | exact z_m20z) (by first | assumption | exact z_m20z))⟩⟩ | exact ⟨rfl, rfl, (if_pos (by first | exact Or.inl e_2 | exact Or.inr e_2)), _, rfl, Or.inr ⟨e_2, rfl, (z_wk (by first | assumption | exact z_m20z) (by first | assumption | exact z_m20z) (by first | assumption | exact z_m20z) (by first | assumption | exact z_m20z) (by first | assumption | exact z_m20z) (by first | assumption | exact z_m20z))⟩⟩
set_option maxRecDepth 100000 in
set_option maxHeartbeats 8000000 in
theorem c_X8_isFixed_e (hl : l.stackTraces = false) (rf : Int32) (kn : Int32) (ma : Int32) (xa : Bool) (fa : Nat → Int32) (ca : Nat → Int32) (mb : Int32) (xb : Bool) (fb : Nat → Int32) (cb : Nat → Int32) (mt : Int32) (xt : Bool) (ft : Nat → Int32) (ct : Nat → Int32) (f0 : Nat → Int32) (g0 : Nat → Int32) (c0 : Nat → Int32) (m0 : Int32) (s0 : Int32) (f1 : Nat → Int32) (g1 : Nat → Int32) (c1 : Nat → Int32) (m1 : Int32) (s1 : Int32) (f2 : Nat → Int32) (g2 : Nat → Int32) (c2 : Nat → Int32) (m2 : Int32) (s2 : Int32) (f3 : Nat → Int32) (g3 : Nat → Int32) (c3 : Nat → Int32) (m3 : Int32) (s3 : Int32) (f4 : Nat → Int32) (g4 : Nat → Int32) (c4 : Nat → Int32) (m4 : Int32) (s4 : Int32) (f5 : Nat → Int32) (g5 : Nat → Int32) (c5 : Nat → Int32) (m5 : Int32) (s5 : Int32) (ek0 : Int32) (em0 : Int32) (es0 : Int32) (el0 : Int32) (b0 : Int32) (ef0 : Nat → Int32) (ek1 : Int32) (em1 : Int32) (es1 : Int32) (el1 : Int32) (b1 : Int32) (ef1 : Nat → Int32) (r : Int32) (h0 : z_m20 m0) (h1 : z_m20 m1) (h2 : z_m20 m2) (h3 : z_m20 m3) (h4 : z_m20 m4) (h5 : z_m20 m5) : z_CX G l mX8_isFixed 20 14 120 (z_cw rf kn ma xa fa ca mb xb fb cb mt xt ft ct f0 g0 c0 m0 s0 f1 g1 c1 m1 s1 f2 g2 c2 m2 s2 f3 g3 c3 m3 s3 f4 g4 c4 m4 s4 f5 g5 c5 m5 s5 ek0 em0 es0 el0 b0 ef0 ek1 em1 es1 el1 b1 ef1 []) [.ref 0, .int r] (fun v L => q_k2 r = 0 ∧ ∃ b9 : Bool, v = some (.int (z_bi b9)) ∧ ((r = 0 ∧ b9 = xa) ∨ (r = 1 ∧ b9 = xb)) ∧ z_Wk kn xa xb b0 b1 L) (fun E L => (z_xI E ∧ q_k2 r = 1) ∧ L = (z_cw rf kn ma xa fa ca mb xb fb cb mt xt ft ct f0 g0 c0 m0 s0 f1 g1 c1 m1 s1 f2 g2 c2 m2 s2 f3 g3 c3 m3 s3 f4 g4 c4 m4 s4 f5 g5 c5 m5 s5 ek0 em0 es0 el0 b0 ef0 ek1 em1 es1 el1 b1 ef1 [])) := by
  refine z_body hl (by decide) rfl (Nat.le_of_ble_eq_true rfl) ?_
  show z_J G l mX8_isFixed (z_SX 20 14 120 (z_cw rf kn ma xa fa ca mb xb fb cb mt xt ft ct f0 g0 c0 m0 s0 f1 g1 c1 m1 s1 f2 g2 c2 m2 s2 f3 g3 c3 m3 s3 f4 g4 c4 m4 s4 f5 g5 c5 m5 s5 ek0 em0 es0 el0 b0 ef0 ek1 em1 es1 el1 b1 ef1 []) (fun v L => q_k2 r = 0 ∧ ∃ b9 : Bool, v = some (.int (z_bi b9)) ∧ ((r = 0 ∧ b9 = xa) ∨ (r = 1 ∧ b9 = xb)) ∧ z_Wk kn xa xb b0 b1 L) (fun E L => (z_xI E ∧ q_k2 r = 1) ∧ L = (z_cw rf kn ma xa fa ca mb xb fb cb mt xt ft ct f0 g0 c0 m0 s0 f1 g1 c1 m1 s1 f2 g2 c2 m2 s2 f3 g3 c3 m3 s3 f4 g4 c4 m4 s4 f5 g5 c5 m5 s5 ek0 em0 es0 el0 b0 ef0 ek1 em1 es1 el1 b1 ef1 []))) 0 [(0, _), (1, _)] [] _ 0 0
  refine j_aload_n dX8_isFixed_0 rfl rfl ?_
  refine j_iload_n dX8_isFixed_1 rfl ?_
  refine j_callV (q := (RX8, TX8, 9)) dX8_isFixed_2 kX8_rowFor lX8_46 inX8_rowFor seX8_rowFor rfl rfl (z_dirX (c_X8_rowFor_e hl _ _ _ _ _ _ _ _ _ _ _ _ _ _ _ _ _ _ _ _ _ _ _ _ _ _ _ _ _ _ _ _ _ _ _ _ _ _ _ _ _ _ _ _ _ _ _ _ _ _ _ _ _ _ _ _ _)) (Nat.le_of_ble_eq_true rfl) ⟨(Nat.le_of_ble_eq_true rfl), (Nat.le_of_ble_eq_true rfl)⟩ rfl (Nat.le_of_ble_eq_true rfl) rfl rfl (fun _ _ h => by obtain ⟨_, ⟨h1, rfl⟩, rfl⟩ := h; exact ⟨rfl, rfl, ⟨h1.1, if_neg h1.2⟩, rfl⟩) ?_
  rintro _ _ ⟨_, ⟨_, rfl, hr, rfl⟩, rfl⟩
  rcases hr with ⟨e_2, rfl⟩ | ⟨e_2, rfl⟩
  · refine j_getf dX8_isFixed_5 fX8_79 rfl rfl ?_
    refine j_iret dX8_isFixed_8 rfl (z_bn _) ?_ (Nat.le_of_ble_eq_true rfl) (Nat.le_of_ble_eq_true rfl)
    first | exact ⟨rfl, rfl, (if_pos (by first | exact Or.inl e_2 | exact Or.inr e_2)), _, rfl, Or.inl ⟨e_2, rfl⟩, (z_wk (by first | assumption | exact z_m20z) (by first | assumption | exact z_m20z) (by first | assumption | exact z_m20z) (by first | assumption | exact z_m20z) (by first | assumption | exact z_m20z) (by first | assumption | exact z_m20z))⟩ | exact ⟨rfl, rfl, (if_pos (by first | exact Or.inl e_2 | exact Or.inr e_2)), _, rfl, Or.inr ⟨e_2, rfl⟩, (z_wk (by first | assumption | exact z_m20z) (by first | assumption | exact z_m20z) (by first | assumption | exact z_m20z) (by first | assumption | exact z_m20z) (by first | assumption | exact z_m20z) (by first | assumption | exact z_m20z))⟩
  · refine j_getf dX8_isFixed_5 fX8_79 rfl rfl ?_
    refine j_iret dX8_isFixed_8 rfl (z_bn _) ?_ (Nat.le_of_ble_eq_true rfl) (Nat.le_of_ble_eq_true rfl)
    first | exact ⟨rfl, rfl, (if_pos (by first | exact Or.inl e_2 | exact Or.inr e_2)), _, rfl, Or.inl ⟨e_2, rfl⟩, (z_wk (by first | assumption | exact z_m20z) (by first | assumption | exact z_m20z) (by first | assumption | exact z_m20z) (by first | assumption | exact z_m20z) (by first | assumption | exact z_m20z) (by first | assumption | exact z_m20z))⟩ | exact ⟨rfl, rfl, (if_pos (by first | exact Or.inl e_2 | exact Or.inr e_2)), _, rfl, Or.inr ⟨e_2, rfl⟩, (z_wk (by first | assumption | exact z_m20z) (by first | assumption | exact z_m20z) (by first | assumption | exact z_m20z) (by first | assumption | exact z_m20z) (by first | assumption | exact z_m20z) (by first | assumption | exact z_m20z))⟩
set_option maxRecDepth 100000 in
set_option maxHeartbeats 8000000 in
theorem c_X8_stop_e (hl : l.stackTraces = false) (rf : Int32) (kn : Int32) (ma : Int32) (xa : Bool) (fa : Nat → Int32) (ca : Nat → Int32) (mb : Int32) (xb : Bool) (fb : Nat → Int32) (cb : Nat → Int32) (mt : Int32) (xt : Bool) (ft : Nat → Int32) (ct : Nat → Int32) (f0 : Nat → Int32) (g0 : Nat → Int32) (c0 : Nat → Int32) (m0 : Int32) (s0 : Int32) (f1 : Nat → Int32) (g1 : Nat → Int32) (c1 : Nat → Int32) (m1 : Int32) (s1 : Int32) (f2 : Nat → Int32) (g2 : Nat → Int32) (c2 : Nat → Int32) (m2 : Int32) (s2 : Int32) (f3 : Nat → Int32) (g3 : Nat → Int32) (c3 : Nat → Int32) (m3 : Int32) (s3 : Int32) (f4 : Nat → Int32) (g4 : Nat → Int32) (c4 : Nat → Int32) (m4 : Int32) (s4 : Int32) (f5 : Nat → Int32) (g5 : Nat → Int32) (c5 : Nat → Int32) (m5 : Int32) (s5 : Int32) (ek0 : Int32) (em0 : Int32) (es0 : Int32) (el0 : Int32) (b0 : Int32) (ef0 : Nat → Int32) (ek1 : Int32) (em1 : Int32) (es1 : Int32) (el1 : Int32) (b1 : Int32) (ef1 : Nat → Int32) (r p : Int32) (h0 : z_m20 m0) (h1 : z_m20 m1) (h2 : z_m20 m2) (h3 : z_m20 m3) (h4 : z_m20 m4) (h5 : z_m20 m5) : z_CX G l mX8_stop 20 14 120 (z_cw rf kn ma xa fa ca mb xb fb cb mt xt ft ct f0 g0 c0 m0 s0 f1 g1 c1 m1 s1 f2 g2 c2 m2 s2 f3 g3 c3 m3 s3 f4 g4 c4 m4 s4 f5 g5 c5 m5 s5 ek0 em0 es0 el0 b0 ef0 ek1 em1 es1 el1 b1 ef1 []) [.ref 0, .int r, .int p] (fun v L => q_k22 r (p < -1000 ∨ 99999 < p) = 0 ∧ ∃ x : Int32, v = some (.int x) ∧ ((r = 0 ∧ x = b0 ∧ z_Wk kn xa xb p b1 L) ∨ (r = 1 ∧ x = b1 ∧ z_Wk kn xa xb b0 p L))) (fun E L => ((z_xI E ∧ q_k22 r (p < -1000 ∨ 99999 < p) = 1) ∨ (z_xA E ∧ q_k22 r (p < -1000 ∨ 99999 < p) = 2)) ∧ L = (z_cw rf kn ma xa fa ca mb xb fb cb mt xt ft ct f0 g0 c0 m0 s0 f1 g1 c1 m1 s1 f2 g2 c2 m2 s2 f3 g3 c3 m3 s3 f4 g4 c4 m4 s4 f5 g5 c5 m5 s5 ek0 em0 es0 el0 b0 ef0 ek1 em1 es1 el1 b1 ef1 [])) := by
  refine z_body hl (by decide) rfl (Nat.le_of_ble_eq_true rfl) ?_
  show z_J G l mX8_stop (z_SX 20 14 120 (z_cw rf kn ma xa fa ca mb xb fb cb mt xt ft ct f0 g0 c0 m0 s0 f1 g1 c1 m1 s1 f2 g2 c2 m2 s2 f3 g3 c3 m3 s3 f4 g4 c4 m4 s4 f5 g5 c5 m5 s5 ek0 em0 es0 el0 b0 ef0 ek1 em1 es1 el1 b1 ef1 []) (fun v L => q_k22 r (p < -1000 ∨ 99999 < p) = 0 ∧ ∃ x : Int32, v = some (.int x) ∧ ((r = 0 ∧ x = b0 ∧ z_Wk kn xa xb p b1 L) ∨ (r = 1 ∧ x = b1 ∧ z_Wk kn xa xb b0 p L))) (fun E L => ((z_xI E ∧ q_k22 r (p < -1000 ∨ 99999 < p) = 1) ∨ (z_xA E ∧ q_k22 r (p < -1000 ∨ 99999 < p) = 2)) ∧ L = (z_cw rf kn ma xa fa ca mb xb fb cb mt xt ft ct f0 g0 c0 m0 s0 f1 g1 c1 m1 s1 f2 g2 c2 m2 s2 f3 g3 c3 m3 s3 f4 g4 c4 m4 s4 f5 g5 c5 m5 s5 ek0 em0 es0 el0 b0 ef0 ek1 em1 es1 el1 b1 ef1 []))) 0 [(0, _), (1, _), (2, _)] [] _ 0 0
  refine j_aload_n dX8_stop_0 rfl rfl ?_
  refine j_iload_n dX8_stop_1 rfl ?_
  refine j_callV (q := (RX8, TX8, 9)) dX8_stop_2 kX8_hearerFor lX8_87 inX8_hearerFor seX8_hearerFor rfl rfl (z_dirX (c_X8_hearerFor_e hl _ _ _ _ _ _ _ _ _ _ _ _ _ _ _ _ _ _ _ _ _ _ _ _ _ _ _ _ _ _ _ _ _ _ _ _ _ _ _ _ _ _ _ _ _ _ _ _ _ _ _ _ _ _ _ _ _)) (Nat.le_of_ble_eq_true rfl) ⟨(Nat.le_of_ble_eq_true rfl), (Nat.le_of_ble_eq_true rfl)⟩ rfl (Nat.le_of_ble_eq_true rfl) rfl rfl (fun _ _ h => by obtain ⟨_, ⟨h1, rfl⟩, rfl⟩ := h; exact ⟨rfl, rfl, Or.inl ⟨h1.1, if_neg h1.2⟩, rfl⟩) ?_
  rintro _ _ ⟨_, ⟨_, rfl, hr, rfl⟩, rfl⟩
  rcases hr with ⟨e_2, rfl⟩ | ⟨e_2, rfl⟩
  · refine j_astore_n (lo' := [(3, _), (0, _), (1, _), (2, _)]) dX8_stop_5 rfl (by decide) rfl ?_
    refine j_iload_n dX8_stop_6 rfl ?_
    refine j_sipush (v := (-1000)) dX8_stop_7 (by decide) ?_
    refine j_ldc dX8_stop_10 kcX8_179 ?_
    refine j_callS dX8_stop_12 kX8_checkRange lX8_72 stX8_checkRange (c_X8_checkRange_e hl _ _ _ _) (Nat.le_of_ble_eq_true rfl) ⟨(Nat.le_of_ble_eq_true rfl), (Nat.le_of_ble_eq_true rfl)⟩ rfl (Nat.le_of_ble_eq_true rfl) rfl rfl (fun _ _ h => by obtain ⟨h1, rfl⟩ := h; exact ⟨rfl, rfl, Or.inr ⟨h1.1, q_k2b (by first | exact Or.inl e_2 | exact Or.inr e_2) h1.2⟩, rfl⟩) ?_
    rintro _ _ ⟨⟨rfl, hc12⟩, rfl⟩
    refine j_aload_n dX8_stop_15 rfl rfl ?_
    refine j_getf dX8_stop_16 fX8_180 rfl rfl ?_
    refine j_istore (lo' := [(4, _), (3, _), (0, _), (1, _), (2, _)]) dX8_stop_19 (by decide) rfl ?_
    refine j_aload_n dX8_stop_21 rfl rfl ?_
    refine j_iload_n dX8_stop_22 rfl ?_
    refine j_put (w' := (z_cw _ _ _ _ _ _ _ _ _ _ _ _ _ _ _ _ _ _ _ _ _ _ _ _ _ _ _ _ _ _ _ _ _ _ _ _ _ _ _ _ _ _ _ _ _ _ _ _ _ _ _ _ _ _ _ _ [], z_no)) dX8_stop_23 fX8_180 tX0_5 rfl ⟨rfl, rfl⟩ rfl ?_
    refine j_iload dX8_stop_26 rfl ?_
    refine j_iret dX8_stop_28 rfl rfl ?_ (Nat.le_of_ble_eq_true rfl) (Nat.le_of_ble_eq_true rfl)
    first | exact ⟨rfl, rfl, q_k2c (by first | exact Or.inl e_2 | exact Or.inr e_2) hc12, _, rfl, Or.inl ⟨e_2, rfl, (z_wk (by first | assumption | exact z_m20z) (by first | assumption | exact z_m20z) (by first | assumption | exact z_m20z) (by first | assumption | exact z_m20z) (by first | assumption | exact z_m20z) (by first | assumption | exact z_m20z))⟩⟩ | exact ⟨rfl, rfl, q_k2c (by first | exact Or.inl e_2 | exact Or.inr e_2) hc12, _, rfl, Or.inr ⟨e_2, rfl, (z_wk (by first | assumption | exact z_m20z) (by first | assumption | exact z_m20z) (by first | assumption | exact z_m20z) (by first | assumption | exact z_m20z) (by first | assumption | exact z_m20z) (by first | assumption | exact z_m20z))⟩⟩
  · refine j_astore_n (lo' := [(3, _), (0, _), (1, _), (2, _)]) dX8_stop_5 rfl (by decide) rfl ?_
    refine j_iload_n dX8_stop_6 rfl ?_
    refine j_sipush (v := (-1000)) dX8_stop_7 (by decide) ?_
    refine j_ldc dX8_stop_10 kcX8_179 ?_
    refine j_callS dX8_stop_12 kX8_checkRange lX8_72 stX8_checkRange (c_X8_checkRange_e hl _ _ _ _) (Nat.le_of_ble_eq_true rfl) ⟨(Nat.le_of_ble_eq_true rfl), (Nat.le_of_ble_eq_true rfl)⟩ rfl (Nat.le_of_ble_eq_true rfl) rfl rfl (fun _ _ h => by obtain ⟨h1, rfl⟩ := h; exact ⟨rfl, rfl, Or.inr ⟨h1.1, q_k2b (by first | exact Or.inl e_2 | exact Or.inr e_2) h1.2⟩, rfl⟩) ?_
    rintro _ _ ⟨⟨rfl, hc12⟩, rfl⟩
    refine j_aload_n dX8_stop_15 rfl rfl ?_
    refine j_getf dX8_stop_16 fX8_180 rfl rfl ?_
    refine j_istore (lo' := [(4, _), (3, _), (0, _), (1, _), (2, _)]) dX8_stop_19 (by decide) rfl ?_
    refine j_aload_n dX8_stop_21 rfl rfl ?_
    refine j_iload_n dX8_stop_22 rfl ?_
    refine j_put (w' := (z_cw _ _ _ _ _ _ _ _ _ _ _ _ _ _ _ _ _ _ _ _ _ _ _ _ _ _ _ _ _ _ _ _ _ _ _ _ _ _ _ _ _ _ _ _ _ _ _ _ _ _ _ _ _ _ _ _ [], z_no)) dX8_stop_23 fX8_180 tX0_5 rfl ⟨rfl, rfl⟩ rfl ?_
    refine j_iload dX8_stop_26 rfl ?_
    refine j_iret dX8_stop_28 rfl rfl ?_ (Nat.le_of_ble_eq_true rfl) (Nat.le_of_ble_eq_true rfl)
    first | exact ⟨rfl, rfl, q_k2c (by first | exact Or.inl e_2 | exact Or.inr e_2) hc12, _, rfl, Or.inl ⟨e_2, rfl, (z_wk (by first | assumption | exact z_m20z) (by first | assumption | exact z_m20z) (by first | assumption | exact z_m20z) (by first | assumption | exact z_m20z) (by first | assumption | exact z_m20z) (by first | assumption | exact z_m20z))⟩⟩ | exact ⟨rfl, rfl, q_k2c (by first | exact Or.inl e_2 | exact Or.inr e_2) hc12, _, rfl, Or.inr ⟨e_2, rfl, (z_wk (by first | assumption | exact z_m20z) (by first | assumption | exact z_m20z) (by first | assumption | exact z_m20z) (by first | assumption | exact z_m20z) (by first | assumption | exact z_m20z) (by first | assumption | exact z_m20z))⟩⟩
set_option maxRecDepth 100000 in
set_option maxHeartbeats 8000000 in
theorem c_X8_given_e (hl : l.stackTraces = false) (rf : Int32) (kn : Int32) (ma : Int32) (xa : Bool) (fa : Nat → Int32) (ca : Nat → Int32) (mb : Int32) (xb : Bool) (fb : Nat → Int32) (cb : Nat → Int32) (mt : Int32) (xt : Bool) (ft : Nat → Int32) (ct : Nat → Int32) (f0 : Nat → Int32) (g0 : Nat → Int32) (c0 : Nat → Int32) (m0 : Int32) (s0 : Int32) (f1 : Nat → Int32) (g1 : Nat → Int32) (c1 : Nat → Int32) (m1 : Int32) (s1 : Int32) (f2 : Nat → Int32) (g2 : Nat → Int32) (c2 : Nat → Int32) (m2 : Int32) (s2 : Int32) (f3 : Nat → Int32) (g3 : Nat → Int32) (c3 : Nat → Int32) (m3 : Int32) (s3 : Int32) (f4 : Nat → Int32) (g4 : Nat → Int32) (c4 : Nat → Int32) (m4 : Int32) (s4 : Int32) (f5 : Nat → Int32) (g5 : Nat → Int32) (c5 : Nat → Int32) (m5 : Int32) (s5 : Int32) (ek0 : Int32) (em0 : Int32) (es0 : Int32) (el0 : Int32) (b0 : Int32) (ef0 : Nat → Int32) (ek1 : Int32) (em1 : Int32) (es1 : Int32) (el1 : Int32) (b1 : Int32) (ef1 : Nat → Int32) (r p q t : Int32) (h0 : z_m20 m0) (h1 : z_m20 m1) (h2 : z_m20 m2) (h3 : z_m20 m3) (h4 : z_m20 m4) (h5 : z_m20 m5) : z_CX G l mX8_given 20 14 120 (z_cw rf kn ma xa fa ca mb xb fb cb mt xt ft ct f0 g0 c0 m0 s0 f1 g1 c1 m1 s1 f2 g2 c2 m2 s2 f3 g3 c3 m3 s3 f4 g4 c4 m4 s4 f5 g5 c5 m5 s5 ek0 em0 es0 el0 b0 ef0 ek1 em1 es1 el1 b1 ef1 []) [.ref 0, .int r, .int p, .int q, .int t] (fun v L => q_k1 ((p < 0 ∨ 19 < p) ∨ (q < -1000 ∨ 999 < q) ∨ (r < 0 ∨ 5 < r) ∨ (t < -999 ∨ 999 < t)) = 0 ∧ v = some (.int ((q_rt r p (q_d q) t).getD (-9))) ∧ z_Wk kn xa xb b0 b1 L) (fun E L => (z_xA E ∧ q_k1 ((p < 0 ∨ 19 < p) ∨ (q < -1000 ∨ 999 < q) ∨ (r < 0 ∨ 5 < r) ∨ (t < -999 ∨ 999 < t)) = 1) ∧ L = (z_cw rf kn ma xa fa ca mb xb fb cb mt xt ft ct f0 g0 c0 m0 s0 f1 g1 c1 m1 s1 f2 g2 c2 m2 s2 f3 g3 c3 m3 s3 f4 g4 c4 m4 s4 f5 g5 c5 m5 s5 ek0 em0 es0 el0 b0 ef0 ek1 em1 es1 el1 b1 ef1 [])) := by
  refine z_body hl (by decide) rfl (Nat.le_of_ble_eq_true rfl) ?_
  show z_J G l mX8_given (z_SX 20 14 120 (z_cw rf kn ma xa fa ca mb xb fb cb mt xt ft ct f0 g0 c0 m0 s0 f1 g1 c1 m1 s1 f2 g2 c2 m2 s2 f3 g3 c3 m3 s3 f4 g4 c4 m4 s4 f5 g5 c5 m5 s5 ek0 em0 es0 el0 b0 ef0 ek1 em1 es1 el1 b1 ef1 []) (fun v L => q_k1 ((p < 0 ∨ 19 < p) ∨ (q < -1000 ∨ 999 < q) ∨ (r < 0 ∨ 5 < r) ∨ (t < -999 ∨ 999 < t)) = 0 ∧ v = some (.int ((q_rt r p (q_d q) t).getD (-9))) ∧ z_Wk kn xa xb b0 b1 L) (fun E L => (z_xA E ∧ q_k1 ((p < 0 ∨ 19 < p) ∨ (q < -1000 ∨ 999 < q) ∨ (r < 0 ∨ 5 < r) ∨ (t < -999 ∨ 999 < t)) = 1) ∧ L = (z_cw rf kn ma xa fa ca mb xb fb cb mt xt ft ct f0 g0 c0 m0 s0 f1 g1 c1 m1 s1 f2 g2 c2 m2 s2 f3 g3 c3 m3 s3 f4 g4 c4 m4 s4 f5 g5 c5 m5 s5 ek0 em0 es0 el0 b0 ef0 ek1 em1 es1 el1 b1 ef1 []))) 0 [(0, _), (1, _), (2, _), (3, _), (4, _)] [] _ 0 0
  refine j_iload_n dX8_given_0 rfl ?_
  refine j_callS dX8_given_1 kX8_checkKey lX8_234 stX8_checkKey (c_X8_checkKey_e hl _ _) (Nat.le_of_ble_eq_true rfl) ⟨(Nat.le_of_ble_eq_true rfl), (Nat.le_of_ble_eq_true rfl)⟩ rfl (Nat.le_of_ble_eq_true rfl) rfl rfl (fun _ _ h => by obtain ⟨h1, rfl⟩ := h; exact ⟨rfl, rfl, ⟨h1.1, if_pos (Or.inl h1.2)⟩, rfl⟩) ?_
  rintro _ _ ⟨⟨rfl, hc1⟩, rfl⟩
  refine j_iload_n dX8_given_4 rfl ?_
  refine j_sipush (v := (-1000)) dX8_given_5 (by decide) ?_
  refine j_sipush (v := 999) dX8_given_8 (by decide) ?_
  refine j_callS dX8_given_11 kX8_checkRange lX8_72 stX8_checkRange (c_X8_checkRange_e hl _ _ _ _) (Nat.le_of_ble_eq_true rfl) ⟨(Nat.le_of_ble_eq_true rfl), (Nat.le_of_ble_eq_true rfl)⟩ rfl (Nat.le_of_ble_eq_true rfl) rfl rfl (fun _ _ h => by obtain ⟨h1, rfl⟩ := h; exact ⟨rfl, rfl, ⟨h1.1, if_pos (Or.inr (Or.inl h1.2))⟩, rfl⟩) ?_
  rintro _ _ ⟨⟨rfl, hc11⟩, rfl⟩
  refine j_iload_n dX8_given_14 rfl ?_
  refine j_iconst (v := 0) dX8_given_15 (by decide) ?_
  refine j_iconst (v := 5) dX8_given_16 (by decide) ?_
  refine j_callS dX8_given_17 kX8_checkRange lX8_72 stX8_checkRange (c_X8_checkRange_e hl _ _ _ _) (Nat.le_of_ble_eq_true rfl) ⟨(Nat.le_of_ble_eq_true rfl), (Nat.le_of_ble_eq_true rfl)⟩ rfl (Nat.le_of_ble_eq_true rfl) rfl rfl (fun _ _ h => by obtain ⟨h1, rfl⟩ := h; exact ⟨rfl, rfl, ⟨h1.1, if_pos (Or.inr (Or.inr (Or.inl h1.2)))⟩, rfl⟩) ?_
  rintro _ _ ⟨⟨rfl, hc17⟩, rfl⟩
  refine j_iload dX8_given_20 rfl ?_
  refine j_callS dX8_given_22 kX8_checkValue lX8_50 stX8_checkValue (c_X8_checkValue_e hl _ _) (Nat.le_of_ble_eq_true rfl) ⟨(Nat.le_of_ble_eq_true rfl), (Nat.le_of_ble_eq_true rfl)⟩ rfl (Nat.le_of_ble_eq_true rfl) rfl rfl (fun _ _ h => by obtain ⟨h1, rfl⟩ := h; exact ⟨rfl, rfl, ⟨h1.1, if_pos (Or.inr (Or.inr (Or.inr (h1.2))))⟩, rfl⟩) ?_
  rintro _ _ ⟨⟨rfl, hc22⟩, rfl⟩
  refine j_iload_n dX8_given_25 rfl ?_
  refine j_iload_n dX8_given_26 rfl ?_
  refine j_iload_n dX8_given_27 rfl ?_
  refine j_iload dX8_given_28 rfl ?_
  refine j_callS dX8_given_30 kX8_ruleTells lX8_237 stX8_ruleTells (c_X8_ruleTells_e hl _ _ _ _ _) (Nat.le_of_ble_eq_true rfl) ⟨(Nat.le_of_ble_eq_true rfl), (Nat.le_of_ble_eq_true rfl)⟩ rfl (Nat.le_of_ble_eq_true rfl) rfl rfl (fun _ _ h => h.elim) ?_
  rintro _ _ ⟨rfl, rfl⟩
  refine j_istore (lo' := [(5, _), (0, _), (1, _), (2, _), (3, _), (4, _)]) dX8_given_33 (by decide) rfl ?_
  refine j_iload dX8_given_35 rfl ?_
  refine j_sipush (v := (-1001)) dX8_given_37 (by decide) ?_
  refine j_icmp_ne (tgt := 48) dX8_given_40 (by decide) (fun c_40 => ?_) (fun c_40 => ?_)
  · refine j_iload dX8_given_48 rfl ?_
    refine j_iret dX8_given_50 rfl rfl ?_ (Nat.le_of_ble_eq_true rfl) (Nat.le_of_ble_eq_true rfl)
    first | exact ⟨rfl, rfl, q_k1a hc1 hc11 hc17 hc22, by rw [q_g1 hc11 hc22 c_40], (z_wk (by first | assumption | exact z_m20z) (by first | assumption | exact z_m20z) (by first | assumption | exact z_m20z) (by first | assumption | exact z_m20z) (by first | assumption | exact z_m20z) (by first | assumption | exact z_m20z))⟩ | exact ⟨rfl, rfl, q_k1a hc1 hc11 hc17 hc22, by rw [q_g2 c_40], (z_wk (by first | assumption | exact z_m20z) (by first | assumption | exact z_m20z) (by first | assumption | exact z_m20z) (by first | assumption | exact z_m20z) (by first | assumption | exact z_m20z) (by first | assumption | exact z_m20z))⟩
  · refine j_bipush (v := (-9)) dX8_given_43 (by decide) ?_
    refine j_goto (tgt := 50) dX8_given_45 (by decide) ?_
    refine j_iret dX8_given_50 rfl rfl ?_ (Nat.le_of_ble_eq_true rfl) (Nat.le_of_ble_eq_true rfl)
    first | exact ⟨rfl, rfl, q_k1a hc1 hc11 hc17 hc22, by rw [q_g1 hc11 hc22 c_40], (z_wk (by first | assumption | exact z_m20z) (by first | assumption | exact z_m20z) (by first | assumption | exact z_m20z) (by first | assumption | exact z_m20z) (by first | assumption | exact z_m20z) (by first | assumption | exact z_m20z))⟩ | exact ⟨rfl, rfl, q_k1a hc1 hc11 hc17 hc22, by rw [q_g2 c_40], (z_wk (by first | assumption | exact z_m20z) (by first | assumption | exact z_m20z) (by first | assumption | exact z_m20z) (by first | assumption | exact z_m20z) (by first | assumption | exact z_m20z) (by first | assumption | exact z_m20z))⟩
set_option maxRecDepth 100000 in
set_option maxHeartbeats 8000000 in
theorem c_X8_tested_e (hl : l.stackTraces = false) (rf : Int32) (kn : Int32) (ma : Int32) (xa : Bool) (fa : Nat → Int32) (ca : Nat → Int32) (mb : Int32) (xb : Bool) (fb : Nat → Int32) (cb : Nat → Int32) (mt : Int32) (xt : Bool) (ft : Nat → Int32) (ct : Nat → Int32) (f0 : Nat → Int32) (g0 : Nat → Int32) (c0 : Nat → Int32) (m0 : Int32) (s0 : Int32) (f1 : Nat → Int32) (g1 : Nat → Int32) (c1 : Nat → Int32) (m1 : Int32) (s1 : Int32) (f2 : Nat → Int32) (g2 : Nat → Int32) (c2 : Nat → Int32) (m2 : Int32) (s2 : Int32) (f3 : Nat → Int32) (g3 : Nat → Int32) (c3 : Nat → Int32) (m3 : Int32) (s3 : Int32) (f4 : Nat → Int32) (g4 : Nat → Int32) (c4 : Nat → Int32) (m4 : Int32) (s4 : Int32) (f5 : Nat → Int32) (g5 : Nat → Int32) (c5 : Nat → Int32) (m5 : Int32) (s5 : Int32) (ek0 : Int32) (em0 : Int32) (es0 : Int32) (el0 : Int32) (b0 : Int32) (ef0 : Nat → Int32) (ek1 : Int32) (em1 : Int32) (es1 : Int32) (el1 : Int32) (b1 : Int32) (ef1 : Nat → Int32) (r p q : Int32) (h0 : z_m20 m0) (h1 : z_m20 m1) (h2 : z_m20 m2) (h3 : z_m20 m3) (h4 : z_m20 m4) (h5 : z_m20 m5) : z_CX G l mX8_tested 20 14 120 (z_cw rf kn ma xa fa ca mb xb fb cb mt xt ft ct f0 g0 c0 m0 s0 f1 g1 c1 m1 s1 f2 g2 c2 m2 s2 f3 g3 c3 m3 s3 f4 g4 c4 m4 s4 f5 g5 c5 m5 s5 ek0 em0 es0 el0 b0 ef0 ek1 em1 es1 el1 b1 ef1 []) [.ref 0, .int r, .int p, .int q] (fun v L => q_k1 ((r < 0 ∨ 5 < r) ∨ (p < -999 ∨ 999 < p) ∨ (q < -999 ∨ 999 < q)) = 0 ∧ v = some (.int ((q_tt r p q).getD (-9))) ∧ z_Wk kn xa xb b0 b1 L) (fun E L => (z_xA E ∧ q_k1 ((r < 0 ∨ 5 < r) ∨ (p < -999 ∨ 999 < p) ∨ (q < -999 ∨ 999 < q)) = 1) ∧ L = (z_cw rf kn ma xa fa ca mb xb fb cb mt xt ft ct f0 g0 c0 m0 s0 f1 g1 c1 m1 s1 f2 g2 c2 m2 s2 f3 g3 c3 m3 s3 f4 g4 c4 m4 s4 f5 g5 c5 m5 s5 ek0 em0 es0 el0 b0 ef0 ek1 em1 es1 el1 b1 ef1 [])) := by
  refine z_body hl (by decide) rfl (Nat.le_of_ble_eq_true rfl) ?_
  show z_J G l mX8_tested (z_SX 20 14 120 (z_cw rf kn ma xa fa ca mb xb fb cb mt xt ft ct f0 g0 c0 m0 s0 f1 g1 c1 m1 s1 f2 g2 c2 m2 s2 f3 g3 c3 m3 s3 f4 g4 c4 m4 s4 f5 g5 c5 m5 s5 ek0 em0 es0 el0 b0 ef0 ek1 em1 es1 el1 b1 ef1 []) (fun v L => q_k1 ((r < 0 ∨ 5 < r) ∨ (p < -999 ∨ 999 < p) ∨ (q < -999 ∨ 999 < q)) = 0 ∧ v = some (.int ((q_tt r p q).getD (-9))) ∧ z_Wk kn xa xb b0 b1 L) (fun E L => (z_xA E ∧ q_k1 ((r < 0 ∨ 5 < r) ∨ (p < -999 ∨ 999 < p) ∨ (q < -999 ∨ 999 < q)) = 1) ∧ L = (z_cw rf kn ma xa fa ca mb xb fb cb mt xt ft ct f0 g0 c0 m0 s0 f1 g1 c1 m1 s1 f2 g2 c2 m2 s2 f3 g3 c3 m3 s3 f4 g4 c4 m4 s4 f5 g5 c5 m5 s5 ek0 em0 es0 el0 b0 ef0 ek1 em1 es1 el1 b1 ef1 []))) 0 [(0, _), (1, _), (2, _), (3, _)] [] _ 0 0
  refine j_iload_n dX8_tested_0 rfl ?_
  refine j_iconst (v := 0) dX8_tested_1 (by decide) ?_
  refine j_iconst (v := 5) dX8_tested_2 (by decide) ?_
  refine j_callS dX8_tested_3 kX8_checkRange lX8_72 stX8_checkRange (c_X8_checkRange_e hl _ _ _ _) (Nat.le_of_ble_eq_true rfl) ⟨(Nat.le_of_ble_eq_true rfl), (Nat.le_of_ble_eq_true rfl)⟩ rfl (Nat.le_of_ble_eq_true rfl) rfl rfl (fun _ _ h => by obtain ⟨h1, rfl⟩ := h; exact ⟨rfl, rfl, ⟨h1.1, if_pos (Or.inl h1.2)⟩, rfl⟩) ?_
  rintro _ _ ⟨⟨rfl, hc3⟩, rfl⟩
  refine j_iload_n dX8_tested_6 rfl ?_
  refine j_callS dX8_tested_7 kX8_checkValue lX8_50 stX8_checkValue (c_X8_checkValue_e hl _ _) (Nat.le_of_ble_eq_true rfl) ⟨(Nat.le_of_ble_eq_true rfl), (Nat.le_of_ble_eq_true rfl)⟩ rfl (Nat.le_of_ble_eq_true rfl) rfl rfl (fun _ _ h => by obtain ⟨h1, rfl⟩ := h; exact ⟨rfl, rfl, ⟨h1.1, if_pos (Or.inr (Or.inl h1.2))⟩, rfl⟩) ?_
  rintro _ _ ⟨⟨rfl, hc7⟩, rfl⟩
  refine j_iload_n dX8_tested_10 rfl ?_
  refine j_callS dX8_tested_11 kX8_checkValue lX8_50 stX8_checkValue (c_X8_checkValue_e hl _ _) (Nat.le_of_ble_eq_true rfl) ⟨(Nat.le_of_ble_eq_true rfl), (Nat.le_of_ble_eq_true rfl)⟩ rfl (Nat.le_of_ble_eq_true rfl) rfl rfl (fun _ _ h => by obtain ⟨h1, rfl⟩ := h; exact ⟨rfl, rfl, ⟨h1.1, if_pos (Or.inr (Or.inr (h1.2)))⟩, rfl⟩) ?_
  rintro _ _ ⟨⟨rfl, hc11⟩, rfl⟩
  refine j_iload_n dX8_tested_14 rfl ?_
  refine j_iload_n dX8_tested_15 rfl ?_
  refine j_iload_n dX8_tested_16 rfl ?_
  refine j_callS dX8_tested_17 kX8_testTells lX8_241 stX8_testTells (c_X8_testTells_e hl _ _ _ _) (Nat.le_of_ble_eq_true rfl) ⟨(Nat.le_of_ble_eq_true rfl), (Nat.le_of_ble_eq_true rfl)⟩ rfl (Nat.le_of_ble_eq_true rfl) rfl rfl (fun _ _ h => h.elim) ?_
  rintro _ _ ⟨rfl, rfl⟩
  refine j_istore (lo' := [(4, _), (0, _), (1, _), (2, _), (3, _)]) dX8_tested_20 (by decide) rfl ?_
  refine j_iload dX8_tested_22 rfl ?_
  refine j_sipush (v := (-1001)) dX8_tested_24 (by decide) ?_
  refine j_icmp_ne (tgt := 35) dX8_tested_27 (by decide) (fun c_27 => ?_) (fun c_27 => ?_)
  · refine j_iload dX8_tested_35 rfl ?_
    refine j_iret dX8_tested_37 rfl rfl ?_ (Nat.le_of_ble_eq_true rfl) (Nat.le_of_ble_eq_true rfl)
    first | exact ⟨rfl, rfl, q_k1b hc3 hc7 hc11, by rw [q_h1 c_27], (z_wk (by first | assumption | exact z_m20z) (by first | assumption | exact z_m20z) (by first | assumption | exact z_m20z) (by first | assumption | exact z_m20z) (by first | assumption | exact z_m20z) (by first | assumption | exact z_m20z))⟩ | exact ⟨rfl, rfl, q_k1b hc3 hc7 hc11, by rw [q_g2 c_27], (z_wk (by first | assumption | exact z_m20z) (by first | assumption | exact z_m20z) (by first | assumption | exact z_m20z) (by first | assumption | exact z_m20z) (by first | assumption | exact z_m20z) (by first | assumption | exact z_m20z))⟩
  · refine j_bipush (v := (-9)) dX8_tested_30 (by decide) ?_
    refine j_goto (tgt := 37) dX8_tested_32 (by decide) ?_
    refine j_iret dX8_tested_37 rfl rfl ?_ (Nat.le_of_ble_eq_true rfl) (Nat.le_of_ble_eq_true rfl)
    first | exact ⟨rfl, rfl, q_k1b hc3 hc7 hc11, by rw [q_h1 c_27], (z_wk (by first | assumption | exact z_m20z) (by first | assumption | exact z_m20z) (by first | assumption | exact z_m20z) (by first | assumption | exact z_m20z) (by first | assumption | exact z_m20z) (by first | assumption | exact z_m20z))⟩ | exact ⟨rfl, rfl, q_k1b hc3 hc7 hc11, by rw [q_g2 c_27], (z_wk (by first | assumption | exact z_m20z) (by first | assumption | exact z_m20z) (by first | assumption | exact z_m20z) (by first | assumption | exact z_m20z) (by first | assumption | exact z_m20z) (by first | assumption | exact z_m20z))⟩
set_option maxRecDepth 100000 in
set_option maxHeartbeats 8000000 in
theorem c_X8_refused_e (hl : l.stackTraces = false) (rf : Int32) (kn : Int32) (ma : Int32) (xa : Bool) (fa : Nat → Int32) (ca : Nat → Int32) (mb : Int32) (xb : Bool) (fb : Nat → Int32) (cb : Nat → Int32) (mt : Int32) (xt : Bool) (ft : Nat → Int32) (ct : Nat → Int32) (f0 : Nat → Int32) (g0 : Nat → Int32) (c0 : Nat → Int32) (m0 : Int32) (s0 : Int32) (f1 : Nat → Int32) (g1 : Nat → Int32) (c1 : Nat → Int32) (m1 : Int32) (s1 : Int32) (f2 : Nat → Int32) (g2 : Nat → Int32) (c2 : Nat → Int32) (m2 : Int32) (s2 : Int32) (f3 : Nat → Int32) (g3 : Nat → Int32) (c3 : Nat → Int32) (m3 : Int32) (s3 : Int32) (f4 : Nat → Int32) (g4 : Nat → Int32) (c4 : Nat → Int32) (m4 : Int32) (s4 : Int32) (f5 : Nat → Int32) (g5 : Nat → Int32) (c5 : Nat → Int32) (m5 : Int32) (s5 : Int32) (ek0 : Int32) (em0 : Int32) (es0 : Int32) (el0 : Int32) (b0 : Int32) (ef0 : Nat → Int32) (ek1 : Int32) (em1 : Int32) (es1 : Int32) (el1 : Int32) (b1 : Int32) (ef1 : Nat → Int32) : z_CF G l mX8_refused 10 0 0 (z_cw rf kn ma xa fa ca mb xb fb cb mt xt ft ct f0 g0 c0 m0 s0 f1 g1 c1 m1 s1 f2 g2 c2 m2 s2 f3 g3 c3 m3 s3 f4 g4 c4 m4 s4 f5 g5 c5 m5 s5 ek0 em0 es0 el0 b0 ef0 ek1 em1 es1 el1 b1 ef1 []) [.ref 0] (fun v L => v = some (.int (-9)) ∧ L = (z_cw (rf + 1) kn ma xa fa ca mb xb fb cb mt xt ft ct f0 g0 c0 m0 s0 f1 g1 c1 m1 s1 f2 g2 c2 m2 s2 f3 g3 c3 m3 s3 f4 g4 c4 m4 s4 f5 g5 c5 m5 s5 ek0 em0 es0 el0 b0 ef0 ek1 em1 es1 el1 b1 ef1 [])) := by
  refine z_body hl (by decide) rfl (Nat.le_of_ble_eq_true rfl) ?_
  show z_J G l mX8_refused (z_SF 10 0 0 (z_cw rf kn ma xa fa ca mb xb fb cb mt xt ft ct f0 g0 c0 m0 s0 f1 g1 c1 m1 s1 f2 g2 c2 m2 s2 f3 g3 c3 m3 s3 f4 g4 c4 m4 s4 f5 g5 c5 m5 s5 ek0 em0 es0 el0 b0 ef0 ek1 em1 es1 el1 b1 ef1 []) (fun v L => v = some (.int (-9)) ∧ L = (z_cw (rf + 1) kn ma xa fa ca mb xb fb cb mt xt ft ct f0 g0 c0 m0 s0 f1 g1 c1 m1 s1 f2 g2 c2 m2 s2 f3 g3 c3 m3 s3 f4 g4 c4 m4 s4 f5 g5 c5 m5 s5 ek0 em0 es0 el0 b0 ef0 ek1 em1 es1 el1 b1 ef1 []))) 0 [(0, _)] [] _ 0 0
  refine j_aload_n dX8_refused_0 rfl rfl ?_
  refine j_dup dX8_refused_1 rfl ?_
  refine j_getf dX8_refused_2 fX8_256 rfl rfl ?_
  refine j_iconst (v := 1) dX8_refused_5 (by decide) ?_
  refine j_iadd dX8_refused_6 ?_
  refine j_put (w' := (z_cw _ _ _ _ _ _ _ _ _ _ _ _ _ _ _ _ _ _ _ _ _ _ _ _ _ _ _ _ _ _ _ _ _ _ _ _ _ _ _ _ _ _ _ _ _ _ _ _ _ _ _ _ _ _ _ _ [], z_no)) dX8_refused_7 fX8_256 tX8_7 rfl ⟨rfl, rfl⟩ rfl ?_
  refine j_bipush (v := (-9)) dX8_refused_10 (by decide) ?_
  refine j_iret dX8_refused_12 rfl rfl ?_ (Nat.le_of_ble_eq_true rfl) (Nat.le_of_ble_eq_true rfl)
  exact ⟨rfl, rfl, rfl, rfl⟩
set_option maxRecDepth 100000 in
set_option maxHeartbeats 8000000 in
theorem c_X8_takeStep_e (hl : l.stackTraces = false) (rf : Int32) (kn : Int32) (ma : Int32) (xa : Bool) (fa : Nat → Int32) (ca : Nat → Int32) (mb : Int32) (xb : Bool) (fb : Nat → Int32) (cb : Nat → Int32) (mt : Int32) (xt : Bool) (ft : Nat → Int32) (ct : Nat → Int32) (f0 : Nat → Int32) (g0 : Nat → Int32) (c0 : Nat → Int32) (m0 : Int32) (s0 : Int32) (f1 : Nat → Int32) (g1 : Nat → Int32) (c1 : Nat → Int32) (m1 : Int32) (s1 : Int32) (f2 : Nat → Int32) (g2 : Nat → Int32) (c2 : Nat → Int32) (m2 : Int32) (s2 : Int32) (f3 : Nat → Int32) (g3 : Nat → Int32) (c3 : Nat → Int32) (m3 : Int32) (s3 : Int32) (f4 : Nat → Int32) (g4 : Nat → Int32) (c4 : Nat → Int32) (m4 : Int32) (s4 : Int32) (f5 : Nat → Int32) (g5 : Nat → Int32) (c5 : Nat → Int32) (m5 : Int32) (s5 : Int32) (ek0 : Int32) (em0 : Int32) (es0 : Int32) (el0 : Int32) (b0 : Int32) (ef0 : Nat → Int32) (ek1 : Int32) (em1 : Int32) (es1 : Int32) (el1 : Int32) (b1 : Int32) (ef1 : Nat → Int32) (r p : Int32) (h0 : z_m20 m0) (h1 : z_m20 m1) (h2 : z_m20 m2) (h3 : z_m20 m3) (h4 : z_m20 m4) (h5 : z_m20 m5) : z_CX G l mX8_takeStep 20 14 120 (z_cw rf kn ma xa fa ca mb xb fb cb mt xt ft ct f0 g0 c0 m0 s0 f1 g1 c1 m1 s1 f2 g2 c2 m2 s2 f3 g3 c3 m3 s3 f4 g4 c4 m4 s4 f5 g5 c5 m5 s5 ek0 em0 es0 el0 b0 ef0 ek1 em1 es1 el1 b1 ef1 []) [.ref 0, .int r, .int p] (fun v L => q_k1 ((p < -999 ∨ 999 < p) ∨ (r < -999 ∨ p < r)) = 0 ∧ v = some (.int (-9)) ∧ z_Wk kn xa xb b0 b1 L) (fun E L => (z_xA E ∧ q_k1 ((p < -999 ∨ 999 < p) ∨ (r < -999 ∨ p < r)) = 1) ∧ L = (z_cw rf kn ma xa fa ca mb xb fb cb mt xt ft ct f0 g0 c0 m0 s0 f1 g1 c1 m1 s1 f2 g2 c2 m2 s2 f3 g3 c3 m3 s3 f4 g4 c4 m4 s4 f5 g5 c5 m5 s5 ek0 em0 es0 el0 b0 ef0 ek1 em1 es1 el1 b1 ef1 [])) := by
  refine z_body hl (by decide) rfl (Nat.le_of_ble_eq_true rfl) ?_
  show z_J G l mX8_takeStep (z_SX 20 14 120 (z_cw rf kn ma xa fa ca mb xb fb cb mt xt ft ct f0 g0 c0 m0 s0 f1 g1 c1 m1 s1 f2 g2 c2 m2 s2 f3 g3 c3 m3 s3 f4 g4 c4 m4 s4 f5 g5 c5 m5 s5 ek0 em0 es0 el0 b0 ef0 ek1 em1 es1 el1 b1 ef1 []) (fun v L => q_k1 ((p < -999 ∨ 999 < p) ∨ (r < -999 ∨ p < r)) = 0 ∧ v = some (.int (-9)) ∧ z_Wk kn xa xb b0 b1 L) (fun E L => (z_xA E ∧ q_k1 ((p < -999 ∨ 999 < p) ∨ (r < -999 ∨ p < r)) = 1) ∧ L = (z_cw rf kn ma xa fa ca mb xb fb cb mt xt ft ct f0 g0 c0 m0 s0 f1 g1 c1 m1 s1 f2 g2 c2 m2 s2 f3 g3 c3 m3 s3 f4 g4 c4 m4 s4 f5 g5 c5 m5 s5 ek0 em0 es0 el0 b0 ef0 ek1 em1 es1 el1 b1 ef1 []))) 0 [(0, _), (1, _), (2, _)] [] _ 0 0
  refine j_iload_n dX8_takeStep_0 rfl ?_
  refine j_callS dX8_takeStep_1 kX8_checkValue lX8_50 stX8_checkValue (c_X8_checkValue_e hl _ _) (Nat.le_of_ble_eq_true rfl) ⟨(Nat.le_of_ble_eq_true rfl), (Nat.le_of_ble_eq_true rfl)⟩ rfl (Nat.le_of_ble_eq_true rfl) rfl rfl (fun _ _ h => by obtain ⟨h1, rfl⟩ := h; exact ⟨rfl, rfl, ⟨h1.1, if_pos (Or.inl h1.2)⟩, rfl⟩) ?_
  rintro _ _ ⟨⟨rfl, hc1⟩, rfl⟩
  refine j_iload_n dX8_takeStep_4 rfl ?_
  refine j_sipush (v := (-999)) dX8_takeStep_5 (by decide) ?_
  refine j_iload_n dX8_takeStep_8 rfl ?_
  refine j_callS dX8_takeStep_9 kX8_checkRange lX8_72 stX8_checkRange (c_X8_checkRange_e hl _ _ _ _) (Nat.le_of_ble_eq_true rfl) ⟨(Nat.le_of_ble_eq_true rfl), (Nat.le_of_ble_eq_true rfl)⟩ rfl (Nat.le_of_ble_eq_true rfl) rfl rfl (fun _ _ h => by obtain ⟨h1, rfl⟩ := h; exact ⟨rfl, rfl, ⟨h1.1, if_pos (Or.inr (h1.2))⟩, rfl⟩) ?_
  rintro _ _ ⟨⟨rfl, hc9⟩, rfl⟩
  refine j_aload_n dX8_takeStep_12 rfl rfl ?_
  refine j_callV (q := (RX8, TX8, 9)) dX8_takeStep_13 kX8_refused lX8_119 inX8_refused seX8_refused rfl rfl (z_dirF (c_X8_refused_e hl _ _ _ _ _ _ _ _ _ _ _ _ _ _ _ _ _ _ _ _ _ _ _ _ _ _ _ _ _ _ _ _ _ _ _ _ _ _ _ _ _ _ _ _ _ _ _ _ _ _ _ _ _ _ _ _)) (Nat.le_of_ble_eq_true rfl) ⟨(Nat.le_of_ble_eq_true rfl), (Nat.le_of_ble_eq_true rfl)⟩ rfl (Nat.le_of_ble_eq_true rfl) rfl rfl (fun _ _ h => h.elim) ?_
  rintro _ _ ⟨_, ⟨rfl, rfl⟩, rfl⟩
  refine j_iret dX8_takeStep_16 rfl rfl ?_ (Nat.le_of_ble_eq_true rfl) (Nat.le_of_ble_eq_true rfl)
  exact ⟨rfl, rfl, q_k1c hc1 hc9, rfl, (z_wk (by first | assumption | exact z_m20z) (by first | assumption | exact z_m20z) (by first | assumption | exact z_m20z) (by first | assumption | exact z_m20z) (by first | assumption | exact z_m20z) (by first | assumption | exact z_m20z))⟩
end ZCx
