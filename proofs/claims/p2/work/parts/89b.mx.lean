section ZMx
variable {G : z_G} {l : Launch}
theorem q_nin {x a b : Int32} (h : ¬ (a ≤ x ∧ x ≤ b)) : x < a ∨ b < x := by
  by_cases h1 : x < a
  · exact Or.inl h1
  · by_cases h2 : b < x
    · exact Or.inr h2
    · exact absurd ⟨Int32.not_lt.mp h1, Int32.not_lt.mp h2⟩ h
theorem q_inn {x a b : Int32} (h : a ≤ x ∧ x ≤ b) : ¬ (x < a ∨ b < x) := fun z => z.elim (Int32.not_lt.mpr h.1) (Int32.not_lt.mpr h.2)
theorem q_key20 {x : Int32} (h : ∃ i, i < 20 ∧ x = nI i) : ¬ (x < 0 ∨ 19 < x) := by
  obtain ⟨i, hi, rfl⟩ := h
  have e := nI_toInt (n := i) (by omega)
  rintro (z | z)
  · have z : (nI i).toInt < (0 : Int32).toInt := Int32.lt_iff_toInt_lt.mp z
    rw [e, show (0 : Int32).toInt = 0 from rfl] at z
    omega
  · have z : (19 : Int32).toInt < (nI i).toInt := Int32.lt_iff_toInt_lt.mp z
    rw [e, show (19 : Int32).toInt = 19 from rfl] at z
    omega
theorem q_no2 {x : Int32} (h : ¬ (0 ≤ x ∧ x ≤ 1)) : ¬ (x = 0 ∨ x = 1) := by
  rintro (rfl | rfl)
  · exact h ⟨by decide, by decide⟩
  · exact h ⟨by decide, by decide⟩
theorem q_i2 {i : Nat} (h : i < 2) : nI i = 0 ∨ nI i = 1 := by
  rcases (show i = 0 ∨ i = 1 by omega) with rfl | rfl
  · exact Or.inl rfl
  · exact Or.inr rfl
theorem q_ts {x y : Int32} : ((y < -999 ∨ 999 < y) ∨ (x < -999 ∨ y < x)) ↔ ¬ (z_vl x ∧ z_vl y ∧ x ≤ y) := by
  unfold z_vl
  simp only [Int32.lt_iff_toInt_lt, Int32.le_iff_toInt_le, show (-999 : Int32).toInt = -999 from rfl, show (999 : Int32).toInt = 999 from rfl]
  omega
theorem q_gm1 {r p q t : Int32} (h1 : ¬ (q < -1000 ∨ 999 < q)) (h4 : ¬ (t < -999 ∨ 999 < t)) (c : (q_rt r p (q_d q) t).getD 100000 = 100000) : (q_rt r p (q_d q) t).getD (-9) = -9 := by
  have hv : ∀ {x : Int32}, x ≤ 999 → ¬ x = 100000 := by rintro x h rfl; exact absurd h (by decide)
  have hq : q_d q ≤ 999 := by
    unfold q_d
    split
    · decide
    · exact (q_nor h1).2
  have ht := (q_nor h4).2
  cases h : q_rt r p (q_d q) t with
  | none => rfl
  | some x =>
    rw [h] at c
    have c : x = 100000 := c
    refine absurd c (hv ?_)
    unfold q_rt at h
    split at h
    · cases h; exact (q_bdr _).2
    split at h
    · cases h
      unfold q_mx
      split
      · exact ht
      · exact hq
    split at h
    · cases h
      cases q_ev (q_bd (q_d q + t)) with
      | true => exact (q_bdr _).2
      | false => show (-1000 : Int32) ≤ 999; decide
    split at h
    · cases h; decide
    split at h
    · revert h
      cases q_ev (q_bd (q_d q + t)) with
      | true => intro h; cases h; exact (q_bdr _).2
      | false => intro h; cases h
    · cases h; exact (q_bdr _).2
theorem q_hm1 {r p q : Int32} (c : (q_tt r p q).getD 100000 = 100000) : (q_tt r p q).getD (-9) = -9 := by
  cases h : q_tt r p q with
  | none => rfl
  | some x =>
    rw [h] at c
    have c : x = 100000 := c
    rcases q_tts h with z | z
    · rw [z] at c; exact absurd c (by decide)
    · rw [z] at c; exact absurd c (by decide)
set_option maxRecDepth 100000 in
set_option maxHeartbeats 8000000 in
theorem cm_bounded_e (hl : l.stackTraces = false) (w : z_W) (x : Int32)  : z_Con G l mX11_bounded 11 0 0 w [.int x] (fun v w9 => v = some (.int (q_bd x)) ∧ w9 = w) (fun _ _ => False) := by
  refine z_body hl (by decide) rfl (Nat.le_of_ble_eq_true rfl) ?_
  show z_J G l mX11_bounded _ 0 [(0, _)] [] _ 0 0
  refine j_sipush (v := (-999)) dX11_bounded_0 (by decide) ?_
  refine j_sipush (v := 999) dX11_bounded_3 (by decide) ?_
  refine j_iload_n dX11_bounded_6 rfl ?_
  refine j_mmin dX11_bounded_7 (z_w 1606 ((lwg_7 121).trans (by decide +kernel)) (by decide +kernel)) (Nat.le_of_ble_eq_true rfl) (Nat.le_of_ble_eq_true rfl) (Nat.le_of_ble_eq_true rfl) (Nat.le_of_ble_eq_true rfl) ?_
  refine j_mmax dX11_bounded_10 (z_w 1607 ((lwg_7 122).trans (by decide +kernel)) (by decide +kernel)) (Nat.le_of_ble_eq_true rfl) (Nat.le_of_ble_eq_true rfl) (Nat.le_of_ble_eq_true rfl) (Nat.le_of_ble_eq_true rfl) ?_
  refine j_iret dX11_bounded_13 rfl rfl ?_ (Nat.le_of_ble_eq_true rfl) (Nat.le_of_ble_eq_true rfl)
  exact ⟨congrArg (fun z => some (Value.int z)) (q_bdm x), rfl⟩
set_option maxRecDepth 100000 in
set_option maxHeartbeats 8000000 in
theorem cm_one1 (hl : l.stackTraces = false) (w : z_W)   : z_Con G l mX11_one 10 0 0 w [.int 1] (fun v w9 => v = some (.int 1) ∧ w9 = w) (fun _ _ => False) := by
  refine z_body hl (by decide) rfl (Nat.le_of_ble_eq_true rfl) ?_
  show z_J G l mX11_one _ 0 [(0, _)] [] _ 0 0
  refine j_iload_n dX11_one_0 rfl ?_
  refine j_if_eq (tgt := 8) dX11_one_1 (by decide) (fun c_1_3 => ?_) (fun c_1_3 => ?_)
  · exact absurd c_1_3 (by decide)
  · refine j_iconst (v := 1) dX11_one_4 (by decide) ?_
    refine j_goto (tgt := 9) dX11_one_5 (by decide) ?_
    refine j_iret dX11_one_9 rfl rfl ?_ (Nat.le_of_ble_eq_true rfl) (Nat.le_of_ble_eq_true rfl)
    exact ⟨rfl, rfl⟩
set_option maxRecDepth 100000 in
set_option maxHeartbeats 8000000 in
theorem cm_one0 (hl : l.stackTraces = false) (w : z_W)   : z_Con G l mX11_one 10 0 0 w [.int 0] (fun v w9 => v = some (.int 0) ∧ w9 = w) (fun _ _ => False) := by
  refine z_body hl (by decide) rfl (Nat.le_of_ble_eq_true rfl) ?_
  show z_J G l mX11_one _ 0 [(0, _)] [] _ 0 0
  refine j_iload_n dX11_one_0 rfl ?_
  refine j_if_eq (tgt := 8) dX11_one_1 (by decide) (fun c_1_3 => ?_) (fun c_1_3 => ?_)
  · refine j_iconst (v := 0) dX11_one_8 (by decide) ?_
    refine j_iret dX11_one_9 rfl rfl ?_ (Nat.le_of_ble_eq_true rfl) (Nat.le_of_ble_eq_true rfl)
    exact ⟨rfl, rfl⟩
  · exact absurd c_1_3 (by decide)
set_option maxRecDepth 100000 in
set_option maxHeartbeats 8000000 in
theorem cm_rule_e (hl : l.stackTraces = false) (w : z_W) (a b c d : Int32)  : z_Con G l mX11_rule 12 0 0 w [.int a, .int b, .int c, .int d] (fun v w9 => v = some (.int ((q_rt a b c d).getD 100000)) ∧ w9 = w) (fun _ _ => False) := by
  refine z_body hl (by decide) rfl (Nat.le_of_ble_eq_true rfl) ?_
  show z_J G l mX11_rule _ 0 [(0, _), (1, _), (2, _), (3, _)] [] _ 0 0
  refine j_iload_n dX11_rule_0 rfl ?_
  refine j_iload_n dX11_rule_1 rfl ?_
  refine j_iadd dX11_rule_2 ?_
  refine j_callS dX11_rule_3 kX11_bounded lX11_63 stX11_bounded (cm_bounded_e hl w _) (Nat.le_of_ble_eq_true rfl) ⟨(Nat.le_of_ble_eq_true rfl), (Nat.le_of_ble_eq_true rfl)⟩ rfl (Nat.le_of_ble_eq_true rfl) rfl rfl (fun _ _ h => h.elim) ?_
  rintro _ _ ⟨rfl, hw1⟩
  refine j_w w hw1 ?_
  refine j_istore (lo' := [(4, _), (0, _), (1, _), (2, _), (3, _)]) dX11_rule_6 (by decide) rfl ?_
  refine j_iload_n dX11_rule_8 rfl ?_
  rcases z_sw5 a with rfl | rfl | rfl | rfl | rfl | hp
  · refine j_tsIn (tgt := 44) dX11_rule_9 (by decide) (by decide) rfl (by decide) ?_
    refine j_iload dX11_rule_44 rfl ?_
    refine j_iret dX11_rule_46 rfl rfl ?_ (Nat.le_of_ble_eq_true rfl) (Nat.le_of_ble_eq_true rfl)
    exact ⟨rfl, rfl⟩
  · refine j_tsIn (tgt := 47) dX11_rule_9 (by decide) (by decide) rfl (by decide) ?_
    refine j_iload_n dX11_rule_47 rfl ?_
    refine j_iload_n dX11_rule_48 rfl ?_
    refine j_mmax dX11_rule_49 (z_w 1607 ((lwg_7 122).trans (by decide +kernel)) (by decide +kernel)) (Nat.le_of_ble_eq_true rfl) (Nat.le_of_ble_eq_true rfl) (Nat.le_of_ble_eq_true rfl) (Nat.le_of_ble_eq_true rfl) ?_
    refine j_iret dX11_rule_52 rfl rfl ?_ (Nat.le_of_ble_eq_true rfl) (Nat.le_of_ble_eq_true rfl)
    exact ⟨rfl, rfl⟩
  · refine j_tsIn (tgt := 53) dX11_rule_9 (by decide) (by decide) rfl (by decide) ?_
    refine j_iload dX11_rule_53 rfl ?_
    refine j_iconst (v := 2) dX11_rule_55 (by decide) ?_
    refine j_irem dX11_rule_56 (by decide) ?_
    refine j_if_ne (tgt := 65) dX11_rule_57 (by decide) (fun c_57_25 => ?_) (fun c_57_25 => ?_)
    · refine j_sipush (v := (-1000)) dX11_rule_65 (by decide) ?_
      refine j_iret dX11_rule_68 rfl rfl ?_ (Nat.le_of_ble_eq_true rfl) (Nat.le_of_ble_eq_true rfl)
      first | exact ⟨by rw [q_rt2, q_evm0 c_57_25]; rfl, rfl⟩ | exact ⟨by rw [q_rt2, q_evm1 c_57_25]; rfl, rfl⟩
    · refine j_iload dX11_rule_60 rfl ?_
      refine j_goto (tgt := 68) dX11_rule_62 (by decide) ?_
      refine j_iret dX11_rule_68 rfl rfl ?_ (Nat.le_of_ble_eq_true rfl) (Nat.le_of_ble_eq_true rfl)
      first | exact ⟨by rw [q_rt2, q_evm0 c_57_25]; rfl, rfl⟩ | exact ⟨by rw [q_rt2, q_evm1 c_57_25]; rfl, rfl⟩
  · refine j_tsIn (tgt := 69) dX11_rule_9 (by decide) (by decide) rfl (by decide) ?_
    refine j_sipush (v := (-1000)) dX11_rule_69 (by decide) ?_
    refine j_iret dX11_rule_72 rfl rfl ?_ (Nat.le_of_ble_eq_true rfl) (Nat.le_of_ble_eq_true rfl)
    exact ⟨rfl, rfl⟩
  · refine j_tsIn (tgt := 73) dX11_rule_9 (by decide) (by decide) rfl (by decide) ?_
    refine j_iload dX11_rule_73 rfl ?_
    refine j_iconst (v := 2) dX11_rule_75 (by decide) ?_
    refine j_irem dX11_rule_76 (by decide) ?_
    refine j_if_eq (tgt := 85) dX11_rule_77 (by decide) (fun c_77_41 => ?_) (fun c_77_41 => ?_)
    · refine j_iload dX11_rule_85 rfl ?_
      refine j_iret dX11_rule_87 rfl rfl ?_ (Nat.le_of_ble_eq_true rfl) (Nat.le_of_ble_eq_true rfl)
      first | exact ⟨by rw [q_rt4, q_evm0 c_77_41]; rfl, rfl⟩ | exact ⟨by rw [q_rt4, q_evm1 c_77_41]; rfl, rfl⟩
    · refine j_ldc dX11_rule_80 kcX11_67 ?_
      refine j_goto (tgt := 87) dX11_rule_82 (by decide) ?_
      refine j_iret dX11_rule_87 rfl rfl ?_ (Nat.le_of_ble_eq_true rfl) (Nat.le_of_ble_eq_true rfl)
      first | exact ⟨by rw [q_rt4, q_evm0 c_77_41]; rfl, rfl⟩ | exact ⟨by rw [q_rt4, q_evm1 c_77_41]; rfl, rfl⟩
  · refine j_tsOut (tgt := 88) dX11_rule_9 hp (by decide) ?_
    refine j_iload_n dX11_rule_88 rfl ?_
    refine j_iload_n dX11_rule_89 rfl ?_
    refine j_iadd dX11_rule_90 ?_
    refine j_callS dX11_rule_91 kX11_bounded lX11_63 stX11_bounded (cm_bounded_e hl w _) (Nat.le_of_ble_eq_true rfl) ⟨(Nat.le_of_ble_eq_true rfl), (Nat.le_of_ble_eq_true rfl)⟩ rfl (Nat.le_of_ble_eq_true rfl) rfl rfl (fun _ _ h => h.elim) ?_
    rintro _ _ ⟨rfl, hw2⟩
    refine j_w w hw2 ?_
    refine j_iret dX11_rule_94 rfl rfl ?_ (Nat.le_of_ble_eq_true rfl) (Nat.le_of_ble_eq_true rfl)
    exact ⟨by rw [q_rt5 hp]; rfl, rfl⟩
set_option maxRecDepth 100000 in
set_option maxHeartbeats 8000000 in
theorem cm_test_e (hl : l.stackTraces = false) (w : z_W) (a b c : Int32)  : z_Con G l mX11_test 12 0 0 w [.int a, .int b, .int c] (fun v w9 => v = some (.int ((q_tt a b c).getD 100000)) ∧ w9 = w) (fun _ _ => False) := by
  refine z_body hl (by decide) rfl (Nat.le_of_ble_eq_true rfl) ?_
  show z_J G l mX11_test _ 0 [(0, _), (1, _), (2, _)] [] _ 0 0
  refine j_iload_n dX11_test_0 rfl ?_
  rcases z_sw5 a with rfl | rfl | rfl | rfl | rfl | hp
  · refine j_tsIn (tgt := 36) dX11_test_1 (by decide) (by decide) rfl (by decide) ?_
    refine j_iload_n dX11_test_36 rfl ?_
    refine j_iconst (v := 2) dX11_test_37 (by decide) ?_
    refine j_irem dX11_test_38 (by decide) ?_
    refine j_if_ne (tgt := 46) dX11_test_39 (by decide) (fun c_39_8 => ?_) (fun c_39_8 => ?_)
    · refine j_iconst (v := 0) dX11_test_46 (by decide) ?_
      refine j_callS dX11_test_47 kX11_one lX11_68 stX11_one (cm_one0 hl w) (Nat.le_of_ble_eq_true rfl) ⟨(Nat.le_of_ble_eq_true rfl), (Nat.le_of_ble_eq_true rfl)⟩ rfl (Nat.le_of_ble_eq_true rfl) rfl rfl (fun _ _ h => h.elim) ?_
      rintro _ _ ⟨rfl, hw3⟩
      refine j_w w hw3 ?_
      refine j_iret dX11_test_50 rfl rfl ?_ (Nat.le_of_ble_eq_true rfl) (Nat.le_of_ble_eq_true rfl)
      first | exact ⟨by rw [q_tt0, q_evm0 c_39_8]; rfl, rfl⟩ | exact ⟨by rw [q_tt0, q_evm1 c_39_8]; rfl, rfl⟩
    · refine j_iconst (v := 1) dX11_test_42 (by decide) ?_
      refine j_goto (tgt := 47) dX11_test_43 (by decide) ?_
      refine j_callS dX11_test_47 kX11_one lX11_68 stX11_one (cm_one1 hl w) (Nat.le_of_ble_eq_true rfl) ⟨(Nat.le_of_ble_eq_true rfl), (Nat.le_of_ble_eq_true rfl)⟩ rfl (Nat.le_of_ble_eq_true rfl) rfl rfl (fun _ _ h => h.elim) ?_
      rintro _ _ ⟨rfl, hw4⟩
      refine j_w w hw4 ?_
      refine j_iret dX11_test_50 rfl rfl ?_ (Nat.le_of_ble_eq_true rfl) (Nat.le_of_ble_eq_true rfl)
      first | exact ⟨by rw [q_tt0, q_evm0 c_39_8]; rfl, rfl⟩ | exact ⟨by rw [q_tt0, q_evm1 c_39_8]; rfl, rfl⟩
  · refine j_tsIn (tgt := 51) dX11_test_1 (by decide) (by decide) rfl (by decide) ?_
    refine j_iload_n dX11_test_51 rfl ?_
    refine j_iconst (v := 2) dX11_test_52 (by decide) ?_
    refine j_irem dX11_test_53 (by decide) ?_
    refine j_if_eq (tgt := 61) dX11_test_54 (by decide) (fun c_54_26 => ?_) (fun c_54_26 => ?_)
    · refine j_iconst (v := 0) dX11_test_61 (by decide) ?_
      refine j_callS dX11_test_62 kX11_one lX11_68 stX11_one (cm_one0 hl w) (Nat.le_of_ble_eq_true rfl) ⟨(Nat.le_of_ble_eq_true rfl), (Nat.le_of_ble_eq_true rfl)⟩ rfl (Nat.le_of_ble_eq_true rfl) rfl rfl (fun _ _ h => h.elim) ?_
      rintro _ _ ⟨rfl, hw5⟩
      refine j_w w hw5 ?_
      refine j_iret dX11_test_65 rfl rfl ?_ (Nat.le_of_ble_eq_true rfl) (Nat.le_of_ble_eq_true rfl)
      first | exact ⟨by rw [q_tt1, q_evm0 c_54_26]; rfl, rfl⟩ | exact ⟨by rw [q_tt1, q_evm1 c_54_26]; rfl, rfl⟩
    · refine j_iconst (v := 1) dX11_test_57 (by decide) ?_
      refine j_goto (tgt := 62) dX11_test_58 (by decide) ?_
      refine j_callS dX11_test_62 kX11_one lX11_68 stX11_one (cm_one1 hl w) (Nat.le_of_ble_eq_true rfl) ⟨(Nat.le_of_ble_eq_true rfl), (Nat.le_of_ble_eq_true rfl)⟩ rfl (Nat.le_of_ble_eq_true rfl) rfl rfl (fun _ _ h => h.elim) ?_
      rintro _ _ ⟨rfl, hw6⟩
      refine j_w w hw6 ?_
      refine j_iret dX11_test_65 rfl rfl ?_ (Nat.le_of_ble_eq_true rfl) (Nat.le_of_ble_eq_true rfl)
      first | exact ⟨by rw [q_tt1, q_evm0 c_54_26]; rfl, rfl⟩ | exact ⟨by rw [q_tt1, q_evm1 c_54_26]; rfl, rfl⟩
  · refine j_tsIn (tgt := 66) dX11_test_1 (by decide) (by decide) rfl (by decide) ?_
    refine j_iload_n dX11_test_66 rfl ?_
    refine j_iload_n dX11_test_67 rfl ?_
    refine j_icmp_ge (tgt := 75) dX11_test_68 (by decide) (fun c_68_43 => ?_) (fun c_68_43 => ?_)
    · refine j_iconst (v := 0) dX11_test_75 (by decide) ?_
      refine j_callS dX11_test_76 kX11_one lX11_68 stX11_one (cm_one0 hl w) (Nat.le_of_ble_eq_true rfl) ⟨(Nat.le_of_ble_eq_true rfl), (Nat.le_of_ble_eq_true rfl)⟩ rfl (Nat.le_of_ble_eq_true rfl) rfl rfl (fun _ _ h => h.elim) ?_
      rintro _ _ ⟨rfl, hw7⟩
      refine j_w w hw7 ?_
      refine j_iret dX11_test_79 rfl rfl ?_ (Nat.le_of_ble_eq_true rfl) (Nat.le_of_ble_eq_true rfl)
      first | exact ⟨by rw [q_tt2, decide_eq_false (Int32.not_lt.mpr c_68_43)]; rfl, rfl⟩ | exact ⟨by rw [q_tt2, decide_eq_true (Int32.not_le.mp c_68_43)]; rfl, rfl⟩
    · refine j_iconst (v := 1) dX11_test_71 (by decide) ?_
      refine j_goto (tgt := 76) dX11_test_72 (by decide) ?_
      refine j_callS dX11_test_76 kX11_one lX11_68 stX11_one (cm_one1 hl w) (Nat.le_of_ble_eq_true rfl) ⟨(Nat.le_of_ble_eq_true rfl), (Nat.le_of_ble_eq_true rfl)⟩ rfl (Nat.le_of_ble_eq_true rfl) rfl rfl (fun _ _ h => h.elim) ?_
      rintro _ _ ⟨rfl, hw8⟩
      refine j_w w hw8 ?_
      refine j_iret dX11_test_79 rfl rfl ?_ (Nat.le_of_ble_eq_true rfl) (Nat.le_of_ble_eq_true rfl)
      first | exact ⟨by rw [q_tt2, decide_eq_false (Int32.not_lt.mpr c_68_43)]; rfl, rfl⟩ | exact ⟨by rw [q_tt2, decide_eq_true (Int32.not_le.mp c_68_43)]; rfl, rfl⟩
  · refine j_tsIn (tgt := 80) dX11_test_1 (by decide) (by decide) rfl (by decide) ?_
    refine j_iload_n dX11_test_80 rfl ?_
    refine j_iload_n dX11_test_81 rfl ?_
    refine j_icmp_le (tgt := 89) dX11_test_82 (by decide) (fun c_82_60 => ?_) (fun c_82_60 => ?_)
    · refine j_iconst (v := 0) dX11_test_89 (by decide) ?_
      refine j_callS dX11_test_90 kX11_one lX11_68 stX11_one (cm_one0 hl w) (Nat.le_of_ble_eq_true rfl) ⟨(Nat.le_of_ble_eq_true rfl), (Nat.le_of_ble_eq_true rfl)⟩ rfl (Nat.le_of_ble_eq_true rfl) rfl rfl (fun _ _ h => h.elim) ?_
      rintro _ _ ⟨rfl, hw9⟩
      refine j_w w hw9 ?_
      refine j_iret dX11_test_93 rfl rfl ?_ (Nat.le_of_ble_eq_true rfl) (Nat.le_of_ble_eq_true rfl)
      first | exact ⟨by rw [q_tt3, decide_eq_false (Int32.not_lt.mpr c_82_60)]; rfl, rfl⟩ | exact ⟨by rw [q_tt3, decide_eq_true (Int32.not_le.mp c_82_60)]; rfl, rfl⟩
    · refine j_iconst (v := 1) dX11_test_85 (by decide) ?_
      refine j_goto (tgt := 90) dX11_test_86 (by decide) ?_
      refine j_callS dX11_test_90 kX11_one lX11_68 stX11_one (cm_one1 hl w) (Nat.le_of_ble_eq_true rfl) ⟨(Nat.le_of_ble_eq_true rfl), (Nat.le_of_ble_eq_true rfl)⟩ rfl (Nat.le_of_ble_eq_true rfl) rfl rfl (fun _ _ h => h.elim) ?_
      rintro _ _ ⟨rfl, hw10⟩
      refine j_w w hw10 ?_
      refine j_iret dX11_test_93 rfl rfl ?_ (Nat.le_of_ble_eq_true rfl) (Nat.le_of_ble_eq_true rfl)
      first | exact ⟨by rw [q_tt3, decide_eq_false (Int32.not_lt.mpr c_82_60)]; rfl, rfl⟩ | exact ⟨by rw [q_tt3, decide_eq_true (Int32.not_le.mp c_82_60)]; rfl, rfl⟩
  · refine j_tsIn (tgt := 94) dX11_test_1 (by decide) (by decide) rfl (by decide) ?_
    refine j_iload_n dX11_test_94 rfl ?_
    refine j_iload_n dX11_test_95 rfl ?_
    refine j_icmp_ne (tgt := 103) dX11_test_96 (by decide) (fun c_96_77 => ?_) (fun c_96_77 => ?_)
    · refine j_iconst (v := 0) dX11_test_103 (by decide) ?_
      refine j_callS dX11_test_104 kX11_one lX11_68 stX11_one (cm_one0 hl w) (Nat.le_of_ble_eq_true rfl) ⟨(Nat.le_of_ble_eq_true rfl), (Nat.le_of_ble_eq_true rfl)⟩ rfl (Nat.le_of_ble_eq_true rfl) rfl rfl (fun _ _ h => h.elim) ?_
      rintro _ _ ⟨rfl, hw11⟩
      refine j_w w hw11 ?_
      refine j_iret dX11_test_107 rfl rfl ?_ (Nat.le_of_ble_eq_true rfl) (Nat.le_of_ble_eq_true rfl)
      first | exact ⟨by rw [q_tt4, decide_eq_false c_96_77]; rfl, rfl⟩ | exact ⟨by rw [q_tt4, decide_eq_true c_96_77]; rfl, rfl⟩
    · refine j_iconst (v := 1) dX11_test_99 (by decide) ?_
      refine j_goto (tgt := 104) dX11_test_100 (by decide) ?_
      refine j_callS dX11_test_104 kX11_one lX11_68 stX11_one (cm_one1 hl w) (Nat.le_of_ble_eq_true rfl) ⟨(Nat.le_of_ble_eq_true rfl), (Nat.le_of_ble_eq_true rfl)⟩ rfl (Nat.le_of_ble_eq_true rfl) rfl rfl (fun _ _ h => h.elim) ?_
      rintro _ _ ⟨rfl, hw12⟩
      refine j_w w hw12 ?_
      refine j_iret dX11_test_107 rfl rfl ?_ (Nat.le_of_ble_eq_true rfl) (Nat.le_of_ble_eq_true rfl)
      first | exact ⟨by rw [q_tt4, decide_eq_false c_96_77]; rfl, rfl⟩ | exact ⟨by rw [q_tt4, decide_eq_true c_96_77]; rfl, rfl⟩
  · refine j_tsOut (tgt := 108) dX11_test_1 hp (by decide) ?_
    refine j_iload_n dX11_test_108 rfl ?_
    refine j_iload_n dX11_test_109 rfl ?_
    refine j_icmp_ne (tgt := 118) dX11_test_110 (by decide) (fun c_110_94 => ?_) (fun c_110_94 => ?_)
    · refine j_iconst (v := 0) dX11_test_118 (by decide) ?_
      refine j_iret dX11_test_119 rfl rfl ?_ (Nat.le_of_ble_eq_true rfl) (Nat.le_of_ble_eq_true rfl)
      first | exact ⟨by rw [q_tt5 hp, if_neg c_110_94]; rfl, rfl⟩ | exact ⟨by rw [q_tt5 hp, if_pos c_110_94]; rfl, rfl⟩
    · refine j_ldc dX11_test_113 kcX11_67 ?_
      refine j_goto (tgt := 119) dX11_test_115 (by decide) ?_
      refine j_iret dX11_test_119 rfl rfl ?_ (Nat.le_of_ble_eq_true rfl) (Nat.le_of_ble_eq_true rfl)
      first | exact ⟨by rw [q_tt5 hp, if_neg c_110_94]; rfl, rfl⟩ | exact ⟨by rw [q_tt5 hp, if_pos c_110_94]; rfl, rfl⟩
set_option maxRecDepth 100000 in
set_option maxHeartbeats 8000000 in
theorem cm_given_e (hl : l.stackTraces = false) (w : z_W) (s : z_Z) (a b c d : Int32) (h : z_mst w s)  : z_Con G l mX11_given 20 0 0 w [.ref 1000, .int a, .int b, .int c, .int d] (fun v w9 => ∃ (r : Int32) (s9 : z_Z), v = some (.int r) ∧ z_fm 59 w w9 ∧ z_mst w9 s9 ∧ z_key s9 = z_key s ∧ s9.1.1 = q_k1 ((b < 0 ∨ 19 < b) ∨ (c < -1000 ∨ 999 < c) ∨ (a < 0 ∨ 5 < a) ∨ (d < -999 ∨ 999 < d)) ∧ (s9.1.1 = 0 → r = (q_rt a b (q_d c) d).getD (-9))) (fun _ _ => False) := by
  have ke0 : z_key s = z_key s := rfl
  refine z_body hl (by decide) rfl (Nat.le_of_ble_eq_true rfl) ?_
  show z_J G l mX11_given _ 0 [(0, _), (1, _), (2, _), (3, _), (4, _)] [] _ 0 0
  refine j_aload_n dX11_given_0 rfl rfl ?_
  refine j_iload_n dX11_given_1 rfl ?_
  refine j_callS dX11_given_2 kX11_isNoKey lX11_139 stX11_isNoKey (cm_isNoKey hl w _) (Nat.le_of_ble_eq_true rfl) ⟨(Nat.le_of_ble_eq_true rfl), (Nat.le_of_ble_eq_true rfl)⟩ rfl (Nat.le_of_ble_eq_true rfl) rfl rfl (fun _ _ h => h.elim) ?_
  rintro _ _ ⟨⟨rfl, hno13⟩ | ⟨rfl, hye13⟩, hw13⟩
  · refine j_w w hw13 ?_
    refine j_if_ne (tgt := 38) dX11_given_5 (by decide) (fun c_5_7 => ?_) (fun c_5_7 => ?_)
    · refine j_iconst (v := 1) dX11_given_38 (by decide) ?_
      refine j_goto (tgt := 43) dX11_given_39 (by decide) ?_
      refine j_iconst (v := 1) dX11_given_43 (by decide) ?_
      refine j_callV (q := (RX11, TX11, 8)) dX11_given_44 kX11_start lX11_76 inX11_start seX11_start h.m rfl (cm_start1 hl w _ _ h (by decide)) (Nat.le_of_ble_eq_true rfl) ⟨(Nat.le_of_ble_eq_true rfl), (Nat.le_of_ble_eq_true rfl)⟩ rfl (Nat.le_of_ble_eq_true rfl) rfl rfl (fun _ _ h => h.elim) ?_
      rintro _ w1 ⟨rfl, fm1, h1⟩
      have ke1 := z_ke h1 ke0 rfl
      refine j_if_eq (tgt := 52) dX11_given_47 (by decide) (fun c_47_14 => ?_) (fun c_47_14 => ?_)
      · exact absurd c_47_14 (by decide)
      · refine j_iconst (v := 0) dX11_given_50 (by decide) ?_
        refine j_iret dX11_given_51 rfl rfl ?_ (Nat.le_of_ble_eq_true rfl) (Nat.le_of_ble_eq_true rfl)
        exact ⟨_, _, rfl, (fm1.le (q' := 59) (by decide)), h1, ke1, (if_pos (Or.inl (q_nin hno13))).symm, fun z => absurd (show (1 : Int32) = 0 from z) (by decide)⟩
    · exact absurd c_5_7 (by decide)
  · refine j_w w hw13 ?_
    refine j_if_ne (tgt := 38) dX11_given_5 (by decide) (fun c_5_21 => ?_) (fun c_5_21 => ?_)
    · exact absurd c_5_21 (by decide)
    · refine j_iload_n dX11_given_8 rfl ?_
      refine j_sipush (v := (-1000)) dX11_given_9 (by decide) ?_
      refine j_sipush (v := 999) dX11_given_12 (by decide) ?_
      refine j_callS dX11_given_15 kX11_isIn lX11_59 stX11_isIn (cm_isIn hl w _ _ _) (Nat.le_of_ble_eq_true rfl) ⟨(Nat.le_of_ble_eq_true rfl), (Nat.le_of_ble_eq_true rfl)⟩ rfl (Nat.le_of_ble_eq_true rfl) rfl rfl (fun _ _ h => h.elim) ?_
      rintro _ _ ⟨⟨rfl, hye14⟩ | ⟨rfl, hno14⟩, hw14⟩
      · refine j_w w hw14 ?_
        refine j_if_eq (tgt := 38) dX11_given_18 (by decide) (fun c_18_29 => ?_) (fun c_18_29 => ?_)
        · exact absurd c_18_29 (by decide)
        · refine j_iload_n dX11_given_21 rfl ?_
          refine j_iconst (v := 0) dX11_given_22 (by decide) ?_
          refine j_iconst (v := 5) dX11_given_23 (by decide) ?_
          refine j_callS dX11_given_24 kX11_isIn lX11_59 stX11_isIn (cm_isIn hl w _ _ _) (Nat.le_of_ble_eq_true rfl) ⟨(Nat.le_of_ble_eq_true rfl), (Nat.le_of_ble_eq_true rfl)⟩ rfl (Nat.le_of_ble_eq_true rfl) rfl rfl (fun _ _ h => h.elim) ?_
          rintro _ _ ⟨⟨rfl, hye15⟩ | ⟨rfl, hno15⟩, hw15⟩
          · refine j_w w hw15 ?_
            refine j_if_eq (tgt := 38) dX11_given_27 (by decide) (fun c_27_37 => ?_) (fun c_27_37 => ?_)
            · exact absurd c_27_37 (by decide)
            · refine j_iload dX11_given_30 rfl ?_
              refine j_callS dX11_given_32 kX11_isNoValue lX11_79 stX11_isNoValue (cm_isNoValue hl w _) (Nat.le_of_ble_eq_true rfl) ⟨(Nat.le_of_ble_eq_true rfl), (Nat.le_of_ble_eq_true rfl)⟩ rfl (Nat.le_of_ble_eq_true rfl) rfl rfl (fun _ _ h => h.elim) ?_
              rintro _ _ ⟨⟨rfl, hno16⟩ | ⟨rfl, hye16⟩, hw16⟩
              · refine j_w w hw16 ?_
                refine j_if_eq (tgt := 42) dX11_given_35 (by decide) (fun c_35_43 => ?_) (fun c_35_43 => ?_)
                · exact absurd c_35_43 (by decide)
                · refine j_iconst (v := 1) dX11_given_38 (by decide) ?_
                  refine j_goto (tgt := 43) dX11_given_39 (by decide) ?_
                  refine j_iconst (v := 1) dX11_given_43 (by decide) ?_
                  refine j_callV (q := (RX11, TX11, 8)) dX11_given_44 kX11_start lX11_76 inX11_start seX11_start h.m rfl (cm_start1 hl w _ _ h (by decide)) (Nat.le_of_ble_eq_true rfl) ⟨(Nat.le_of_ble_eq_true rfl), (Nat.le_of_ble_eq_true rfl)⟩ rfl (Nat.le_of_ble_eq_true rfl) rfl rfl (fun _ _ h => h.elim) ?_
                  rintro _ w2 ⟨rfl, fm2, h2⟩
                  have ke2 := z_ke h2 ke0 rfl
                  refine j_if_eq (tgt := 52) dX11_given_47 (by decide) (fun c_47_51 => ?_) (fun c_47_51 => ?_)
                  · exact absurd c_47_51 (by decide)
                  · refine j_iconst (v := 0) dX11_given_50 (by decide) ?_
                    refine j_iret dX11_given_51 rfl rfl ?_ (Nat.le_of_ble_eq_true rfl) (Nat.le_of_ble_eq_true rfl)
                    exact ⟨_, _, rfl, (fm2.le (q' := 59) (by decide)), h2, ke2, (if_pos (Or.inr (Or.inr (Or.inr (q_nin hno16))))).symm, fun z => absurd (show (1 : Int32) = 0 from z) (by decide)⟩
              · refine j_w w hw16 ?_
                refine j_if_eq (tgt := 42) dX11_given_35 (by decide) (fun c_35_57 => ?_) (fun c_35_57 => ?_)
                · refine j_iconst (v := 0) dX11_given_42 (by decide) ?_
                  refine j_iconst (v := 1) dX11_given_43 (by decide) ?_
                  refine j_callV (q := (RX11, TX11, 8)) dX11_given_44 kX11_start lX11_76 inX11_start seX11_start h.m rfl (cm_start0 hl w _ _ h) (Nat.le_of_ble_eq_true rfl) ⟨(Nat.le_of_ble_eq_true rfl), (Nat.le_of_ble_eq_true rfl)⟩ rfl (Nat.le_of_ble_eq_true rfl) rfl rfl (fun _ _ h => h.elim) ?_
                  rintro _ w3 ⟨rfl, fm3, h3⟩
                  have ke3 := z_ke h3 ke0 rfl
                  refine j_if_eq (tgt := 52) dX11_given_47 (by decide) (fun c_47_63 => ?_) (fun c_47_63 => ?_)
                  · refine j_iload_n dX11_given_52 rfl ?_
                    refine j_iload_n dX11_given_53 rfl ?_
                    refine j_iload_n dX11_given_54 rfl ?_
                    refine j_sipush (v := (-1000)) dX11_given_55 (by decide) ?_
                    refine j_icmp_ne (tgt := 65) dX11_given_58 (by decide) (fun c_58_68 => ?_) (fun c_58_68 => ?_)
                    · have hd : q_d c = c := if_neg c_58_68
                      refine j_iload_n dX11_given_65 rfl ?_
                      refine j_iload dX11_given_66 rfl ?_
                      refine j_callS dX11_given_68 kX11_rule lX11_115 stX11_rule (cm_rule_e hl w3 _ _ _ _) (Nat.le_of_ble_eq_true rfl) ⟨(Nat.le_of_ble_eq_true rfl), (Nat.le_of_ble_eq_true rfl)⟩ rfl (Nat.le_of_ble_eq_true rfl) rfl rfl (fun _ _ h => h.elim) ?_
                      rintro _ _ ⟨rfl, hw17⟩
                      refine j_w w3 hw17 ?_
                      refine j_istore (lo' := [(5, _), (0, _), (1, _), (2, _), (3, _), (4, _)]) dX11_given_71 (by decide) rfl ?_
                      refine j_iload dX11_given_73 rfl ?_
                      refine j_ldc dX11_given_75 kcX11_67 ?_
                      refine j_icmp_ne (tgt := 85) dX11_given_77 (by decide) (fun c_77_78 => ?_) (fun c_77_78 => ?_)
                      · refine j_iload dX11_given_85 rfl ?_
                        refine j_iret dX11_given_87 rfl rfl ?_ (Nat.le_of_ble_eq_true rfl) (Nat.le_of_ble_eq_true rfl)
                        exact ⟨_, _, rfl, (fm3.le (q' := 59) (by decide)), h3, ke3, (q_k1a (q_key20 hye13) (q_inn hye14) (q_inn hye15) (q_inn hye16)).symm, fun _ => by first | exact (by rw [hd]; exact q_g2 c_77_78) | (rw [← hd] at c_77_78; exact (q_gm1 (q_inn hye14) (q_inn hye16) c_77_78).symm)⟩
                      · refine j_bipush (v := (-9)) dX11_given_80 (by decide) ?_
                        refine j_goto (tgt := 87) dX11_given_82 (by decide) ?_
                        refine j_iret dX11_given_87 rfl rfl ?_ (Nat.le_of_ble_eq_true rfl) (Nat.le_of_ble_eq_true rfl)
                        exact ⟨_, _, rfl, (fm3.le (q' := 59) (by decide)), h3, ke3, (q_k1a (q_key20 hye13) (q_inn hye14) (q_inn hye15) (q_inn hye16)).symm, fun _ => by first | exact (by rw [hd]; exact q_g2 c_77_78) | (rw [← hd] at c_77_78; exact (q_gm1 (q_inn hye14) (q_inn hye16) c_77_78).symm)⟩
                    · have hd : q_d c = 0 := if_pos c_58_68
                      refine j_iconst (v := 0) dX11_given_61 (by decide) ?_
                      refine j_goto (tgt := 66) dX11_given_62 (by decide) ?_
                      refine j_iload dX11_given_66 rfl ?_
                      refine j_callS dX11_given_68 kX11_rule lX11_115 stX11_rule (cm_rule_e hl w3 _ _ _ _) (Nat.le_of_ble_eq_true rfl) ⟨(Nat.le_of_ble_eq_true rfl), (Nat.le_of_ble_eq_true rfl)⟩ rfl (Nat.le_of_ble_eq_true rfl) rfl rfl (fun _ _ h => h.elim) ?_
                      rintro _ _ ⟨rfl, hw18⟩
                      refine j_w w3 hw18 ?_
                      refine j_istore (lo' := [(5, _), (0, _), (1, _), (2, _), (3, _), (4, _)]) dX11_given_71 (by decide) rfl ?_
                      refine j_iload dX11_given_73 rfl ?_
                      refine j_ldc dX11_given_75 kcX11_67 ?_
                      refine j_icmp_ne (tgt := 85) dX11_given_77 (by decide) (fun c_77_96 => ?_) (fun c_77_96 => ?_)
                      · refine j_iload dX11_given_85 rfl ?_
                        refine j_iret dX11_given_87 rfl rfl ?_ (Nat.le_of_ble_eq_true rfl) (Nat.le_of_ble_eq_true rfl)
                        exact ⟨_, _, rfl, (fm3.le (q' := 59) (by decide)), h3, ke3, (q_k1a (q_key20 hye13) (q_inn hye14) (q_inn hye15) (q_inn hye16)).symm, fun _ => by first | exact (by rw [hd]; exact q_g2 c_77_96) | (rw [← hd] at c_77_96; exact (q_gm1 (q_inn hye14) (q_inn hye16) c_77_96).symm)⟩
                      · refine j_bipush (v := (-9)) dX11_given_80 (by decide) ?_
                        refine j_goto (tgt := 87) dX11_given_82 (by decide) ?_
                        refine j_iret dX11_given_87 rfl rfl ?_ (Nat.le_of_ble_eq_true rfl) (Nat.le_of_ble_eq_true rfl)
                        exact ⟨_, _, rfl, (fm3.le (q' := 59) (by decide)), h3, ke3, (q_k1a (q_key20 hye13) (q_inn hye14) (q_inn hye15) (q_inn hye16)).symm, fun _ => by first | exact (by rw [hd]; exact q_g2 c_77_96) | (rw [← hd] at c_77_96; exact (q_gm1 (q_inn hye14) (q_inn hye16) c_77_96).symm)⟩
                  · exact absurd c_47_63 (by decide)
                · exact absurd c_35_57 (by decide)
          · refine j_w w hw15 ?_
            refine j_if_eq (tgt := 38) dX11_given_27 (by decide) (fun c_27_107 => ?_) (fun c_27_107 => ?_)
            · refine j_iconst (v := 1) dX11_given_38 (by decide) ?_
              refine j_goto (tgt := 43) dX11_given_39 (by decide) ?_
              refine j_iconst (v := 1) dX11_given_43 (by decide) ?_
              refine j_callV (q := (RX11, TX11, 8)) dX11_given_44 kX11_start lX11_76 inX11_start seX11_start h.m rfl (cm_start1 hl w _ _ h (by decide)) (Nat.le_of_ble_eq_true rfl) ⟨(Nat.le_of_ble_eq_true rfl), (Nat.le_of_ble_eq_true rfl)⟩ rfl (Nat.le_of_ble_eq_true rfl) rfl rfl (fun _ _ h => h.elim) ?_
              rintro _ w4 ⟨rfl, fm4, h4⟩
              have ke4 := z_ke h4 ke0 rfl
              refine j_if_eq (tgt := 52) dX11_given_47 (by decide) (fun c_47_114 => ?_) (fun c_47_114 => ?_)
              · exact absurd c_47_114 (by decide)
              · refine j_iconst (v := 0) dX11_given_50 (by decide) ?_
                refine j_iret dX11_given_51 rfl rfl ?_ (Nat.le_of_ble_eq_true rfl) (Nat.le_of_ble_eq_true rfl)
                exact ⟨_, _, rfl, (fm4.le (q' := 59) (by decide)), h4, ke4, (if_pos (Or.inr (Or.inr (Or.inl (q_nin hno15))))).symm, fun z => absurd (show (1 : Int32) = 0 from z) (by decide)⟩
            · exact absurd c_27_107 (by decide)
      · refine j_w w hw14 ?_
        refine j_if_eq (tgt := 38) dX11_given_18 (by decide) (fun c_18_121 => ?_) (fun c_18_121 => ?_)
        · refine j_iconst (v := 1) dX11_given_38 (by decide) ?_
          refine j_goto (tgt := 43) dX11_given_39 (by decide) ?_
          refine j_iconst (v := 1) dX11_given_43 (by decide) ?_
          refine j_callV (q := (RX11, TX11, 8)) dX11_given_44 kX11_start lX11_76 inX11_start seX11_start h.m rfl (cm_start1 hl w _ _ h (by decide)) (Nat.le_of_ble_eq_true rfl) ⟨(Nat.le_of_ble_eq_true rfl), (Nat.le_of_ble_eq_true rfl)⟩ rfl (Nat.le_of_ble_eq_true rfl) rfl rfl (fun _ _ h => h.elim) ?_
          rintro _ w5 ⟨rfl, fm5, h5⟩
          have ke5 := z_ke h5 ke0 rfl
          refine j_if_eq (tgt := 52) dX11_given_47 (by decide) (fun c_47_128 => ?_) (fun c_47_128 => ?_)
          · exact absurd c_47_128 (by decide)
          · refine j_iconst (v := 0) dX11_given_50 (by decide) ?_
            refine j_iret dX11_given_51 rfl rfl ?_ (Nat.le_of_ble_eq_true rfl) (Nat.le_of_ble_eq_true rfl)
            exact ⟨_, _, rfl, (fm5.le (q' := 59) (by decide)), h5, ke5, (if_pos (Or.inr (Or.inl (q_nin hno14)))).symm, fun z => absurd (show (1 : Int32) = 0 from z) (by decide)⟩
        · exact absurd c_18_121 (by decide)
set_option maxRecDepth 100000 in
set_option maxHeartbeats 8000000 in
theorem cm_tested_e (hl : l.stackTraces = false) (w : z_W) (s : z_Z) (x y z : Int32) (h : z_mst w s)  : z_Con G l mX11_tested 20 0 0 w [.ref 1000, .int x, .int y, .int z] (fun v w9 => ∃ (r : Int32) (s9 : z_Z), v = some (.int r) ∧ z_fm 59 w w9 ∧ z_mst w9 s9 ∧ z_key s9 = z_key s ∧ s9.1.1 = q_k1 ((x < 0 ∨ 5 < x) ∨ (y < -999 ∨ 999 < y) ∨ (z < -999 ∨ 999 < z)) ∧ (s9.1.1 = 0 → r = (q_tt x y z).getD (-9))) (fun _ _ => False) := by
  have ke0 : z_key s = z_key s := rfl
  refine z_body hl (by decide) rfl (Nat.le_of_ble_eq_true rfl) ?_
  show z_J G l mX11_tested _ 0 [(0, _), (1, _), (2, _), (3, _)] [] _ 0 0
  refine j_aload_n dX11_tested_0 rfl rfl ?_
  refine j_iload_n dX11_tested_1 rfl ?_
  refine j_iconst (v := 0) dX11_tested_2 (by decide) ?_
  refine j_iconst (v := 5) dX11_tested_3 (by decide) ?_
  refine j_callS dX11_tested_4 kX11_isIn lX11_59 stX11_isIn (cm_isIn hl w _ _ _) (Nat.le_of_ble_eq_true rfl) ⟨(Nat.le_of_ble_eq_true rfl), (Nat.le_of_ble_eq_true rfl)⟩ rfl (Nat.le_of_ble_eq_true rfl) rfl rfl (fun _ _ h => h.elim) ?_
  rintro _ _ ⟨⟨rfl, hye19⟩ | ⟨rfl, hno19⟩, hw19⟩
  · refine j_w w hw19 ?_
    refine j_if_eq (tgt := 24) dX11_tested_7 (by decide) (fun c_7_9 => ?_) (fun c_7_9 => ?_)
    · exact absurd c_7_9 (by decide)
    · refine j_iload_n dX11_tested_10 rfl ?_
      refine j_callS dX11_tested_11 kX11_isNoValue lX11_79 stX11_isNoValue (cm_isNoValue hl w _) (Nat.le_of_ble_eq_true rfl) ⟨(Nat.le_of_ble_eq_true rfl), (Nat.le_of_ble_eq_true rfl)⟩ rfl (Nat.le_of_ble_eq_true rfl) rfl rfl (fun _ _ h => h.elim) ?_
      rintro _ _ ⟨⟨rfl, hno20⟩ | ⟨rfl, hye20⟩, hw20⟩
      · refine j_w w hw20 ?_
        refine j_if_ne (tgt := 24) dX11_tested_14 (by decide) (fun c_14_15 => ?_) (fun c_14_15 => ?_)
        · refine j_iconst (v := 1) dX11_tested_24 (by decide) ?_
          refine j_goto (tgt := 29) dX11_tested_25 (by decide) ?_
          refine j_iconst (v := 1) dX11_tested_29 (by decide) ?_
          refine j_callV (q := (RX11, TX11, 8)) dX11_tested_30 kX11_start lX11_76 inX11_start seX11_start h.m rfl (cm_start1 hl w _ _ h (by decide)) (Nat.le_of_ble_eq_true rfl) ⟨(Nat.le_of_ble_eq_true rfl), (Nat.le_of_ble_eq_true rfl)⟩ rfl (Nat.le_of_ble_eq_true rfl) rfl rfl (fun _ _ h => h.elim) ?_
          rintro _ w1 ⟨rfl, fm1, h1⟩
          have ke1 := z_ke h1 ke0 rfl
          refine j_if_eq (tgt := 38) dX11_tested_33 (by decide) (fun c_33_22 => ?_) (fun c_33_22 => ?_)
          · exact absurd c_33_22 (by decide)
          · refine j_iconst (v := 0) dX11_tested_36 (by decide) ?_
            refine j_iret dX11_tested_37 rfl rfl ?_ (Nat.le_of_ble_eq_true rfl) (Nat.le_of_ble_eq_true rfl)
            exact ⟨_, _, rfl, (fm1.le (q' := 59) (by decide)), h1, ke1, (if_pos (Or.inr (Or.inl (q_nin hno20)))).symm, fun z => absurd (show (1 : Int32) = 0 from z) (by decide)⟩
        · exact absurd c_14_15 (by decide)
      · refine j_w w hw20 ?_
        refine j_if_ne (tgt := 24) dX11_tested_14 (by decide) (fun c_14_29 => ?_) (fun c_14_29 => ?_)
        · exact absurd c_14_29 (by decide)
        · refine j_iload_n dX11_tested_17 rfl ?_
          refine j_callS dX11_tested_18 kX11_isNoValue lX11_79 stX11_isNoValue (cm_isNoValue hl w _) (Nat.le_of_ble_eq_true rfl) ⟨(Nat.le_of_ble_eq_true rfl), (Nat.le_of_ble_eq_true rfl)⟩ rfl (Nat.le_of_ble_eq_true rfl) rfl rfl (fun _ _ h => h.elim) ?_
          rintro _ _ ⟨⟨rfl, hno21⟩ | ⟨rfl, hye21⟩, hw21⟩
          · refine j_w w hw21 ?_
            refine j_if_eq (tgt := 28) dX11_tested_21 (by decide) (fun c_21_35 => ?_) (fun c_21_35 => ?_)
            · exact absurd c_21_35 (by decide)
            · refine j_iconst (v := 1) dX11_tested_24 (by decide) ?_
              refine j_goto (tgt := 29) dX11_tested_25 (by decide) ?_
              refine j_iconst (v := 1) dX11_tested_29 (by decide) ?_
              refine j_callV (q := (RX11, TX11, 8)) dX11_tested_30 kX11_start lX11_76 inX11_start seX11_start h.m rfl (cm_start1 hl w _ _ h (by decide)) (Nat.le_of_ble_eq_true rfl) ⟨(Nat.le_of_ble_eq_true rfl), (Nat.le_of_ble_eq_true rfl)⟩ rfl (Nat.le_of_ble_eq_true rfl) rfl rfl (fun _ _ h => h.elim) ?_
              rintro _ w2 ⟨rfl, fm2, h2⟩
              have ke2 := z_ke h2 ke0 rfl
              refine j_if_eq (tgt := 38) dX11_tested_33 (by decide) (fun c_33_43 => ?_) (fun c_33_43 => ?_)
              · exact absurd c_33_43 (by decide)
              · refine j_iconst (v := 0) dX11_tested_36 (by decide) ?_
                refine j_iret dX11_tested_37 rfl rfl ?_ (Nat.le_of_ble_eq_true rfl) (Nat.le_of_ble_eq_true rfl)
                exact ⟨_, _, rfl, (fm2.le (q' := 59) (by decide)), h2, ke2, (if_pos (Or.inr (Or.inr (q_nin hno21)))).symm, fun z => absurd (show (1 : Int32) = 0 from z) (by decide)⟩
          · refine j_w w hw21 ?_
            refine j_if_eq (tgt := 28) dX11_tested_21 (by decide) (fun c_21_49 => ?_) (fun c_21_49 => ?_)
            · refine j_iconst (v := 0) dX11_tested_28 (by decide) ?_
              refine j_iconst (v := 1) dX11_tested_29 (by decide) ?_
              refine j_callV (q := (RX11, TX11, 8)) dX11_tested_30 kX11_start lX11_76 inX11_start seX11_start h.m rfl (cm_start0 hl w _ _ h) (Nat.le_of_ble_eq_true rfl) ⟨(Nat.le_of_ble_eq_true rfl), (Nat.le_of_ble_eq_true rfl)⟩ rfl (Nat.le_of_ble_eq_true rfl) rfl rfl (fun _ _ h => h.elim) ?_
              rintro _ w3 ⟨rfl, fm3, h3⟩
              have ke3 := z_ke h3 ke0 rfl
              refine j_if_eq (tgt := 38) dX11_tested_33 (by decide) (fun c_33_55 => ?_) (fun c_33_55 => ?_)
              · refine j_iload_n dX11_tested_38 rfl ?_
                refine j_iload_n dX11_tested_39 rfl ?_
                refine j_iload_n dX11_tested_40 rfl ?_
                refine j_callS dX11_tested_41 kX11_test lX11_112 stX11_test (cm_test_e hl w3 _ _ _) (Nat.le_of_ble_eq_true rfl) ⟨(Nat.le_of_ble_eq_true rfl), (Nat.le_of_ble_eq_true rfl)⟩ rfl (Nat.le_of_ble_eq_true rfl) rfl rfl (fun _ _ h => h.elim) ?_
                rintro _ _ ⟨rfl, hw22⟩
                refine j_w w3 hw22 ?_
                refine j_istore (lo' := [(4, _), (0, _), (1, _), (2, _), (3, _)]) dX11_tested_44 (by decide) rfl ?_
                refine j_iload dX11_tested_46 rfl ?_
                refine j_ldc dX11_tested_48 kcX11_67 ?_
                refine j_icmp_ne (tgt := 58) dX11_tested_50 (by decide) (fun c_50_65 => ?_) (fun c_50_65 => ?_)
                · refine j_iload dX11_tested_58 rfl ?_
                  refine j_iret dX11_tested_60 rfl rfl ?_ (Nat.le_of_ble_eq_true rfl) (Nat.le_of_ble_eq_true rfl)
                  exact ⟨_, _, rfl, (fm3.le (q' := 59) (by decide)), h3, ke3, (q_k1b (q_inn hye19) (q_inn hye20) (q_inn hye21)).symm, fun _ => by first | exact q_g2 c_50_65 | exact (q_hm1 c_50_65).symm⟩
                · refine j_bipush (v := (-9)) dX11_tested_53 (by decide) ?_
                  refine j_goto (tgt := 60) dX11_tested_55 (by decide) ?_
                  refine j_iret dX11_tested_60 rfl rfl ?_ (Nat.le_of_ble_eq_true rfl) (Nat.le_of_ble_eq_true rfl)
                  exact ⟨_, _, rfl, (fm3.le (q' := 59) (by decide)), h3, ke3, (q_k1b (q_inn hye19) (q_inn hye20) (q_inn hye21)).symm, fun _ => by first | exact q_g2 c_50_65 | exact (q_hm1 c_50_65).symm⟩
              · exact absurd c_33_55 (by decide)
            · exact absurd c_21_49 (by decide)
  · refine j_w w hw19 ?_
    refine j_if_eq (tgt := 24) dX11_tested_7 (by decide) (fun c_7_76 => ?_) (fun c_7_76 => ?_)
    · refine j_iconst (v := 1) dX11_tested_24 (by decide) ?_
      refine j_goto (tgt := 29) dX11_tested_25 (by decide) ?_
      refine j_iconst (v := 1) dX11_tested_29 (by decide) ?_
      refine j_callV (q := (RX11, TX11, 8)) dX11_tested_30 kX11_start lX11_76 inX11_start seX11_start h.m rfl (cm_start1 hl w _ _ h (by decide)) (Nat.le_of_ble_eq_true rfl) ⟨(Nat.le_of_ble_eq_true rfl), (Nat.le_of_ble_eq_true rfl)⟩ rfl (Nat.le_of_ble_eq_true rfl) rfl rfl (fun _ _ h => h.elim) ?_
      rintro _ w4 ⟨rfl, fm4, h4⟩
      have ke4 := z_ke h4 ke0 rfl
      refine j_if_eq (tgt := 38) dX11_tested_33 (by decide) (fun c_33_83 => ?_) (fun c_33_83 => ?_)
      · exact absurd c_33_83 (by decide)
      · refine j_iconst (v := 0) dX11_tested_36 (by decide) ?_
        refine j_iret dX11_tested_37 rfl rfl ?_ (Nat.le_of_ble_eq_true rfl) (Nat.le_of_ble_eq_true rfl)
        exact ⟨_, _, rfl, (fm4.le (q' := 59) (by decide)), h4, ke4, (if_pos (Or.inl (q_nin hno19))).symm, fun z => absurd (show (1 : Int32) = 0 from z) (by decide)⟩
    · exact absurd c_7_76 (by decide)
set_option maxRecDepth 100000 in
set_option maxHeartbeats 8000000 in
theorem cm_takeStep_e (hl : l.stackTraces = false) (w : z_W) (s : z_Z) (x y : Int32) (h : z_mst w s)  : z_Con G l mX11_takeStep 20 0 0 w [.ref 1000, .int x, .int y] (fun v w9 => ∃ (r : Int32) (s9 : z_Z), v = some (.int r) ∧ z_fm 59 w w9 ∧ z_mst w9 s9 ∧ z_key s9 = z_key s ∧ s9.1.1 = q_k1 ((y < -999 ∨ 999 < y) ∨ (x < -999 ∨ y < x)) ∧ (s9.1.1 = 0 → r = -9)) (fun _ _ => False) := by
  have ke0 : z_key s = z_key s := rfl
  refine z_body hl (by decide) rfl (Nat.le_of_ble_eq_true rfl) ?_
  show z_J G l mX11_takeStep _ 0 [(0, _), (1, _), (2, _)] [] _ 0 0
  refine j_aload_n dX11_takeStep_0 rfl rfl ?_
  refine j_iload_n dX11_takeStep_1 rfl ?_
  refine j_callS dX11_takeStep_2 kX11_isNoValue lX11_79 stX11_isNoValue (cm_isNoValue hl w _) (Nat.le_of_ble_eq_true rfl) ⟨(Nat.le_of_ble_eq_true rfl), (Nat.le_of_ble_eq_true rfl)⟩ rfl (Nat.le_of_ble_eq_true rfl) rfl rfl (fun _ _ h => h.elim) ?_
  rintro _ _ ⟨⟨rfl, hno23⟩ | ⟨rfl, hye23⟩, hw23⟩
  · refine j_w w hw23 ?_
    refine j_if_ne (tgt := 20) dX11_takeStep_5 (by decide) (fun c_5_7 => ?_) (fun c_5_7 => ?_)
    · refine j_iconst (v := 1) dX11_takeStep_20 (by decide) ?_
      refine j_goto (tgt := 25) dX11_takeStep_21 (by decide) ?_
      refine j_iconst (v := 1) dX11_takeStep_25 (by decide) ?_
      refine j_callV (q := (RX11, TX11, 8)) dX11_takeStep_26 kX11_start lX11_76 inX11_start seX11_start h.m rfl (cm_start1 hl w _ _ h (by decide)) (Nat.le_of_ble_eq_true rfl) ⟨(Nat.le_of_ble_eq_true rfl), (Nat.le_of_ble_eq_true rfl)⟩ rfl (Nat.le_of_ble_eq_true rfl) rfl rfl (fun _ _ h => h.elim) ?_
      rintro _ w1 ⟨rfl, fm1, h1⟩
      have ke1 := z_ke h1 ke0 rfl
      refine j_if_eq (tgt := 36) dX11_takeStep_29 (by decide) (fun c_29_14 => ?_) (fun c_29_14 => ?_)
      · exact absurd c_29_14 (by decide)
      · refine j_iconst (v := 0) dX11_takeStep_32 (by decide) ?_
        refine j_goto (tgt := 40) dX11_takeStep_33 (by decide) ?_
        refine j_iret dX11_takeStep_40 rfl rfl ?_ (Nat.le_of_ble_eq_true rfl) (Nat.le_of_ble_eq_true rfl)
        exact ⟨_, _, rfl, (fm1.le (q' := 59) (by decide)), h1, ke1, (if_pos (q_ts.mpr (fun z => hno23 z.1))).symm, fun z => absurd (show (1 : Int32) = 0 from z) (by decide)⟩
    · exact absurd c_5_7 (by decide)
  · refine j_w w hw23 ?_
    refine j_if_ne (tgt := 20) dX11_takeStep_5 (by decide) (fun c_5_22 => ?_) (fun c_5_22 => ?_)
    · exact absurd c_5_22 (by decide)
    · refine j_iload_n dX11_takeStep_8 rfl ?_
      refine j_callS dX11_takeStep_9 kX11_isNoValue lX11_79 stX11_isNoValue (cm_isNoValue hl w _) (Nat.le_of_ble_eq_true rfl) ⟨(Nat.le_of_ble_eq_true rfl), (Nat.le_of_ble_eq_true rfl)⟩ rfl (Nat.le_of_ble_eq_true rfl) rfl rfl (fun _ _ h => h.elim) ?_
      rintro _ _ ⟨⟨rfl, hno24⟩ | ⟨rfl, hye24⟩, hw24⟩
      · refine j_w w hw24 ?_
        refine j_if_ne (tgt := 20) dX11_takeStep_12 (by decide) (fun c_12_28 => ?_) (fun c_12_28 => ?_)
        · refine j_iconst (v := 1) dX11_takeStep_20 (by decide) ?_
          refine j_goto (tgt := 25) dX11_takeStep_21 (by decide) ?_
          refine j_iconst (v := 1) dX11_takeStep_25 (by decide) ?_
          refine j_callV (q := (RX11, TX11, 8)) dX11_takeStep_26 kX11_start lX11_76 inX11_start seX11_start h.m rfl (cm_start1 hl w _ _ h (by decide)) (Nat.le_of_ble_eq_true rfl) ⟨(Nat.le_of_ble_eq_true rfl), (Nat.le_of_ble_eq_true rfl)⟩ rfl (Nat.le_of_ble_eq_true rfl) rfl rfl (fun _ _ h => h.elim) ?_
          rintro _ w2 ⟨rfl, fm2, h2⟩
          have ke2 := z_ke h2 ke0 rfl
          refine j_if_eq (tgt := 36) dX11_takeStep_29 (by decide) (fun c_29_35 => ?_) (fun c_29_35 => ?_)
          · exact absurd c_29_35 (by decide)
          · refine j_iconst (v := 0) dX11_takeStep_32 (by decide) ?_
            refine j_goto (tgt := 40) dX11_takeStep_33 (by decide) ?_
            refine j_iret dX11_takeStep_40 rfl rfl ?_ (Nat.le_of_ble_eq_true rfl) (Nat.le_of_ble_eq_true rfl)
            exact ⟨_, _, rfl, (fm2.le (q' := 59) (by decide)), h2, ke2, (if_pos (q_ts.mpr (fun z => hno24 z.2.1))).symm, fun z => absurd (show (1 : Int32) = 0 from z) (by decide)⟩
        · exact absurd c_12_28 (by decide)
      · refine j_w w hw24 ?_
        refine j_if_ne (tgt := 20) dX11_takeStep_12 (by decide) (fun c_12_43 => ?_) (fun c_12_43 => ?_)
        · exact absurd c_12_43 (by decide)
        · refine j_iload_n dX11_takeStep_15 rfl ?_
          refine j_iload_n dX11_takeStep_16 rfl ?_
          refine j_icmp_le (tgt := 24) dX11_takeStep_17 (by decide) (fun c_17_47 => ?_) (fun c_17_47 => ?_)
          · refine j_iconst (v := 0) dX11_takeStep_24 (by decide) ?_
            refine j_iconst (v := 1) dX11_takeStep_25 (by decide) ?_
            refine j_callV (q := (RX11, TX11, 8)) dX11_takeStep_26 kX11_start lX11_76 inX11_start seX11_start h.m rfl (cm_start0 hl w _ _ h) (Nat.le_of_ble_eq_true rfl) ⟨(Nat.le_of_ble_eq_true rfl), (Nat.le_of_ble_eq_true rfl)⟩ rfl (Nat.le_of_ble_eq_true rfl) rfl rfl (fun _ _ h => h.elim) ?_
            rintro _ w3 ⟨rfl, fm3, h3⟩
            have ke3 := z_ke h3 ke0 rfl
            refine j_if_eq (tgt := 36) dX11_takeStep_29 (by decide) (fun c_29_53 => ?_) (fun c_29_53 => ?_)
            · refine j_aload_n dX11_takeStep_36 rfl rfl ?_
              refine j_callV (q := (RX11, TX11, 8)) dX11_takeStep_37 kX11_nine lX11_105 inX11_nine seX11_nine h3.m rfl (cm_nine hl w3 _ h3) (Nat.le_of_ble_eq_true rfl) ⟨(Nat.le_of_ble_eq_true rfl), (Nat.le_of_ble_eq_true rfl)⟩ rfl (Nat.le_of_ble_eq_true rfl) rfl rfl (fun _ _ h => h.elim) ?_
              rintro _ w4 ⟨rfl, fm4, h4⟩
              have ke4 := z_ke h4 ke3 rfl
              refine j_iret dX11_takeStep_40 rfl rfl ?_ (Nat.le_of_ble_eq_true rfl) (Nat.le_of_ble_eq_true rfl)
              exact ⟨_, _, rfl, ((fm3.le (q' := 59) (by decide)).tr (fm4.le (q' := 59) (by decide))), h4, ke4, (if_neg (fun z => q_ts.mp z ⟨hye23, hye24, c_17_47⟩)).symm, fun _ => rfl⟩
            · exact absurd c_29_53 (by decide)
          · refine j_iconst (v := 1) dX11_takeStep_20 (by decide) ?_
            refine j_goto (tgt := 25) dX11_takeStep_21 (by decide) ?_
            refine j_iconst (v := 1) dX11_takeStep_25 (by decide) ?_
            refine j_callV (q := (RX11, TX11, 8)) dX11_takeStep_26 kX11_start lX11_76 inX11_start seX11_start h.m rfl (cm_start1 hl w _ _ h (by decide)) (Nat.le_of_ble_eq_true rfl) ⟨(Nat.le_of_ble_eq_true rfl), (Nat.le_of_ble_eq_true rfl)⟩ rfl (Nat.le_of_ble_eq_true rfl) rfl rfl (fun _ _ h => h.elim) ?_
            rintro _ w5 ⟨rfl, fm5, h5⟩
            have ke5 := z_ke h5 ke0 rfl
            refine j_if_eq (tgt := 36) dX11_takeStep_29 (by decide) (fun c_29_67 => ?_) (fun c_29_67 => ?_)
            · exact absurd c_29_67 (by decide)
            · refine j_iconst (v := 0) dX11_takeStep_32 (by decide) ?_
              refine j_goto (tgt := 40) dX11_takeStep_33 (by decide) ?_
              refine j_iret dX11_takeStep_40 rfl rfl ?_ (Nat.le_of_ble_eq_true rfl) (Nat.le_of_ble_eq_true rfl)
              exact ⟨_, _, rfl, (fm5.le (q' := 59) (by decide)), h5, ke5, (if_pos (q_ts.mpr (fun z => c_17_47 z.2.2))).symm, fun z => absurd (show (1 : Int32) = 0 from z) (by decide)⟩
set_option maxRecDepth 100000 in
set_option maxHeartbeats 8000000 in
theorem cm_fix_e (hl : l.stackTraces = false) (w : z_W) (s : z_Z) (x y : Int32) (h : z_mst w s) (hy : narrow .boolean (.int y) = .int y) : z_Con G l mX11_fix 20 0 0 w [.ref 1000, .int x, .int y] (fun v w9 => ∃ (r : Int32) (s9 : z_Z), v = some (.int r) ∧ z_fm 59 w w9 ∧ z_mst w9 s9 ∧ s9.1.1 = q_k2 x ∧ ((¬ (x = 0 ∨ x = 1) ∧ z_key s9 = z_key s) ∨ ∃ i, i < 2 ∧ x = nI i ∧ ((r = 1 ∧ ¬ z_qf s i = 0) ∨ (r = 0 ∧ z_qf s i = 0)) ∧ z_key s9 = (s.1.2.2, z_ui (z_qf s) i y, fun h => (z_qh s h).1))) (fun _ _ => False) := by
  have ke0 : z_key s = z_key s := rfl
  refine z_body hl (by decide) rfl (Nat.le_of_ble_eq_true rfl) ?_
  show z_J G l mX11_fix _ 0 [(0, _), (1, _), (2, _)] [] _ 0 0
  refine j_aload_n dX11_fix_0 rfl rfl ?_
  refine j_iload_n dX11_fix_1 rfl ?_
  refine j_callS dX11_fix_2 kX11_isNoTwo lX11_72 stX11_isNoTwo (cm_isNoTwo hl w _) (Nat.le_of_ble_eq_true rfl) ⟨(Nat.le_of_ble_eq_true rfl), (Nat.le_of_ble_eq_true rfl)⟩ rfl (Nat.le_of_ble_eq_true rfl) rfl rfl (fun _ _ h => h.elim) ?_
  rintro _ _ ⟨⟨rfl, hno25⟩ | ⟨rfl, i25, hi25, rfl⟩, hw25⟩
  · refine j_w w hw25 ?_
    refine j_iconst (v := 1) dX11_fix_5 (by decide) ?_
    refine j_callV (q := (RX11, TX11, 8)) dX11_fix_6 kX11_start lX11_76 inX11_start seX11_start h.m rfl (cm_start1 hl w _ _ h (by decide)) (Nat.le_of_ble_eq_true rfl) ⟨(Nat.le_of_ble_eq_true rfl), (Nat.le_of_ble_eq_true rfl)⟩ rfl (Nat.le_of_ble_eq_true rfl) rfl rfl (fun _ _ h => h.elim) ?_
    rintro _ w1 ⟨rfl, fm1, h1⟩
    have ke1 := z_ke h1 ke0 rfl
    refine j_if_eq (tgt := 14) dX11_fix_9 (by decide) (fun c_9_11 => ?_) (fun c_9_11 => ?_)
    · exact absurd c_9_11 (by decide)
    · refine j_iconst (v := 0) dX11_fix_12 (by decide) ?_
      refine j_iret dX11_fix_13 rfl rfl ?_ (Nat.le_of_ble_eq_true rfl) (Nat.le_of_ble_eq_true rfl)
      exact ⟨_, _, rfl, (fm1.le (q' := 59) (by decide)), h1, (if_neg (q_no2 hno25)).symm, Or.inl ⟨q_no2 hno25, ke1⟩⟩
  · refine j_w w hw25 ?_
    refine j_iconst (v := 1) dX11_fix_5 (by decide) ?_
    refine j_callV (q := (RX11, TX11, 8)) dX11_fix_6 kX11_start lX11_76 inX11_start seX11_start h.m rfl (cm_start0 hl w _ _ h) (Nat.le_of_ble_eq_true rfl) ⟨(Nat.le_of_ble_eq_true rfl), (Nat.le_of_ble_eq_true rfl)⟩ rfl (Nat.le_of_ble_eq_true rfl) rfl rfl (fun _ _ h => h.elim) ?_
    rintro _ w2 ⟨rfl, fm2, h2⟩
    have ke2 := z_ke h2 ke0 rfl
    refine j_if_eq (tgt := 14) dX11_fix_9 (by decide) (fun c_9_21 => ?_) (fun c_9_21 => ?_)
    · refine j_aload_n dX11_fix_14 rfl rfl ?_
      refine j_getf dX11_fix_15 fX11_25 h2.m rfl ?_
      refine j_iload_n dX11_fix_18 rfl ?_
      refine j_zald dX11_fix_19 h2.fx (vp_in_nI (by omega) (by omega)) rfl ?_
      refine j_callS dX11_fix_20 kX11_one lX11_68 stX11_one (cm_one hl w2 _) (Nat.le_of_ble_eq_true rfl) ⟨(Nat.le_of_ble_eq_true rfl), (Nat.le_of_ble_eq_true rfl)⟩ rfl (Nat.le_of_ble_eq_true rfl) rfl rfl (fun _ _ h => h.elim) ?_
      rintro _ _ ⟨⟨rfl, ho27⟩ | ⟨rfl, ho27⟩, hw27⟩
      · refine j_w w2 hw27 ?_
        refine j_istore_n (lo' := [(3, _), (0, _), (1, _), (2, _)]) dX11_fix_23 (by decide) rfl ?_
        refine j_aload_n dX11_fix_24 rfl rfl ?_
        refine j_getf dX11_fix_25 fX11_25 h2.m rfl ?_
        refine j_iload_n dX11_fix_28 rfl ?_
        refine j_iload_n dX11_fix_29 rfl ?_
        refine j_zsto (w' := _) dX11_fix_30 h2.fx (vp_in_nI (by omega) (by omega)) hy rfl ?_
        refine j_seal (by omega) ?_
        intro w3 u3
        have fw3 := u3.fw (ρ := 42) (by omega) (by omega)
        have h3 := h2.up42 fw3 u3.1
        refine j_iload_n dX11_fix_31 rfl ?_
        refine j_iret dX11_fix_32 rfl rfl ?_ (Nat.le_of_ble_eq_true rfl) (Nat.le_of_ble_eq_true rfl)
        exact ⟨_, _, rfl, ((fm2.le (q' := 59) (by decide)).tr (fw3.fm (q := 59) (by omega))), h3, (if_pos (q_i2 hi25)).symm, Or.inr ⟨i25, by omega, rfl, Or.inl ⟨rfl, by have z := ho27; rw [z_cla (by omega)] at z; exact z⟩, by unfold z_key; show (s.1.2.2, z_ui (z_qf s) (nI i25).toNatClampNeg y, fun h => (z_qh s h).1) = _; rw [z_cla (by omega)]⟩⟩
      · refine j_w w2 hw27 ?_
        refine j_istore_n (lo' := [(3, _), (0, _), (1, _), (2, _)]) dX11_fix_23 (by decide) rfl ?_
        refine j_aload_n dX11_fix_24 rfl rfl ?_
        refine j_getf dX11_fix_25 fX11_25 h2.m rfl ?_
        refine j_iload_n dX11_fix_28 rfl ?_
        refine j_iload_n dX11_fix_29 rfl ?_
        refine j_zsto (w' := _) dX11_fix_30 h2.fx (vp_in_nI (by omega) (by omega)) hy rfl ?_
        refine j_seal (by omega) ?_
        intro w4 u4
        have fw4 := u4.fw (ρ := 42) (by omega) (by omega)
        have h4 := h2.up42 fw4 u4.1
        refine j_iload_n dX11_fix_31 rfl ?_
        refine j_iret dX11_fix_32 rfl rfl ?_ (Nat.le_of_ble_eq_true rfl) (Nat.le_of_ble_eq_true rfl)
        exact ⟨_, _, rfl, ((fm2.le (q' := 59) (by decide)).tr (fw4.fm (q := 59) (by omega))), h4, (if_pos (q_i2 hi25)).symm, Or.inr ⟨i25, by omega, rfl, Or.inr ⟨rfl, by have z := ho27; rw [z_cla (by omega)] at z; exact z⟩, by unfold z_key; show (s.1.2.2, z_ui (z_qf s) (nI i25).toNatClampNeg y, fun h => (z_qh s h).1) = _; rw [z_cla (by omega)]⟩⟩
    · exact absurd c_9_21 (by decide)
set_option maxRecDepth 100000 in
set_option maxHeartbeats 8000000 in
theorem cm_isFixed_e (hl : l.stackTraces = false) (w : z_W) (s : z_Z) (x : Int32) (h : z_mst w s)  : z_Con G l mX11_isFixed 20 0 0 w [.ref 1000, .int x] (fun v w9 => ∃ (r : Int32) (s9 : z_Z), v = some (.int r) ∧ z_fm 59 w w9 ∧ z_mst w9 s9 ∧ s9.1.1 = q_k2 x ∧ ((¬ (x = 0 ∨ x = 1) ∧ z_key s9 = z_key s) ∨ ∃ i, i < 2 ∧ x = nI i ∧ ((r = 1 ∧ ¬ z_qf s i = 0) ∨ (r = 0 ∧ z_qf s i = 0)) ∧ z_key s9 = z_key s)) (fun _ _ => False) := by
  have ke0 : z_key s = z_key s := rfl
  refine z_body hl (by decide) rfl (Nat.le_of_ble_eq_true rfl) ?_
  show z_J G l mX11_isFixed _ 0 [(0, _), (1, _)] [] _ 0 0
  refine j_aload_n dX11_isFixed_0 rfl rfl ?_
  refine j_iload_n dX11_isFixed_1 rfl ?_
  refine j_callS dX11_isFixed_2 kX11_isNoTwo lX11_72 stX11_isNoTwo (cm_isNoTwo hl w _) (Nat.le_of_ble_eq_true rfl) ⟨(Nat.le_of_ble_eq_true rfl), (Nat.le_of_ble_eq_true rfl)⟩ rfl (Nat.le_of_ble_eq_true rfl) rfl rfl (fun _ _ h => h.elim) ?_
  rintro _ _ ⟨⟨rfl, hno30⟩ | ⟨rfl, i30, hi30, rfl⟩, hw30⟩
  · refine j_w w hw30 ?_
    refine j_iconst (v := 1) dX11_isFixed_5 (by decide) ?_
    refine j_callV (q := (RX11, TX11, 8)) dX11_isFixed_6 kX11_start lX11_76 inX11_start seX11_start h.m rfl (cm_start1 hl w _ _ h (by decide)) (Nat.le_of_ble_eq_true rfl) ⟨(Nat.le_of_ble_eq_true rfl), (Nat.le_of_ble_eq_true rfl)⟩ rfl (Nat.le_of_ble_eq_true rfl) rfl rfl (fun _ _ h => h.elim) ?_
    rintro _ w1 ⟨rfl, fm1, h1⟩
    have ke1 := z_ke h1 ke0 rfl
    refine j_if_ne (tgt := 25) dX11_isFixed_9 (by decide) (fun c_9_11 => ?_) (fun c_9_11 => ?_)
    · refine j_iconst (v := 0) dX11_isFixed_25 (by decide) ?_
      refine j_iret dX11_isFixed_26 rfl rfl ?_ (Nat.le_of_ble_eq_true rfl) (Nat.le_of_ble_eq_true rfl)
      exact ⟨_, _, rfl, (fm1.le (q' := 59) (by decide)), h1, (if_neg (q_no2 hno30)).symm, Or.inl ⟨q_no2 hno30, ke1⟩⟩
    · exact absurd c_9_11 (by decide)
  · refine j_w w hw30 ?_
    refine j_iconst (v := 1) dX11_isFixed_5 (by decide) ?_
    refine j_callV (q := (RX11, TX11, 8)) dX11_isFixed_6 kX11_start lX11_76 inX11_start seX11_start h.m rfl (cm_start0 hl w _ _ h) (Nat.le_of_ble_eq_true rfl) ⟨(Nat.le_of_ble_eq_true rfl), (Nat.le_of_ble_eq_true rfl)⟩ rfl (Nat.le_of_ble_eq_true rfl) rfl rfl (fun _ _ h => h.elim) ?_
    rintro _ w2 ⟨rfl, fm2, h2⟩
    have ke2 := z_ke h2 ke0 rfl
    refine j_if_ne (tgt := 25) dX11_isFixed_9 (by decide) (fun c_9_21 => ?_) (fun c_9_21 => ?_)
    · exact absurd c_9_21 (by decide)
    · refine j_aload_n dX11_isFixed_12 rfl rfl ?_
      refine j_getf dX11_isFixed_13 fX11_25 h2.m rfl ?_
      refine j_iload_n dX11_isFixed_16 rfl ?_
      refine j_zald dX11_isFixed_17 h2.fx (vp_in_nI (by omega) (by omega)) rfl ?_
      refine j_if_eq (tgt := 25) dX11_isFixed_18 (by decide) (fun c_18_27 => ?_) (fun c_18_27 => ?_)
      · refine j_iconst (v := 0) dX11_isFixed_25 (by decide) ?_
        refine j_iret dX11_isFixed_26 rfl rfl ?_ (Nat.le_of_ble_eq_true rfl) (Nat.le_of_ble_eq_true rfl)
        first | exact ⟨_, _, rfl, (fm2.le (q' := 59) (by decide)), h2, (if_pos (q_i2 hi30)).symm, Or.inr ⟨i30, by omega, rfl, Or.inl ⟨rfl, by have z := c_18_27; rw [z_cla (by omega)] at z; exact z⟩, ke2⟩⟩ | exact ⟨_, _, rfl, (fm2.le (q' := 59) (by decide)), h2, (if_pos (q_i2 hi30)).symm, Or.inr ⟨i30, by omega, rfl, Or.inr ⟨rfl, by have z := c_18_27; rw [z_cla (by omega)] at z; exact z⟩, ke2⟩⟩
      · refine j_iconst (v := 1) dX11_isFixed_21 (by decide) ?_
        refine j_goto (tgt := 26) dX11_isFixed_22 (by decide) ?_
        refine j_iret dX11_isFixed_26 rfl rfl ?_ (Nat.le_of_ble_eq_true rfl) (Nat.le_of_ble_eq_true rfl)
        first | exact ⟨_, _, rfl, (fm2.le (q' := 59) (by decide)), h2, (if_pos (q_i2 hi30)).symm, Or.inr ⟨i30, by omega, rfl, Or.inl ⟨rfl, by have z := c_18_27; rw [z_cla (by omega)] at z; exact z⟩, ke2⟩⟩ | exact ⟨_, _, rfl, (fm2.le (q' := 59) (by decide)), h2, (if_pos (q_i2 hi30)).symm, Or.inr ⟨i30, by omega, rfl, Or.inr ⟨rfl, by have z := c_18_27; rw [z_cla (by omega)] at z; exact z⟩, ke2⟩⟩
set_option maxRecDepth 100000 in
set_option maxHeartbeats 8000000 in
theorem cm_stop_e (hl : l.stackTraces = false) (w : z_W) (s : z_Z) (x y : Int32) (h : z_mst w s)  : z_Con G l mX11_stop 20 0 0 w [.ref 1000, .int x, .int y] (fun v w9 => ∃ (r : Int32) (s9 : z_Z), v = some (.int r) ∧ z_fm 59 w w9 ∧ z_mst w9 s9 ∧ s9.1.1 = q_k22 x (y < -1000 ∨ 99999 < y) ∧ ((¬ s9.1.1 = 0 ∧ z_key s9 = z_key s) ∨ ∃ i, i < 2 ∧ x = nI i ∧ s9.1.1 = 0 ∧ r = (z_qh s i).1 ∧ z_key s9 = (s.1.2.2, z_qf s, z_fu (fun h => (z_qh s h).1) i y))) (fun _ _ => False) := by
  have ke0 : z_key s = z_key s := rfl
  refine z_body hl (by decide) rfl (Nat.le_of_ble_eq_true rfl) ?_
  show z_J G l mX11_stop _ 0 [(0, _), (1, _), (2, _)] [] _ 0 0
  refine j_aload_n dX11_stop_0 rfl rfl ?_
  refine j_iload_n dX11_stop_1 rfl ?_
  refine j_callS dX11_stop_2 kX11_isNoTwo lX11_72 stX11_isNoTwo (cm_isNoTwo hl w _) (Nat.le_of_ble_eq_true rfl) ⟨(Nat.le_of_ble_eq_true rfl), (Nat.le_of_ble_eq_true rfl)⟩ rfl (Nat.le_of_ble_eq_true rfl) rfl rfl (fun _ _ h => h.elim) ?_
  rintro _ _ ⟨⟨rfl, hno32⟩ | ⟨rfl, i32, hi32, rfl⟩, hw32⟩
  · refine j_w w hw32 ?_
    refine j_iconst (v := 1) dX11_stop_5 (by decide) ?_
    refine j_callV (q := (RX11, TX11, 8)) dX11_stop_6 kX11_start lX11_76 inX11_start seX11_start h.m rfl (cm_start1 hl w _ _ h (by decide)) (Nat.le_of_ble_eq_true rfl) ⟨(Nat.le_of_ble_eq_true rfl), (Nat.le_of_ble_eq_true rfl)⟩ rfl (Nat.le_of_ble_eq_true rfl) rfl rfl (fun _ _ h => h.elim) ?_
    rintro _ w1 ⟨rfl, fm1, h1⟩
    have ke1 := z_ke h1 ke0 rfl
    refine j_if_ne (tgt := 37) dX11_stop_9 (by decide) (fun c_9_11 => ?_) (fun c_9_11 => ?_)
    · refine j_iconst (v := 0) dX11_stop_37 (by decide) ?_
      refine j_iret dX11_stop_38 rfl rfl ?_ (Nat.le_of_ble_eq_true rfl) (Nat.le_of_ble_eq_true rfl)
      exact ⟨_, _, rfl, (fm1.le (q' := 59) (by decide)), h1, (if_neg (q_no2 hno32)).symm, Or.inl ⟨fun z => absurd (show (1 : Int32) = 0 from z) (by decide), ke1⟩⟩
    · exact absurd c_9_11 (by decide)
  · refine j_w w hw32 ?_
    refine j_iconst (v := 1) dX11_stop_5 (by decide) ?_
    refine j_callV (q := (RX11, TX11, 8)) dX11_stop_6 kX11_start lX11_76 inX11_start seX11_start h.m rfl (cm_start0 hl w _ _ h) (Nat.le_of_ble_eq_true rfl) ⟨(Nat.le_of_ble_eq_true rfl), (Nat.le_of_ble_eq_true rfl)⟩ rfl (Nat.le_of_ble_eq_true rfl) rfl rfl (fun _ _ h => h.elim) ?_
    rintro _ w2 ⟨rfl, fm2, h2⟩
    have ke2 := z_ke h2 ke0 rfl
    refine j_if_ne (tgt := 37) dX11_stop_9 (by decide) (fun c_9_21 => ?_) (fun c_9_21 => ?_)
    · exact absurd c_9_21 (by decide)
    · refine j_aload_n dX11_stop_12 rfl rfl ?_
      refine j_iload_n dX11_stop_13 rfl ?_
      refine j_sipush (v := (-1000)) dX11_stop_14 (by decide) ?_
      refine j_ldc dX11_stop_17 kcX11_189 ?_
      refine j_callS dX11_stop_19 kX11_isIn lX11_59 stX11_isIn (cm_isIn hl w2 _ _ _) (Nat.le_of_ble_eq_true rfl) ⟨(Nat.le_of_ble_eq_true rfl), (Nat.le_of_ble_eq_true rfl)⟩ rfl (Nat.le_of_ble_eq_true rfl) rfl rfl (fun _ _ h => h.elim) ?_
      rintro _ _ ⟨⟨rfl, hye33⟩ | ⟨rfl, hno33⟩, hw33⟩
      · refine j_w w2 hw33 ?_
        refine j_if_ne (tgt := 29) dX11_stop_22 (by decide) (fun c_22_30 => ?_) (fun c_22_30 => ?_)
        · refine j_iconst (v := 0) dX11_stop_29 (by decide) ?_
          refine j_iconst (v := 2) dX11_stop_30 (by decide) ?_
          refine j_callV (q := (RX11, TX11, 8)) dX11_stop_31 kX11_refuse lX11_52 inX11_refuse seX11_refuse h2.m rfl (cm_refuse0 hl w2 _ _ h2 rfl) (Nat.le_of_ble_eq_true rfl) ⟨(Nat.le_of_ble_eq_true rfl), (Nat.le_of_ble_eq_true rfl)⟩ rfl (Nat.le_of_ble_eq_true rfl) rfl rfl (fun _ _ h => h.elim) ?_
          rintro _ _ ⟨rfl, hw34⟩
          refine j_w w2 hw34 ?_
          refine j_if_eq (tgt := 39) dX11_stop_34 (by decide) (fun c_34_36 => ?_) (fun c_34_36 => ?_)
          · refine j_aload_n dX11_stop_39 rfl rfl ?_
            refine j_getf dX11_stop_40 fX11_40 h2.m rfl ?_
            refine j_iload_n dX11_stop_43 rfl ?_
            obtain ⟨fz35, gz35, hz35⟩ := h2.hs
            refine j_aald (v := .ref (1009 + i32)) dX11_stop_44 gz35 rfl rfl (vp_in_nI (by omega) (by omega)) (by rw [z_cla (by omega)]; exact hz35 _ (by omega)) ?_
            refine j_getf dX11_stop_45 fX11_190 (h2.hd (i := i32) (by omega)) rfl ?_
            refine j_istore_n (lo' := [(3, _), (0, _), (1, _), (2, _)]) dX11_stop_48 (by decide) rfl ?_
            refine j_aload_n dX11_stop_49 rfl rfl ?_
            refine j_getf dX11_stop_50 fX11_40 h2.m rfl ?_
            refine j_iload_n dX11_stop_53 rfl ?_
            obtain ⟨fz36, gz36, hz36⟩ := h2.hs
            refine j_aald (v := .ref (1009 + i32)) dX11_stop_54 gz36 rfl rfl (vp_in_nI (by omega) (by omega)) (by rw [z_cla (by omega)]; exact hz36 _ (by omega)) ?_
            refine j_iload_n dX11_stop_55 rfl ?_
            refine j_put (w' := _) dX11_stop_56 fX11_190 tX10_0 (h2.hd (i := i32) (by omega)) ⟨rfl, rfl⟩ rfl ?_
            refine j_seal (by omega) ?_
            intro w3 u3
            have fw3 := u3.fw (ρ := 49 + i32) (by omega) (by omega)
            have h3 := h2.up49 (i0 := i32) (by omega) fw3 u3.1
            refine j_iload_n dX11_stop_59 rfl ?_
            refine j_iret dX11_stop_60 rfl rfl ?_ (Nat.le_of_ble_eq_true rfl) (Nat.le_of_ble_eq_true rfl)
            exact ⟨_, _, rfl, ((fm2.le (q' := 59) (by decide)).tr (fw3.fm (q := 59) (by omega))), h3, (q_k2c (q_i2 hi32) (q_inn hye33)).symm, Or.inr ⟨i32, by omega, rfl, rfl, rfl, z_keS⟩⟩
          · exact absurd c_34_36 (by decide)
        · exact absurd c_22_30 (by decide)
      · refine j_w w2 hw33 ?_
        refine j_if_ne (tgt := 29) dX11_stop_22 (by decide) (fun c_22_61 => ?_) (fun c_22_61 => ?_)
        · exact absurd c_22_61 (by decide)
        · refine j_iconst (v := 1) dX11_stop_25 (by decide) ?_
          refine j_goto (tgt := 30) dX11_stop_26 (by decide) ?_
          refine j_iconst (v := 2) dX11_stop_30 (by decide) ?_
          refine j_callV (q := (RX11, TX11, 8)) dX11_stop_31 kX11_refuse lX11_52 inX11_refuse seX11_refuse h2.m rfl (cm_refuse1 hl w2 _ _ h2 rfl (by decide)) (Nat.le_of_ble_eq_true rfl) ⟨(Nat.le_of_ble_eq_true rfl), (Nat.le_of_ble_eq_true rfl)⟩ rfl (Nat.le_of_ble_eq_true rfl) rfl rfl (fun _ _ h => h.elim) ?_
          rintro _ w4 ⟨rfl, fm4, h4⟩
          have ke4 := z_ke h4 ke2 rfl
          refine j_if_eq (tgt := 39) dX11_stop_34 (by decide) (fun c_34_69 => ?_) (fun c_34_69 => ?_)
          · exact absurd c_34_69 (by decide)
          · refine j_iconst (v := 0) dX11_stop_37 (by decide) ?_
            refine j_iret dX11_stop_38 rfl rfl ?_ (Nat.le_of_ble_eq_true rfl) (Nat.le_of_ble_eq_true rfl)
            exact ⟨_, _, rfl, ((fm2.le (q' := 59) (by decide)).tr (fm4.le (q' := 59) (by decide))), h4, (q_k2b (q_i2 hi32) (q_nin hno33)).symm, Or.inl ⟨fun z => absurd (show (2 : Int32) = 0 from z) (by decide), ke4⟩⟩
end ZMx
