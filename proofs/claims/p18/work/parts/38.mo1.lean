section ZMo
variable {G : z_G} {l : Launch}
set_option maxRecDepth 100000 in
set_option maxHeartbeats 8000000 in
theorem cm_isIn (hl : l.stackTraces = false) (w : z_W) (x a b : Int32)  : z_Con G l mX11_isIn 10 0 0 w [.int x, .int a, .int b] (fun v w9 => ((v = some (.int 1) ∧ a ≤ x ∧ x ≤ b) ∨ (v = some (.int 0) ∧ ¬ (a ≤ x ∧ x ≤ b))) ∧ w9 = w) (fun _ _ => False) := by
  refine z_body hl (by decide) rfl (Nat.le_of_ble_eq_true rfl) ?_
  show z_J G l mX11_isIn _ 0 [(0, _), (1, _), (2, _)] [] _ 0 0
  refine j_iload_n dX11_isIn_0 rfl ?_
  refine j_iload_n dX11_isIn_1 rfl ?_
  refine j_icmp_lt (tgt := 14) dX11_isIn_2 (by decide) (fun c_2_4 => ?_) (fun c_2_4 => ?_)
  · refine j_iconst (v := 0) dX11_isIn_14 (by decide) ?_
    refine j_iret dX11_isIn_15 rfl rfl ?_ (Nat.le_of_ble_eq_true rfl) (Nat.le_of_ble_eq_true rfl)
    exact ⟨Or.inr ⟨rfl, fun z => absurd z.1 (Int32.not_le.mpr c_2_4)⟩, rfl⟩
  · refine j_iload_n dX11_isIn_5 rfl ?_
    refine j_iload_n dX11_isIn_6 rfl ?_
    refine j_icmp_gt (tgt := 14) dX11_isIn_7 (by decide) (fun c_7_10 => ?_) (fun c_7_10 => ?_)
    · refine j_iconst (v := 0) dX11_isIn_14 (by decide) ?_
      refine j_iret dX11_isIn_15 rfl rfl ?_ (Nat.le_of_ble_eq_true rfl) (Nat.le_of_ble_eq_true rfl)
      exact ⟨Or.inr ⟨rfl, fun z => absurd z.2 (Int32.not_le.mpr c_7_10)⟩, rfl⟩
    · refine j_iconst (v := 1) dX11_isIn_10 (by decide) ?_
      refine j_goto (tgt := 15) dX11_isIn_11 (by decide) ?_
      refine j_iret dX11_isIn_15 rfl rfl ?_ (Nat.le_of_ble_eq_true rfl) (Nat.le_of_ble_eq_true rfl)
      exact ⟨Or.inl ⟨rfl, Int32.not_lt.mp c_2_4, Int32.not_lt.mp c_7_10⟩, rfl⟩
set_option maxRecDepth 100000 in
set_option maxHeartbeats 8000000 in
theorem cm_isNoTwo (hl : l.stackTraces = false) (w : z_W) (x : Int32)  : z_Con G l mX11_isNoTwo 12 0 0 w [.int x] (fun v w9 => ((v = some (.int 1) ∧ ¬ (0 ≤ x ∧ x ≤ 1)) ∨ (v = some (.int 0) ∧ ∃ i, i < 2 ∧ x = nI i)) ∧ w9 = w) (fun _ _ => False) := by
  refine z_body hl (by decide) rfl (Nat.le_of_ble_eq_true rfl) ?_
  show z_J G l mX11_isNoTwo _ 0 [(0, _)] [] _ 0 0
  refine j_iload_n dX11_isNoTwo_0 rfl ?_
  refine j_iconst (v := 0) dX11_isNoTwo_1 (by decide) ?_
  refine j_iconst (v := 1) dX11_isNoTwo_2 (by decide) ?_
  refine j_callS dX11_isNoTwo_3 kX11_isIn lX11_59 stX11_isIn (cm_isIn hl w _ _ _) (Nat.le_of_ble_eq_true rfl) ⟨(Nat.le_of_ble_eq_true rfl), (Nat.le_of_ble_eq_true rfl)⟩ rfl (Nat.le_of_ble_eq_true rfl) rfl rfl (fun _ _ h => h.elim) ?_
  rintro _ _ ⟨⟨rfl, hi1⟩ | ⟨rfl, hi1⟩, hw1⟩
  · refine j_w w hw1 ?_
    refine j_if_ne (tgt := 13) dX11_isNoTwo_6 (by decide) (fun c_6_8 => ?_) (fun c_6_8 => ?_)
    · refine j_iconst (v := 0) dX11_isNoTwo_13 (by decide) ?_
      refine j_iret dX11_isNoTwo_14 rfl rfl ?_ (Nat.le_of_ble_eq_true rfl) (Nat.le_of_ble_eq_true rfl)
      exact ⟨Or.inr ⟨rfl, z_nat (m := 1) (by decide) (by decide) (by decide) hi1⟩, rfl⟩
    · exact absurd c_6_8 (by decide)
  · refine j_w w hw1 ?_
    refine j_if_ne (tgt := 13) dX11_isNoTwo_6 (by decide) (fun c_6_14 => ?_) (fun c_6_14 => ?_)
    · exact absurd c_6_14 (by decide)
    · refine j_iconst (v := 1) dX11_isNoTwo_9 (by decide) ?_
      refine j_goto (tgt := 14) dX11_isNoTwo_10 (by decide) ?_
      refine j_iret dX11_isNoTwo_14 rfl rfl ?_ (Nat.le_of_ble_eq_true rfl) (Nat.le_of_ble_eq_true rfl)
      exact ⟨Or.inl ⟨rfl, hi1⟩, rfl⟩
set_option maxRecDepth 100000 in
set_option maxHeartbeats 8000000 in
theorem cm_isNoTable (hl : l.stackTraces = false) (w : z_W) (x : Int32)  : z_Con G l mX11_isNoTable 12 0 0 w [.int x] (fun v w9 => ((v = some (.int 1) ∧ ¬ (0 ≤ x ∧ x ≤ 2)) ∨ (v = some (.int 0) ∧ ∃ i, i < 3 ∧ x = nI i)) ∧ w9 = w) (fun _ _ => False) := by
  refine z_body hl (by decide) rfl (Nat.le_of_ble_eq_true rfl) ?_
  show z_J G l mX11_isNoTable _ 0 [(0, _)] [] _ 0 0
  refine j_iload_n dX11_isNoTable_0 rfl ?_
  refine j_iconst (v := 0) dX11_isNoTable_1 (by decide) ?_
  refine j_iconst (v := 2) dX11_isNoTable_2 (by decide) ?_
  refine j_callS dX11_isNoTable_3 kX11_isIn lX11_59 stX11_isIn (cm_isIn hl w _ _ _) (Nat.le_of_ble_eq_true rfl) ⟨(Nat.le_of_ble_eq_true rfl), (Nat.le_of_ble_eq_true rfl)⟩ rfl (Nat.le_of_ble_eq_true rfl) rfl rfl (fun _ _ h => h.elim) ?_
  rintro _ _ ⟨⟨rfl, hi2⟩ | ⟨rfl, hi2⟩, hw2⟩
  · refine j_w w hw2 ?_
    refine j_if_ne (tgt := 13) dX11_isNoTable_6 (by decide) (fun c_6_8 => ?_) (fun c_6_8 => ?_)
    · refine j_iconst (v := 0) dX11_isNoTable_13 (by decide) ?_
      refine j_iret dX11_isNoTable_14 rfl rfl ?_ (Nat.le_of_ble_eq_true rfl) (Nat.le_of_ble_eq_true rfl)
      exact ⟨Or.inr ⟨rfl, z_nat (m := 2) (by decide) (by decide) (by decide) hi2⟩, rfl⟩
    · exact absurd c_6_8 (by decide)
  · refine j_w w hw2 ?_
    refine j_if_ne (tgt := 13) dX11_isNoTable_6 (by decide) (fun c_6_14 => ?_) (fun c_6_14 => ?_)
    · exact absurd c_6_14 (by decide)
    · refine j_iconst (v := 1) dX11_isNoTable_9 (by decide) ?_
      refine j_goto (tgt := 14) dX11_isNoTable_10 (by decide) ?_
      refine j_iret dX11_isNoTable_14 rfl rfl ?_ (Nat.le_of_ble_eq_true rfl) (Nat.le_of_ble_eq_true rfl)
      exact ⟨Or.inl ⟨rfl, hi2⟩, rfl⟩
set_option maxRecDepth 100000 in
set_option maxHeartbeats 8000000 in
theorem cm_isNoKey (hl : l.stackTraces = false) (w : z_W) (x : Int32)  : z_Con G l mX11_isNoKey 12 0 0 w [.int x] (fun v w9 => ((v = some (.int 1) ∧ ¬ (0 ≤ x ∧ x ≤ 19)) ∨ (v = some (.int 0) ∧ ∃ i, i < 20 ∧ x = nI i)) ∧ w9 = w) (fun _ _ => False) := by
  refine z_body hl (by decide) rfl (Nat.le_of_ble_eq_true rfl) ?_
  show z_J G l mX11_isNoKey _ 0 [(0, _)] [] _ 0 0
  refine j_iload_n dX11_isNoKey_0 rfl ?_
  refine j_iconst (v := 0) dX11_isNoKey_1 (by decide) ?_
  refine j_bipush (v := 19) dX11_isNoKey_2 (by decide) ?_
  refine j_callS dX11_isNoKey_4 kX11_isIn lX11_59 stX11_isIn (cm_isIn hl w _ _ _) (Nat.le_of_ble_eq_true rfl) ⟨(Nat.le_of_ble_eq_true rfl), (Nat.le_of_ble_eq_true rfl)⟩ rfl (Nat.le_of_ble_eq_true rfl) rfl rfl (fun _ _ h => h.elim) ?_
  rintro _ _ ⟨⟨rfl, hi3⟩ | ⟨rfl, hi3⟩, hw3⟩
  · refine j_w w hw3 ?_
    refine j_if_ne (tgt := 14) dX11_isNoKey_7 (by decide) (fun c_7_8 => ?_) (fun c_7_8 => ?_)
    · refine j_iconst (v := 0) dX11_isNoKey_14 (by decide) ?_
      refine j_iret dX11_isNoKey_15 rfl rfl ?_ (Nat.le_of_ble_eq_true rfl) (Nat.le_of_ble_eq_true rfl)
      exact ⟨Or.inr ⟨rfl, z_nat (m := 19) (by decide) (by decide) (by decide) hi3⟩, rfl⟩
    · exact absurd c_7_8 (by decide)
  · refine j_w w hw3 ?_
    refine j_if_ne (tgt := 14) dX11_isNoKey_7 (by decide) (fun c_7_14 => ?_) (fun c_7_14 => ?_)
    · exact absurd c_7_14 (by decide)
    · refine j_iconst (v := 1) dX11_isNoKey_10 (by decide) ?_
      refine j_goto (tgt := 15) dX11_isNoKey_11 (by decide) ?_
      refine j_iret dX11_isNoKey_15 rfl rfl ?_ (Nat.le_of_ble_eq_true rfl) (Nat.le_of_ble_eq_true rfl)
      exact ⟨Or.inl ⟨rfl, hi3⟩, rfl⟩
set_option maxRecDepth 100000 in
set_option maxHeartbeats 8000000 in
theorem cm_isNoValue (hl : l.stackTraces = false) (w : z_W) (x : Int32)  : z_Con G l mX11_isNoValue 12 0 0 w [.int x] (fun v w9 => ((v = some (.int 1) ∧ ¬ ((-999) ≤ x ∧ x ≤ 999)) ∨ (v = some (.int 0) ∧ z_vl x)) ∧ w9 = w) (fun _ _ => False) := by
  refine z_body hl (by decide) rfl (Nat.le_of_ble_eq_true rfl) ?_
  show z_J G l mX11_isNoValue _ 0 [(0, _)] [] _ 0 0
  refine j_iload_n dX11_isNoValue_0 rfl ?_
  refine j_sipush (v := (-999)) dX11_isNoValue_1 (by decide) ?_
  refine j_sipush (v := 999) dX11_isNoValue_4 (by decide) ?_
  refine j_callS dX11_isNoValue_7 kX11_isIn lX11_59 stX11_isIn (cm_isIn hl w _ _ _) (Nat.le_of_ble_eq_true rfl) ⟨(Nat.le_of_ble_eq_true rfl), (Nat.le_of_ble_eq_true rfl)⟩ rfl (Nat.le_of_ble_eq_true rfl) rfl rfl (fun _ _ h => h.elim) ?_
  rintro _ _ ⟨⟨rfl, hi4⟩ | ⟨rfl, hi4⟩, hw4⟩
  · refine j_w w hw4 ?_
    refine j_if_ne (tgt := 17) dX11_isNoValue_10 (by decide) (fun c_10_8 => ?_) (fun c_10_8 => ?_)
    · refine j_iconst (v := 0) dX11_isNoValue_17 (by decide) ?_
      refine j_iret dX11_isNoValue_18 rfl rfl ?_ (Nat.le_of_ble_eq_true rfl) (Nat.le_of_ble_eq_true rfl)
      exact ⟨Or.inr ⟨rfl, hi4⟩, rfl⟩
    · exact absurd c_10_8 (by decide)
  · refine j_w w hw4 ?_
    refine j_if_ne (tgt := 17) dX11_isNoValue_10 (by decide) (fun c_10_14 => ?_) (fun c_10_14 => ?_)
    · exact absurd c_10_14 (by decide)
    · refine j_iconst (v := 1) dX11_isNoValue_13 (by decide) ?_
      refine j_goto (tgt := 18) dX11_isNoValue_14 (by decide) ?_
      refine j_iret dX11_isNoValue_18 rfl rfl ?_ (Nat.le_of_ble_eq_true rfl) (Nat.le_of_ble_eq_true rfl)
      exact ⟨Or.inl ⟨rfl, hi4⟩, rfl⟩
set_option maxRecDepth 100000 in
set_option maxHeartbeats 8000000 in
theorem cm_one (hl : l.stackTraces = false) (w : z_W) (x : Int32)  : z_Con G l mX11_one 10 0 0 w [.int x] (fun v w9 => ((v = some (.int 1) ∧ ¬ x = 0) ∨ (v = some (.int 0) ∧ x = 0)) ∧ w9 = w) (fun _ _ => False) := by
  refine z_body hl (by decide) rfl (Nat.le_of_ble_eq_true rfl) ?_
  show z_J G l mX11_one _ 0 [(0, _)] [] _ 0 0
  refine j_iload_n dX11_one_0 rfl ?_
  refine j_if_eq (tgt := 8) dX11_one_1 (by decide) (fun c_1_3 => ?_) (fun c_1_3 => ?_)
  · refine j_iconst (v := 0) dX11_one_8 (by decide) ?_
    refine j_iret dX11_one_9 rfl rfl ?_ (Nat.le_of_ble_eq_true rfl) (Nat.le_of_ble_eq_true rfl)
    exact ⟨Or.inr ⟨rfl, c_1_3⟩, rfl⟩
  · refine j_iconst (v := 1) dX11_one_4 (by decide) ?_
    refine j_goto (tgt := 9) dX11_one_5 (by decide) ?_
    refine j_iret dX11_one_9 rfl rfl ?_ (Nat.le_of_ble_eq_true rfl) (Nat.le_of_ble_eq_true rfl)
    exact ⟨Or.inl ⟨rfl, c_1_3⟩, rfl⟩
set_option maxRecDepth 100000 in
set_option maxHeartbeats 8000000 in
theorem cm_many (hl : l.stackTraces = false) (w : z_W) (a b c : Int32) (hc : ¬ c = 0) : z_Con G l mX11_many 10 0 0 w [.int a, .int b, .int c] (fun v w9 => v = some (.int (z_mny a b c)) ∧ w9 = w) (fun _ _ => False) := by
  refine z_body hl (by decide) rfl (Nat.le_of_ble_eq_true rfl) ?_
  show z_J G l mX11_many _ 0 [(0, _), (1, _), (2, _)] [] _ 0 0
  refine j_iload_n dX11_many_0 rfl ?_
  refine j_iload_n dX11_many_1 rfl ?_
  refine j_icmp_le (tgt := 9) dX11_many_2 (by decide) (fun c_2_4 => ?_) (fun c_2_4 => ?_)
  · refine j_iload_n dX11_many_9 rfl ?_
    refine j_iload_n dX11_many_10 rfl ?_
    refine j_isub dX11_many_11 ?_
    refine j_iload_n dX11_many_12 rfl ?_
    refine j_idiv dX11_many_13 hc ?_
    refine j_iconst (v := 1) dX11_many_14 (by decide) ?_
    refine j_iadd dX11_many_15 ?_
    refine j_iret dX11_many_16 rfl rfl ?_ (Nat.le_of_ble_eq_true rfl) (Nat.le_of_ble_eq_true rfl)
    exact ⟨by unfold z_mny; rw [if_pos c_2_4], rfl⟩
  · refine j_iconst (v := 0) dX11_many_5 (by decide) ?_
    refine j_goto (tgt := 16) dX11_many_6 (by decide) ?_
    refine j_iret dX11_many_16 rfl rfl ?_ (Nat.le_of_ble_eq_true rfl) (Nat.le_of_ble_eq_true rfl)
    exact ⟨by unfold z_mny; rw [if_neg c_2_4], rfl⟩
set_option maxRecDepth 100000 in
set_option maxHeartbeats 8000000 in
theorem cm_add (hl : l.stackTraces = false) (w : z_W) (a b : Int64)  : z_Con G l mX11_add 10 0 0 w [.long a, .long b] (fun v w9 => (∃ r : Int64, v = some (.long r)) ∧ w9 = w) (fun _ _ => False) := by
  refine z_body hl (by decide) rfl (Nat.le_of_ble_eq_true rfl) ?_
  show z_J G l mX11_add _ 0 [(0, _), (2, _)] [] _ 0 0
  refine j_lload_n dX11_add_0 rfl ?_
  refine j_ldc2 dX11_add_1 kcX11_243 ?_
  refine j_lmul dX11_add_4 ?_
  refine j_lload_n dX11_add_5 rfl ?_
  refine j_ladd dX11_add_6 ?_
  refine j_lret dX11_add_7 rfl ?_ (Nat.le_of_ble_eq_true rfl) (Nat.le_of_ble_eq_true rfl)
  exact ⟨⟨_, rfl⟩, rfl⟩
set_option maxRecDepth 100000 in
set_option maxHeartbeats 8000000 in
theorem cm_refuse0 (hl : l.stackTraces = false) (w : z_W) (s : z_Z) (k : Int32) (h : z_mst w s) (hth : s.1.1 = 0) : z_Con G l mX11_refuse 10 0 0 w [.ref 1000, .int 0, .int k] (fun v w9 => v = some (.int 0) ∧ w9 = w) (fun _ _ => False) := by
  obtain ⟨⟨th, rf, kn⟩, s2⟩ := s
  have hth : th = 0 := hth
  subst hth
  refine z_body hl (by decide) rfl (Nat.le_of_ble_eq_true rfl) ?_
  show z_J G l mX11_refuse _ 0 [(0, _), (1, _), (2, _)] [] _ 0 0
  refine j_iload_n dX11_refuse_0 rfl ?_
  refine j_if_eq (tgt := 16) dX11_refuse_1 (by decide) (fun c_1_3 => ?_) (fun c_1_3 => ?_)
  · refine j_aload_n dX11_refuse_16 rfl rfl ?_
    refine j_getf dX11_refuse_17 fX11_48 h.m rfl ?_
    refine j_if_le (tgt := 27) dX11_refuse_20 (by decide) (fun c_20_6 => ?_) (fun c_20_6 => ?_)
    · refine j_iconst (v := 0) dX11_refuse_27 (by decide) ?_
      refine j_iret dX11_refuse_28 rfl rfl ?_ (Nat.le_of_ble_eq_true rfl) (Nat.le_of_ble_eq_true rfl)
      exact ⟨rfl, rfl⟩
    · exact absurd (Int32.le_refl 0) c_20_6
  · exact absurd c_1_3 (by decide)
set_option maxRecDepth 100000 in
set_option maxHeartbeats 8000000 in
theorem cm_refuse1 (hl : l.stackTraces = false) (w : z_W) (s : z_Z) (k : Int32) (h : z_mst w s) (hth : s.1.1 = 0) (hk : 0 < k) : z_Con G l mX11_refuse 10 0 0 w [.ref 1000, .int 1, .int k] (fun v w9 => v = some (.int 1) ∧ z_fm 56 w w9 ∧ z_mst w9 (z_tm s (k, s.1.2.1, s.1.2.2))) (fun _ _ => False) := by
  obtain ⟨⟨th, rf, kn⟩, s2⟩ := s
  have hth : th = 0 := hth
  subst hth
  refine z_body hl (by decide) rfl (Nat.le_of_ble_eq_true rfl) ?_
  show z_J G l mX11_refuse _ 0 [(0, _), (1, _), (2, _)] [] _ 0 0
  refine j_iload_n dX11_refuse_0 rfl ?_
  refine j_if_eq (tgt := 16) dX11_refuse_1 (by decide) (fun c_1_3 => ?_) (fun c_1_3 => ?_)
  · exact absurd c_1_3 (by decide)
  · refine j_aload_n dX11_refuse_4 rfl rfl ?_
    refine j_getf dX11_refuse_5 fX11_48 h.m rfl ?_
    refine j_if_ne (tgt := 16) dX11_refuse_8 (by decide) (fun c_8_7 => ?_) (fun c_8_7 => ?_)
    · exact absurd rfl c_8_7
    · refine j_aload_n dX11_refuse_11 rfl rfl ?_
      refine j_iload_n dX11_refuse_12 rfl ?_
      refine j_put (w' := _) dX11_refuse_13 fX11_48 tX11_0 h.m ⟨rfl, rfl⟩ rfl ?_
      refine j_seal (by omega) ?_
      intro w1 u1
      have fw1 := u1.fw (ρ := 40) (by omega) (by omega)
      have h1 := h.up40 fw1 u1.1
      refine j_aload_n dX11_refuse_16 rfl rfl ?_
      refine j_getf dX11_refuse_17 fX11_48 h1.m rfl ?_
      refine j_if_le (tgt := 27) dX11_refuse_20 (by decide) (fun c_20_18 => ?_) (fun c_20_18 => ?_)
      · exact absurd hk (Int32.not_lt.mpr c_20_18)
      · refine j_iconst (v := 1) dX11_refuse_23 (by decide) ?_
        refine j_goto (tgt := 28) dX11_refuse_24 (by decide) ?_
        refine j_iret dX11_refuse_28 rfl rfl ?_ (Nat.le_of_ble_eq_true rfl) (Nat.le_of_ble_eq_true rfl)
        exact ⟨rfl, (fw1.fm (q := 56) (by omega)), h1⟩
set_option maxRecDepth 100000 in
set_option maxHeartbeats 8000000 in
theorem cm_start0 (hl : l.stackTraces = false) (w : z_W) (s : z_Z) (k : Int32) (h : z_mst w s)  : z_Con G l mX11_start 12 0 0 w [.ref 1000, .int 0, .int k] (fun v w9 => v = some (.int 0) ∧ z_fm 56 w w9 ∧ z_mst w9 (z_tm s (0, s.1.2.1, s.1.2.2))) (fun _ _ => False) := by
  refine z_body hl (by decide) rfl (Nat.le_of_ble_eq_true rfl) ?_
  show z_J G l mX11_start _ 0 [(0, _), (1, _), (2, _)] [] _ 0 0
  refine j_aload_n dX11_start_0 rfl rfl ?_
  refine j_iconst (v := 0) dX11_start_1 (by decide) ?_
  refine j_put (w' := _) dX11_start_2 fX11_48 tX11_0 h.m ⟨rfl, rfl⟩ rfl ?_
  refine j_seal (by omega) ?_
  intro w1 u1
  have fw1 := u1.fw (ρ := 40) (by omega) (by omega)
  have h1 := h.up40 fw1 u1.1
  refine j_aload_n dX11_start_5 rfl rfl ?_
  refine j_iload_n dX11_start_6 rfl ?_
  refine j_iload_n dX11_start_7 rfl ?_
  refine j_callV (q := (RX11, TX11, 8)) dX11_start_8 kX11_refuse lX11_52 inX11_refuse seX11_refuse h1.m rfl (cm_refuse0 hl w1 _ _ h1 rfl) (Nat.le_of_ble_eq_true rfl) ⟨(Nat.le_of_ble_eq_true rfl), (Nat.le_of_ble_eq_true rfl)⟩ rfl (Nat.le_of_ble_eq_true rfl) rfl rfl (fun _ _ h => h.elim) ?_
  rintro _ _ ⟨rfl, hw17⟩
  refine j_w w1 hw17 ?_
  refine j_iret dX11_start_11 rfl rfl ?_ (Nat.le_of_ble_eq_true rfl) (Nat.le_of_ble_eq_true rfl)
  exact ⟨rfl, (fw1.fm (q := 56) (by omega)), h1⟩
set_option maxRecDepth 100000 in
set_option maxHeartbeats 8000000 in
theorem cm_start1 (hl : l.stackTraces = false) (w : z_W) (s : z_Z) (k : Int32) (h : z_mst w s) (hk : 0 < k) : z_Con G l mX11_start 12 0 0 w [.ref 1000, .int 1, .int k] (fun v w9 => v = some (.int 1) ∧ z_fm 56 w w9 ∧ z_mst w9 (z_tm s (k, s.1.2.1, s.1.2.2))) (fun _ _ => False) := by
  refine z_body hl (by decide) rfl (Nat.le_of_ble_eq_true rfl) ?_
  show z_J G l mX11_start _ 0 [(0, _), (1, _), (2, _)] [] _ 0 0
  refine j_aload_n dX11_start_0 rfl rfl ?_
  refine j_iconst (v := 0) dX11_start_1 (by decide) ?_
  refine j_put (w' := _) dX11_start_2 fX11_48 tX11_0 h.m ⟨rfl, rfl⟩ rfl ?_
  refine j_seal (by omega) ?_
  intro w1 u1
  have fw1 := u1.fw (ρ := 40) (by omega) (by omega)
  have h1 := h.up40 fw1 u1.1
  refine j_aload_n dX11_start_5 rfl rfl ?_
  refine j_iload_n dX11_start_6 rfl ?_
  refine j_iload_n dX11_start_7 rfl ?_
  refine j_callV (q := (RX11, TX11, 8)) dX11_start_8 kX11_refuse lX11_52 inX11_refuse seX11_refuse h1.m rfl (cm_refuse1 hl w1 _ _ h1 rfl hk) (Nat.le_of_ble_eq_true rfl) ⟨(Nat.le_of_ble_eq_true rfl), (Nat.le_of_ble_eq_true rfl)⟩ rfl (Nat.le_of_ble_eq_true rfl) rfl rfl (fun _ _ h => h.elim) ?_
  rintro _ w2 ⟨rfl, fm2, h2⟩
  refine j_iret dX11_start_11 rfl rfl ?_ (Nat.le_of_ble_eq_true rfl) (Nat.le_of_ble_eq_true rfl)
  exact ⟨rfl, ((fw1.fm (q := 56) (by omega)).tr (fm2.le (q' := 56) (by decide))), h2⟩
set_option maxRecDepth 100000 in
set_option maxHeartbeats 8000000 in
theorem cm_nine (hl : l.stackTraces = false) (w : z_W) (s : z_Z)  (h : z_mst w s)  : z_Con G l mX11_nine 10 0 0 w [.ref 1000] (fun v w9 => v = some (.int (-9)) ∧ z_fm 56 w w9 ∧ z_mst w9 (z_tm s (s.1.1, s.1.2.1 + 1, s.1.2.2))) (fun _ _ => False) := by
  refine z_body hl (by decide) rfl (Nat.le_of_ble_eq_true rfl) ?_
  show z_J G l mX11_nine _ 0 [(0, _)] [] _ 0 0
  refine j_aload_n dX11_nine_0 rfl rfl ?_
  refine j_dup dX11_nine_1 rfl ?_
  refine j_getf dX11_nine_2 fX11_56 h.m rfl ?_
  refine j_iconst (v := 1) dX11_nine_5 (by decide) ?_
  refine j_iadd dX11_nine_6 ?_
  refine j_put (w' := _) dX11_nine_7 fX11_56 tX11_6 h.m ⟨rfl, rfl⟩ rfl ?_
  refine j_seal (by omega) ?_
  intro w1 u1
  have fw1 := u1.fw (ρ := 40) (by omega) (by omega)
  have h1 := h.up40 fw1 u1.1
  refine j_bipush (v := (-9)) dX11_nine_10 (by decide) ?_
  refine j_iret dX11_nine_12 rfl rfl ?_ (Nat.le_of_ble_eq_true rfl) (Nat.le_of_ble_eq_true rfl)
  exact ⟨rfl, (fw1.fm (q := 56) (by omega)), h1⟩
set_option maxRecDepth 100000 in
set_option maxHeartbeats 8000000 in
theorem cm_knock (hl : l.stackTraces = false) (w : z_W) (s : z_Z)  (h : z_mst w s)  : z_Con G l mX11_knock 10 0 0 w [.ref 1000] (fun v w9 => v = some (.int (s.1.2.2 + 1)) ∧ z_fm 56 w w9 ∧ z_mst w9 (z_tm s (0, s.1.2.1, s.1.2.2 + 1))) (fun _ _ => False) := by
  refine z_body hl (by decide) rfl (Nat.le_of_ble_eq_true rfl) ?_
  show z_J G l mX11_knock _ 0 [(0, _)] [] _ 0 0
  refine j_aload_n dX11_knock_0 rfl rfl ?_
  refine j_iconst (v := 0) dX11_knock_1 (by decide) ?_
  refine j_put (w' := _) dX11_knock_2 fX11_48 tX11_0 h.m ⟨rfl, rfl⟩ rfl ?_
  refine j_seal (by omega) ?_
  intro w1 u1
  have fw1 := u1.fw (ρ := 40) (by omega) (by omega)
  have h1 := h.up40 fw1 u1.1
  refine j_aload_n dX11_knock_5 rfl rfl ?_
  refine j_dup dX11_knock_6 rfl ?_
  refine j_getf dX11_knock_7 fX11_234 h1.m rfl ?_
  refine j_iconst (v := 1) dX11_knock_10 (by decide) ?_
  refine j_iadd dX11_knock_11 ?_
  refine j_put (w' := _) dX11_knock_12 fX11_234 tX11_7 h1.m ⟨rfl, rfl⟩ rfl ?_
  refine j_seal (by omega) ?_
  intro w2 u2
  have fw2 := u2.fw (ρ := 40) (by omega) (by omega)
  have h2 := h1.up40 fw2 u2.1
  refine j_aload_n dX11_knock_15 rfl rfl ?_
  refine j_getf dX11_knock_16 fX11_234 h2.m rfl ?_
  refine j_iret dX11_knock_19 rfl rfl ?_ (Nat.le_of_ble_eq_true rfl) (Nat.le_of_ble_eq_true rfl)
  exact ⟨rfl, ((fw1.fm (q := 56) (by omega)).tr (fw2.fm (q := 56) (by omega))), h2⟩
end ZMo
