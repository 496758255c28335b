section ZM0
section ZMo
variable {G : z_G} {l : Launch}
set_option maxRecDepth 100000 in
set_option maxHeartbeats 8000000 in
theorem cm_isIn (hl : l.stackTraces = false) (w : z_W) (x a b : Int32)  : z_Con G l mX11_isIn 10 0 0 w [.int x, .int a, .int b] (fun v w9 => ((v = some (.int 1) ∧ a ≤ x ∧ x ≤ b) ∨ (v = some (.int 0) ∧ ¬ (a ≤ x ∧ x ≤ b))) ∧ w9 = w) (fun _ _ => False) := by
  refine z_body hl (by decide) rfl (Nat.le_of_ble_eq_true rfl) ?_
  show z_J G l mX11_isIn _ 0 [(0, _), (1, _), (2, _)] [] _ 0 0
  refine j_iload_n dX11_isIn_0 rfl ?_
  refine j_iload_n dX11_isIn_1 rfl ?_
  refine j_icmp_lt (tgt := 14) dX11_isIn_2 (by decide) (fun c_2_4 => ?_) (fun c_2_4 => ?_)
  · refine j_iconst (v := 0) dX11_isIn_14 (by decide) ?_
    refine j_iret dX11_isIn_15 rfl rfl ?_ (Nat.le_of_ble_eq_true rfl) (Nat.le_of_ble_eq_true rfl)
    exact ⟨Or.inr ⟨rfl, fun z => absurd z.1 (Int32.not_le.mpr c_2_4)⟩, rfl⟩
  · refine j_iload_n dX11_isIn_5 rfl ?_
    refine j_iload_n dX11_isIn_6 rfl ?_
    refine j_icmp_gt (tgt := 14) dX11_isIn_7 (by decide) (fun c_7_10 => ?_) (fun c_7_10 => ?_)
    · refine j_iconst (v := 0) dX11_isIn_14 (by decide) ?_
      refine j_iret dX11_isIn_15 rfl rfl ?_ (Nat.le_of_ble_eq_true rfl) (Nat.le_of_ble_eq_true rfl)
      exact ⟨Or.inr ⟨rfl, fun z => absurd z.2 (Int32.not_le.mpr c_7_10)⟩, rfl⟩
    · refine j_iconst (v := 1) dX11_isIn_10 (by decide) ?_
      refine j_goto (tgt := 15) dX11_isIn_11 (by decide) ?_
      refine j_iret dX11_isIn_15 rfl rfl ?_ (Nat.le_of_ble_eq_true rfl) (Nat.le_of_ble_eq_true rfl)
      exact ⟨Or.inl ⟨rfl, Int32.not_lt.mp c_2_4, Int32.not_lt.mp c_7_10⟩, rfl⟩
set_option maxRecDepth 100000 in
set_option maxHeartbeats 8000000 in
theorem cm_isNoTwo (hl : l.stackTraces = false) (w : z_W) (x : Int32)  : z_Con G l mX11_isNoTwo 12 0 0 w [.int x] (fun v w9 => ((v = some (.int 1) ∧ ¬ (0 ≤ x ∧ x ≤ 1)) ∨ (v = some (.int 0) ∧ ∃ i, i < 2 ∧ x = nI i)) ∧ w9 = w) (fun _ _ => False) := by
  refine z_body hl (by decide) rfl (Nat.le_of_ble_eq_true rfl) ?_
  show z_J G l mX11_isNoTwo _ 0 [(0, _)] [] _ 0 0
  refine j_iload_n dX11_isNoTwo_0 rfl ?_
  refine j_iconst (v := 0) dX11_isNoTwo_1 (by decide) ?_
  refine j_iconst (v := 1) dX11_isNoTwo_2 (by decide) ?_
  refine j_callS dX11_isNoTwo_3 kX11_isIn lX11_59 stX11_isIn (cm_isIn hl w _ _ _) (Nat.le_of_ble_eq_true rfl) ⟨(Nat.le_of_ble_eq_true rfl), (Nat.le_of_ble_eq_true rfl)⟩ rfl (Nat.le_of_ble_eq_true rfl) rfl rfl (fun _ _ h => h.elim) ?_
  rintro _ _ ⟨⟨rfl, hi1⟩ | ⟨rfl, hi1⟩, hw1⟩
  · refine j_w w hw1 ?_
    refine j_if_ne (tgt := 13) dX11_isNoTwo_6 (by decide) (fun c_6_8 => ?_) (fun c_6_8 => ?_)
    · refine j_iconst (v := 0) dX11_isNoTwo_13 (by decide) ?_
      refine j_iret dX11_isNoTwo_14 rfl rfl ?_ (Nat.le_of_ble_eq_true rfl) (Nat.le_of_ble_eq_true rfl)
      exact ⟨Or.inr ⟨rfl, z_nat (m := 1) (by decide) (by decide) (by decide) hi1⟩, rfl⟩
    · exact absurd c_6_8 (by decide)
  · refine j_w w hw1 ?_
    refine j_if_ne (tgt := 13) dX11_isNoTwo_6 (by decide) (fun c_6_14 => ?_) (fun c_6_14 => ?_)
    · exact absurd c_6_14 (by decide)
    · refine j_iconst (v := 1) dX11_isNoTwo_9 (by decide) ?_
      refine j_goto (tgt := 14) dX11_isNoTwo_10 (by decide) ?_
      refine j_iret dX11_isNoTwo_14 rfl rfl ?_ (Nat.le_of_ble_eq_true rfl) (Nat.le_of_ble_eq_true rfl)
      exact ⟨Or.inl ⟨rfl, hi1⟩, rfl⟩
set_option maxRecDepth 100000 in
set_option maxHeartbeats 8000000 in
theorem cm_isNoTable (hl : l.stackTraces = false) (w : z_W) (x : Int32)  : z_Con G l mX11_isNoTable 12 0 0 w [.int x] (fun v w9 => ((v = some (.int 1) ∧ ¬ (0 ≤ x ∧ x ≤ 2)) ∨ (v = some (.int 0) ∧ ∃ i, i < 3 ∧ x = nI i)) ∧ w9 = w) (fun _ _ => False) := by
  refine z_body hl (by decide) rfl (Nat.le_of_ble_eq_true rfl) ?_
  show z_J G l mX11_isNoTable _ 0 [(0, _)] [] _ 0 0
  refine j_iload_n dX11_isNoTable_0 rfl ?_
  refine j_iconst (v := 0) dX11_isNoTable_1 (by decide) ?_
  refine j_iconst (v := 2) dX11_isNoTable_2 (by decide) ?_
  refine j_callS dX11_isNoTable_3 kX11_isIn lX11_59 stX11_isIn (cm_isIn hl w _ _ _) (Nat.le_of_ble_eq_true rfl) ⟨(Nat.le_of_ble_eq_true rfl), (Nat.le_of_ble_eq_true rfl)⟩ rfl (Nat.le_of_ble_eq_true rfl) rfl rfl (fun _ _ h => h.elim) ?_
  rintro _ _ ⟨⟨rfl, hi2⟩ | ⟨rfl, hi2⟩, hw2⟩
  · refine j_w w hw2 ?_
    refine j_if_ne (tgt := 13) dX11_isNoTable_6 (by decide) (fun c_6_8 => ?_) (fun c_6_8 => ?_)
    · refine j_iconst (v := 0) dX11_isNoTable_13 (by decide) ?_
      refine j_iret dX11_isNoTable_14 rfl rfl ?_ (Nat.le_of_ble_eq_true rfl) (Nat.le_of_ble_eq_true rfl)
      exact ⟨Or.inr ⟨rfl, z_nat (m := 2) (by decide) (by decide) (by decide) hi2⟩, rfl⟩
    · exact absurd c_6_8 (by decide)
  · refine j_w w hw2 ?_
    refine j_if_ne (tgt := 13) dX11_isNoTable_6 (by decide) (fun c_6_14 => ?_) (fun c_6_14 => ?_)
    · exact absurd c_6_14 (by decide)
    · refine j_iconst (v := 1) dX11_isNoTable_9 (by decide) ?_
      refine j_goto (tgt := 14) dX11_isNoTable_10 (by decide) ?_
      refine j_iret dX11_isNoTable_14 rfl rfl ?_ (Nat.le_of_ble_eq_true rfl) (Nat.le_of_ble_eq_true rfl)
      exact ⟨Or.inl ⟨rfl, hi2⟩, rfl⟩
set_option maxRecDepth 100000 in
set_option maxHeartbeats 8000000 in
theorem cm_isNoKey (hl : l.stackTraces = false) (w : z_W) (x : Int32)  : z_Con G l mX11_isNoKey 12 0 0 w [.int x] (fun v w9 => ((v = some (.int 1) ∧ ¬ (0 ≤ x ∧ x ≤ 19)) ∨ (v = some (.int 0) ∧ ∃ i, i < 20 ∧ x = nI i)) ∧ w9 = w) (fun _ _ => False) := by
  refine z_body hl (by decide) rfl (Nat.le_of_ble_eq_true rfl) ?_
  show z_J G l mX11_isNoKey _ 0 [(0, _)] [] _ 0 0
  refine j_iload_n dX11_isNoKey_0 rfl ?_
  refine j_iconst (v := 0) dX11_isNoKey_1 (by decide) ?_
  refine j_bipush (v := 19) dX11_isNoKey_2 (by decide) ?_
  refine j_callS dX11_isNoKey_4 kX11_isIn lX11_59 stX11_isIn (cm_isIn hl w _ _ _) (Nat.le_of_ble_eq_true rfl) ⟨(Nat.le_of_ble_eq_true rfl), (Nat.le_of_ble_eq_true rfl)⟩ rfl (Nat.le_of_ble_eq_true rfl) rfl rfl (fun _ _ h => h.elim) ?_
  rintro _ _ ⟨⟨rfl, hi3⟩ | ⟨rfl, hi3⟩, hw3⟩
  · refine j_w w hw3 ?_
    refine j_if_ne (tgt := 14) dX11_isNoKey_7 (by decide) (fun c_7_8 => ?_) (fun c_7_8 => ?_)
    · refine j_iconst (v := 0) dX11_isNoKey_14 (by decide) ?_
      refine j_iret dX11_isNoKey_15 rfl rfl ?_ (Nat.le_of_ble_eq_true rfl) (Nat.le_of_ble_eq_true rfl)
      exact ⟨Or.inr ⟨rfl, z_nat (m := 19) (by decide) (by decide) (by decide) hi3⟩, rfl⟩
    · exact absurd c_7_8 (by decide)
  · refine j_w w hw3 ?_
    refine j_if_ne (tgt := 14) dX11_isNoKey_7 (by decide) (fun c_7_14 => ?_) (fun c_7_14 => ?_)
    · exact absurd c_7_14 (by decide)
    · refine j_iconst (v := 1) dX11_isNoKey_10 (by decide) ?_
      refine j_goto (tgt := 15) dX11_isNoKey_11 (by decide) ?_
      refine j_iret dX11_isNoKey_15 rfl rfl ?_ (Nat.le_of_ble_eq_true rfl) (Nat.le_of_ble_eq_true rfl)
      exact ⟨Or.inl ⟨rfl, hi3⟩, rfl⟩
set_option maxRecDepth 100000 in
set_option maxHeartbeats 8000000 in
theorem cm_isNoValue (hl : l.stackTraces = false) (w : z_W) (x : Int32)  : z_Con G l mX11_isNoValue 12 0 0 w [.int x] (fun v w9 => ((v = some (.int 1) ∧ ¬ ((-999) ≤ x ∧ x ≤ 999)) ∨ (v = some (.int 0) ∧ z_vl x)) ∧ w9 = w) (fun _ _ => False) := by
  refine z_body hl (by decide) rfl (Nat.le_of_ble_eq_true rfl) ?_
  show z_J G l mX11_isNoValue _ 0 [(0, _)] [] _ 0 0
  refine j_iload_n dX11_isNoValue_0 rfl ?_
  refine j_sipush (v := (-999)) dX11_isNoValue_1 (by decide) ?_
  refine j_sipush (v := 999) dX11_isNoValue_4 (by decide) ?_
  refine j_callS dX11_isNoValue_7 kX11_isIn lX11_59 stX11_isIn (cm_isIn hl w _ _ _) (Nat.le_of_ble_eq_true rfl) ⟨(Nat.le_of_ble_eq_true rfl), (Nat.le_of_ble_eq_true rfl)⟩ rfl (Nat.le_of_ble_eq_true rfl) rfl rfl (fun _ _ h => h.elim) ?_
  rintro _ _ ⟨⟨rfl, hi4⟩ | ⟨rfl, hi4⟩, hw4⟩
  · refine j_w w hw4 ?_
    refine j_if_ne (tgt := 17) dX11_isNoValue_10 (by decide) (fun c_10_8 => ?_) (fun c_10_8 => ?_)
    · refine j_iconst (v := 0) dX11_isNoValue_17 (by decide) ?_
      refine j_iret dX11_isNoValue_18 rfl rfl ?_ (Nat.le_of_ble_eq_true rfl) (Nat.le_of_ble_eq_true rfl)
      exact ⟨Or.inr ⟨rfl, hi4⟩, rfl⟩
    · exact absurd c_10_8 (by decide)
  · refine j_w w hw4 ?_
    refine j_if_ne (tgt := 17) dX11_isNoValue_10 (by decide) (fun c_10_14 => ?_) (fun c_10_14 => ?_)
    · exact absurd c_10_14 (by decide)
    · refine j_iconst (v := 1) dX11_isNoValue_13 (by decide) ?_
      refine j_goto (tgt := 18) dX11_isNoValue_14 (by decide) ?_
      refine j_iret dX11_isNoValue_18 rfl rfl ?_ (Nat.le_of_ble_eq_true rfl) (Nat.le_of_ble_eq_true rfl)
      exact ⟨Or.inl ⟨rfl, hi4⟩, rfl⟩
set_option maxRecDepth 100000 in
set_option maxHeartbeats 8000000 in
theorem cm_one (hl : l.stackTraces = false) (w : z_W) (x : Int32)  : z_Con G l mX11_one 10 0 0 w [.int x] (fun v w9 => ((v = some (.int 1) ∧ ¬ x = 0) ∨ (v = some (.int 0) ∧ x = 0)) ∧ w9 = w) (fun _ _ => False) := by
  refine z_body hl (by decide) rfl (Nat.le_of_ble_eq_true rfl) ?_
  show z_J G l mX11_one _ 0 [(0, _)] [] _ 0 0
  refine j_iload_n dX11_one_0 rfl ?_
  refine j_if_eq (tgt := 8) dX11_one_1 (by decide) (fun c_1_3 => ?_) (fun c_1_3 => ?_)
  · refine j_iconst (v := 0) dX11_one_8 (by decide) ?_
    refine j_iret dX11_one_9 rfl rfl ?_ (Nat.le_of_ble_eq_true rfl) (Nat.le_of_ble_eq_true rfl)
    exact ⟨Or.inr ⟨rfl, c_1_3⟩, rfl⟩
  · refine j_iconst (v := 1) dX11_one_4 (by decide) ?_
    refine j_goto (tgt := 9) dX11_one_5 (by decide) ?_
    refine j_iret dX11_one_9 rfl rfl ?_ (Nat.le_of_ble_eq_true rfl) (Nat.le_of_ble_eq_true rfl)
    exact ⟨Or.inl ⟨rfl, c_1_3⟩, rfl⟩
set_option maxRecDepth 100000 in
set_option maxHeartbeats 8000000 in
theorem cm_many (hl : l.stackTraces = false) (w : z_W) (a b c : Int32) (hc : ¬ c = 0) : z_Con G l mX11_many 10 0 0 w [.int a, .int b, .int c] (fun v w9 => v = some (.int (z_mny a b c)) ∧ w9 = w) (fun _ _ => False) := by
  refine z_body hl (by decide) rfl (Nat.le_of_ble_eq_true rfl) ?_
  show z_J G l mX11_many _ 0 [(0, _), (1, _), (2, _)] [] _ 0 0
  refine j_iload_n dX11_many_0 rfl ?_
  refine j_iload_n dX11_many_1 rfl ?_
  refine j_icmp_le (tgt := 9) dX11_many_2 (by decide) (fun c_2_4 => ?_) (fun c_2_4 => ?_)
  · refine j_iload_n dX11_many_9 rfl ?_
    refine j_iload_n dX11_many_10 rfl ?_
    refine j_isub dX11_many_11 ?_
    refine j_iload_n dX11_many_12 rfl ?_
    refine j_idiv dX11_many_13 hc ?_
    refine j_iconst (v := 1) dX11_many_14 (by decide) ?_
    refine j_iadd dX11_many_15 ?_
    refine j_iret dX11_many_16 rfl rfl ?_ (Nat.le_of_ble_eq_true rfl) (Nat.le_of_ble_eq_true rfl)
    exact ⟨by unfold z_mny; rw [if_pos c_2_4], rfl⟩
  · refine j_iconst (v := 0) dX11_many_5 (by decide) ?_
    refine j_goto (tgt := 16) dX11_many_6 (by decide) ?_
    refine j_iret dX11_many_16 rfl rfl ?_ (Nat.le_of_ble_eq_true rfl) (Nat.le_of_ble_eq_true rfl)
    exact ⟨by unfold z_mny; rw [if_neg c_2_4], rfl⟩
set_option maxRecDepth 100000 in
set_option maxHeartbeats 8000000 in
theorem cm_add (hl : l.stackTraces = false) (w : z_W) (a b : Int64)  : z_Con G l mX11_add 10 0 0 w [.long a, .long b] (fun v w9 => (∃ r : Int64, v = some (.long r)) ∧ w9 = w) (fun _ _ => False) := by
  refine z_body hl (by decide) rfl (Nat.le_of_ble_eq_true rfl) ?_
  show z_J G l mX11_add _ 0 [(0, _), (2, _)] [] _ 0 0
  refine j_lload_n dX11_add_0 rfl ?_
  refine j_ldc2 dX11_add_1 kcX11_243 ?_
  refine j_lmul dX11_add_4 ?_
  refine j_lload_n dX11_add_5 rfl ?_
  refine j_ladd dX11_add_6 ?_
  refine j_lret dX11_add_7 rfl ?_ (Nat.le_of_ble_eq_true rfl) (Nat.le_of_ble_eq_true rfl)
  exact ⟨⟨_, rfl⟩, rfl⟩
set_option maxRecDepth 100000 in
set_option maxHeartbeats 8000000 in
theorem cm_refuse0 (hl : l.stackTraces = false) (w : z_W) (s : z_Z) (k : Int32) (h : z_mst w s) (hth : s.1.1 = 0) : z_Con G l mX11_refuse 10 0 0 w [.ref 1000, .int 0, .int k] (fun v w9 => v = some (.int 0) ∧ w9 = w) (fun _ _ => False) := by
  obtain ⟨⟨th, rf, kn⟩, s2⟩ := s
  have hth : th = 0 := hth
  subst hth
  refine z_body hl (by decide) rfl (Nat.le_of_ble_eq_true rfl) ?_
  show z_J G l mX11_refuse _ 0 [(0, _), (1, _), (2, _)] [] _ 0 0
  refine j_iload_n dX11_refuse_0 rfl ?_
  refine j_if_eq (tgt := 16) dX11_refuse_1 (by decide) (fun c_1_3 => ?_) (fun c_1_3 => ?_)
  · refine j_aload_n dX11_refuse_16 rfl rfl ?_
    refine j_getf dX11_refuse_17 fX11_48 h.m rfl ?_
    refine j_if_le (tgt := 27) dX11_refuse_20 (by decide) (fun c_20_6 => ?_) (fun c_20_6 => ?_)
    · refine j_iconst (v := 0) dX11_refuse_27 (by decide) ?_
      refine j_iret dX11_refuse_28 rfl rfl ?_ (Nat.le_of_ble_eq_true rfl) (Nat.le_of_ble_eq_true rfl)
      exact ⟨rfl, rfl⟩
    · exact absurd (Int32.le_refl 0) c_20_6
  · exact absurd c_1_3 (by decide)
set_option maxRecDepth 100000 in
set_option maxHeartbeats 8000000 in
theorem cm_refuse1 (hl : l.stackTraces = false) (w : z_W) (s : z_Z) (k : Int32) (h : z_mst w s) (hth : s.1.1 = 0) (hk : 0 < k) : z_Con G l mX11_refuse 10 0 0 w [.ref 1000, .int 1, .int k] (fun v w9 => v = some (.int 1) ∧ z_fm 56 w w9 ∧ z_mst w9 (z_tm s (k, s.1.2.1, s.1.2.2))) (fun _ _ => False) := by
  obtain ⟨⟨th, rf, kn⟩, s2⟩ := s
  have hth : th = 0 := hth
  subst hth
  refine z_body hl (by decide) rfl (Nat.le_of_ble_eq_true rfl) ?_
  show z_J G l mX11_refuse _ 0 [(0, _), (1, _), (2, _)] [] _ 0 0
  refine j_iload_n dX11_refuse_0 rfl ?_
  refine j_if_eq (tgt := 16) dX11_refuse_1 (by decide) (fun c_1_3 => ?_) (fun c_1_3 => ?_)
  · exact absurd c_1_3 (by decide)
  · refine j_aload_n dX11_refuse_4 rfl rfl ?_
    refine j_getf dX11_refuse_5 fX11_48 h.m rfl ?_
    refine j_if_ne (tgt := 16) dX11_refuse_8 (by decide) (fun c_8_7 => ?_) (fun c_8_7 => ?_)
    · exact absurd rfl c_8_7
    · refine j_aload_n dX11_refuse_11 rfl rfl ?_
      refine j_iload_n dX11_refuse_12 rfl ?_
      refine j_put (w' := _) dX11_refuse_13 fX11_48 tX11_0 h.m ⟨rfl, rfl⟩ rfl ?_
      refine j_seal (by omega) ?_
      intro w1 u1
      have fw1 := u1.fw (ρ := 40) (by omega) (by omega)
      have h1 := h.up40 fw1 u1.1
      refine j_aload_n dX11_refuse_16 rfl rfl ?_
      refine j_getf dX11_refuse_17 fX11_48 h1.m rfl ?_
      refine j_if_le (tgt := 27) dX11_refuse_20 (by decide) (fun c_20_18 => ?_) (fun c_20_18 => ?_)
      · exact absurd hk (Int32.not_lt.mpr c_20_18)
      · refine j_iconst (v := 1) dX11_refuse_23 (by decide) ?_
        refine j_goto (tgt := 28) dX11_refuse_24 (by decide) ?_
        refine j_iret dX11_refuse_28 rfl rfl ?_ (Nat.le_of_ble_eq_true rfl) (Nat.le_of_ble_eq_true rfl)
        exact ⟨rfl, (fw1.fm (q := 56) (by omega)), h1⟩
set_option maxRecDepth 100000 in
set_option maxHeartbeats 8000000 in
theorem cm_start0 (hl : l.stackTraces = false) (w : z_W) (s : z_Z) (k : Int32) (h : z_mst w s)  : z_Con G l mX11_start 12 0 0 w [.ref 1000, .int 0, .int k] (fun v w9 => v = some (.int 0) ∧ z_fm 56 w w9 ∧ z_mst w9 (z_tm s (0, s.1.2.1, s.1.2.2))) (fun _ _ => False) := by
  refine z_body hl (by decide) rfl (Nat.le_of_ble_eq_true rfl) ?_
  show z_J G l mX11_start _ 0 [(0, _), (1, _), (2, _)] [] _ 0 0
  refine j_aload_n dX11_start_0 rfl rfl ?_
  refine j_iconst (v := 0) dX11_start_1 (by decide) ?_
  refine j_put (w' := _) dX11_start_2 fX11_48 tX11_0 h.m ⟨rfl, rfl⟩ rfl ?_
  refine j_seal (by omega) ?_
  intro w1 u1
  have fw1 := u1.fw (ρ := 40) (by omega) (by omega)
  have h1 := h.up40 fw1 u1.1
  refine j_aload_n dX11_start_5 rfl rfl ?_
  refine j_iload_n dX11_start_6 rfl ?_
  refine j_iload_n dX11_start_7 rfl ?_
  refine j_callV (q := (RX11, TX11, 8)) dX11_start_8 kX11_refuse lX11_52 inX11_refuse seX11_refuse h1.m rfl (cm_refuse0 hl w1 _ _ h1 rfl) (Nat.le_of_ble_eq_true rfl) ⟨(Nat.le_of_ble_eq_true rfl), (Nat.le_of_ble_eq_true rfl)⟩ rfl (Nat.le_of_ble_eq_true rfl) rfl rfl (fun _ _ h => h.elim) ?_
  rintro _ _ ⟨rfl, hw17⟩
  refine j_w w1 hw17 ?_
  refine j_iret dX11_start_11 rfl rfl ?_ (Nat.le_of_ble_eq_true rfl) (Nat.le_of_ble_eq_true rfl)
  exact ⟨rfl, (fw1.fm (q := 56) (by omega)), h1⟩
set_option maxRecDepth 100000 in
set_option maxHeartbeats 8000000 in
theorem cm_start1 (hl : l.stackTraces = false) (w : z_W) (s : z_Z) (k : Int32) (h : z_mst w s) (hk : 0 < k) : z_Con G l mX11_start 12 0 0 w [.ref 1000, .int 1, .int k] (fun v w9 => v = some (.int 1) ∧ z_fm 56 w w9 ∧ z_mst w9 (z_tm s (k, s.1.2.1, s.1.2.2))) (fun _ _ => False) := by
  refine z_body hl (by decide) rfl (Nat.le_of_ble_eq_true rfl) ?_
  show z_J G l mX11_start _ 0 [(0, _), (1, _), (2, _)] [] _ 0 0
  refine j_aload_n dX11_start_0 rfl rfl ?_
  refine j_iconst (v := 0) dX11_start_1 (by decide) ?_
  refine j_put (w' := _) dX11_start_2 fX11_48 tX11_0 h.m ⟨rfl, rfl⟩ rfl ?_
  refine j_seal (by omega) ?_
  intro w1 u1
  have fw1 := u1.fw (ρ := 40) (by omega) (by omega)
  have h1 := h.up40 fw1 u1.1
  refine j_aload_n dX11_start_5 rfl rfl ?_
  refine j_iload_n dX11_start_6 rfl ?_
  refine j_iload_n dX11_start_7 rfl ?_
  refine j_callV (q := (RX11, TX11, 8)) dX11_start_8 kX11_refuse lX11_52 inX11_refuse seX11_refuse h1.m rfl (cm_refuse1 hl w1 _ _ h1 rfl hk) (Nat.le_of_ble_eq_true rfl) ⟨(Nat.le_of_ble_eq_true rfl), (Nat.le_of_ble_eq_true rfl)⟩ rfl (Nat.le_of_ble_eq_true rfl) rfl rfl (fun _ _ h => h.elim) ?_
  rintro _ w2 ⟨rfl, fm2, h2⟩
  refine j_iret dX11_start_11 rfl rfl ?_ (Nat.le_of_ble_eq_true rfl) (Nat.le_of_ble_eq_true rfl)
  exact ⟨rfl, ((fw1.fm (q := 56) (by omega)).tr (fm2.le (q' := 56) (by decide))), h2⟩
set_option maxRecDepth 100000 in
set_option maxHeartbeats 8000000 in
theorem cm_nine (hl : l.stackTraces = false) (w : z_W) (s : z_Z)  (h : z_mst w s)  : z_Con G l mX11_nine 10 0 0 w [.ref 1000] (fun v w9 => v = some (.int (-9)) ∧ z_fm 56 w w9 ∧ z_mst w9 (z_tm s (s.1.1, s.1.2.1 + 1, s.1.2.2))) (fun _ _ => False) := by
  refine z_body hl (by decide) rfl (Nat.le_of_ble_eq_true rfl) ?_
  show z_J G l mX11_nine _ 0 [(0, _)] [] _ 0 0
  refine j_aload_n dX11_nine_0 rfl rfl ?_
  refine j_dup dX11_nine_1 rfl ?_
  refine j_getf dX11_nine_2 fX11_56 h.m rfl ?_
  refine j_iconst (v := 1) dX11_nine_5 (by decide) ?_
  refine j_iadd dX11_nine_6 ?_
  refine j_put (w' := _) dX11_nine_7 fX11_56 tX11_6 h.m ⟨rfl, rfl⟩ rfl ?_
  refine j_seal (by omega) ?_
  intro w1 u1
  have fw1 := u1.fw (ρ := 40) (by omega) (by omega)
  have h1 := h.up40 fw1 u1.1
  refine j_bipush (v := (-9)) dX11_nine_10 (by decide) ?_
  refine j_iret dX11_nine_12 rfl rfl ?_ (Nat.le_of_ble_eq_true rfl) (Nat.le_of_ble_eq_true rfl)
  exact ⟨rfl, (fw1.fm (q := 56) (by omega)), h1⟩
set_option maxRecDepth 100000 in
set_option maxHeartbeats 8000000 in
theorem cm_knock (hl : l.stackTraces = false) (w : z_W) (s : z_Z)  (h : z_mst w s)  : z_Con G l mX11_knock 10 0 0 w [.ref 1000] (fun v w9 => v = some (.int (s.1.2.2 + 1)) ∧ z_fm 56 w w9 ∧ z_mst w9 (z_tm s (0, s.1.2.1, s.1.2.2 + 1))) (fun _ _ => False) := by
  refine z_body hl (by decide) rfl (Nat.le_of_ble_eq_true rfl) ?_
  show z_J G l mX11_knock _ 0 [(0, _)] [] _ 0 0
  refine j_aload_n dX11_knock_0 rfl rfl ?_
  refine j_iconst (v := 0) dX11_knock_1 (by decide) ?_
  refine j_put (w' := _) dX11_knock_2 fX11_48 tX11_0 h.m ⟨rfl, rfl⟩ rfl ?_
  refine j_seal (by omega) ?_
  intro w1 u1
  have fw1 := u1.fw (ρ := 40) (by omega) (by omega)
  have h1 := h.up40 fw1 u1.1
  refine j_aload_n dX11_knock_5 rfl rfl ?_
  refine j_dup dX11_knock_6 rfl ?_
  refine j_getf dX11_knock_7 fX11_234 h1.m rfl ?_
  refine j_iconst (v := 1) dX11_knock_10 (by decide) ?_
  refine j_iadd dX11_knock_11 ?_
  refine j_put (w' := _) dX11_knock_12 fX11_234 tX11_7 h1.m ⟨rfl, rfl⟩ rfl ?_
  refine j_seal (by omega) ?_
  intro w2 u2
  have fw2 := u2.fw (ρ := 40) (by omega) (by omega)
  have h2 := h1.up40 fw2 u2.1
  refine j_aload_n dX11_knock_15 rfl rfl ?_
  refine j_getf dX11_knock_16 fX11_234 h2.m rfl ?_
  refine j_iret dX11_knock_19 rfl rfl ?_ (Nat.le_of_ble_eq_true rfl) (Nat.le_of_ble_eq_true rfl)
  exact ⟨rfl, ((fw1.fm (q := 56) (by omega)).tr (fw2.fm (q := 56) (by omega))), h2⟩
end ZMo
end ZM0
section ZM1
section ZMp
variable {G : z_G} {l : Launch}
set_option maxRecDepth 100000 in
set_option maxHeartbeats 8000000 in
theorem cm_refuses (hl : l.stackTraces = false) (w : z_W) (s : z_Z) (i : Nat) (x : Int32) (h : z_mst w s) (hi : i < 2) : z_Con G l mX10_refuses 18 2 31 w [.ref (1009 + i), .int x] (fun v w9 => (v = some (.int 1) ∧ ((z_qh s i).1 ≠ -1000 ∧ (z_qh s i).1 = x) ∧ w9 = w) ∨ (v = some (.int 0) ∧ ¬ ((z_qh s i).1 ≠ -1000 ∧ (z_qh s i).1 = x) ∧ ∃ s9, z_fm 56 w w9 ∧ z_mst w9 s9 ∧ z_key s9 = z_key s ∧ z_sx s s9 ∧ z_qh s9 i = ((z_qh s i).1, (z_qh s i).2.1 + 1, (z_qh s i).2.2.1 + x, x) ∧ (z_ql s9 i).2 = z_rec (z_ql s i).2 x ∧ ∀ j, j ≠ i → z_qh s9 j = z_qh s j ∧ z_ql s9 j = z_ql s j)) (fun _ _ => False) := by
  have ke0 : z_key s = z_key s := rfl
  refine z_body hl (by decide) rfl (Nat.le_of_ble_eq_true rfl) ?_
  show z_J G l mX10_refuses _ 0 [(0, _), (1, _)] [] _ 0 0
  refine j_aload_n dX10_refuses_0 rfl rfl ?_
  refine j_getf dX10_refuses_1 fX10_9 (h.hd (i := i) hi) rfl ?_
  refine j_sipush (v := (-1000)) dX10_refuses_4 (by decide) ?_
  refine j_icmp_eq (tgt := 20) dX10_refuses_7 (by decide) (fun c_7_5 => ?_) (fun c_7_5 => ?_)
  · refine j_aload_n dX10_refuses_20 rfl rfl ?_
    refine j_dup dX10_refuses_21 rfl ?_
    refine j_getf dX10_refuses_22 fX10_25 (h.hd (i := i) hi) rfl ?_
    refine j_iconst (v := 1) dX10_refuses_25 (by decide) ?_
    refine j_iadd dX10_refuses_26 ?_
    refine j_put (w' := _) dX10_refuses_27 fX10_25 tX10_1 (h.hd (i := i) hi) ⟨rfl, rfl⟩ rfl ?_
    refine j_seal (by omega) ?_
    intro w1 u1
    have fw1 := u1.fw (ρ := 49 + i) (by omega) (by omega)
    have h1 := h.up49 (i0 := i) hi fw1 u1.1
    have ke1 := z_ke h1 ke0 z_keH
    refine j_aload_n dX10_refuses_30 rfl rfl ?_
    refine j_dup dX10_refuses_31 rfl ?_
    refine j_getf dX10_refuses_32 fX10_28 (h1.hd (i := i) hi) rfl ?_
    refine j_iload_n dX10_refuses_35 rfl ?_
    refine j_iadd dX10_refuses_36 ?_
    refine j_put (w' := _) dX10_refuses_37 fX10_28 tX10_2 (h1.hd (i := i) hi) ⟨rfl, rfl⟩ rfl ?_
    refine j_seal (by omega) ?_
    intro w2 u2
    have fw2 := u2.fw (ρ := 49 + i) (by omega) (by omega)
    have h2 := h1.up49 (i0 := i) hi fw2 u2.1
    have ke2 := z_ke h2 ke1 z_keH
    refine j_aload_n dX10_refuses_40 rfl rfl ?_
    refine j_iload_n dX10_refuses_41 rfl ?_
    refine j_put (w' := _) dX10_refuses_42 fX10_15 tX10_3 (h2.hd (i := i) hi) ⟨rfl, rfl⟩ rfl ?_
    refine j_seal (by omega) ?_
    intro w3 u3
    have fw3 := u3.fw (ρ := 49 + i) (by omega) (by omega)
    have h3 := h2.up49 (i0 := i) hi fw3 u3.1
    have ke3 := z_ke h3 ke2 z_keH
    refine j_aload_n dX10_refuses_45 rfl rfl ?_
    refine j_getf dX10_refuses_46 fX10_21 (h3.hd (i := i) hi) rfl ?_
    refine j_iload_n dX10_refuses_49 rfl ?_
    refine j_callS dX10_refuses_50 kJ6_valueOf_2dffe lX10_31 stJ6_valueOf_2dffe (cl_val hl w3 _) (Nat.le_of_ble_eq_true rfl) ⟨(Nat.le_of_ble_eq_true rfl), (Nat.le_of_ble_eq_true rfl)⟩ rfl (Nat.le_of_ble_eq_true rfl) rfl rfl (fun _ _ h => h.elim) ?_
    rintro _ _ ⟨rfl, hw1⟩
    refine j_w w3 hw1 ?_
    obtain ⟨lv2, -, lg2⟩ := z_li.cell (h3.hl (i := i) hi).1
    refine j_callV (q := (RJx4a65c, TJx4a65c, 3)) dX10_refuses_53 kJx4a65c_add_9ea2d lX10_37 inJx4a65c_add_9ea2d seJx4a65c_add_9ea2d lg2 rfl (cl_add hl w3 (54 + i) (1014 + i) _ _ 10 _ (h3.hl hi).1 (by omega) h3.fn (by rw [z_bx_len]; exact (h3.hl hi).2) (by decide) z_bx_el z_elF) (Nat.le_of_ble_eq_true rfl) ⟨(Nat.le_of_ble_eq_true rfl), (Nat.le_of_ble_eq_true rfl)⟩ rfl (Nat.le_of_ble_eq_true rfl) rfl rfl (fun _ _ h => h.elim) ?_
    rintro _ w4 ⟨rfl, fw4, mo4, hr4⟩
    rw [z_bx_app] at hr4
    have g4_hh := fw4.g (Or.inr (by omega)) (h3.hd hi)
    have hlen4 : (z_ql s i).2.length ≤ 10 := (h3.hl hi).2
    refine j_pop dX10_refuses_56 rfl ?_
    refine j_aload_n dX10_refuses_57 rfl rfl ?_
    refine j_getf dX10_refuses_58 fX10_21 g4_hh rfl ?_
    obtain ⟨lv3, -, lg3⟩ := z_li.cell hr4
    refine j_callV (q := (RJx4a65c, TJx4a65c, 3)) dX10_refuses_61 kJx4a65c_size_8abf5 lX10_41 inJx4a65c_size_8abf5 seJx4a65c_size_8abf5 lg3 rfl (cl_sizeB hl w4 _ _ _ _ hr4) (Nat.le_of_ble_eq_true rfl) ⟨(Nat.le_of_ble_eq_true rfl), (Nat.le_of_ble_eq_true rfl)⟩ rfl (Nat.le_of_ble_eq_true rfl) rfl rfl (fun _ _ h => h.elim) ?_
    rintro _ _ ⟨⟨n4, rfl, hn4⟩, hw4⟩
    refine j_w w4 hw4 ?_
    rw [List.length_append] at hn4
    have hn4 : n4 = (z_ql s i).2.length + 1 := hn4
    refine j_bipush (v := 10) dX10_refuses_64 (by decide) ?_
    refine j_icmp_le (tgt := 78) dX10_refuses_66 (by decide) (fun c_66_58 => ?_) (fun c_66_58 => ?_)
    · have hb66 : n4 ≤ 10 := (nI_leI (a := n4) (b := 10) (by omega) (by omega)).mp c_66_58
      refine j_iconst (v := 0) dX10_refuses_78 (by decide) ?_
      refine j_iret dX10_refuses_79 rfl rfl ?_ (Nat.le_of_ble_eq_true rfl) (Nat.le_of_ble_eq_true rfl)
      have hB : (z_rec (z_ql s i).2 x).length ≤ 10 ∧ z_li w4 (54 + i) (1014 + i) mo4 (z_bx (z_rec (z_ql s i).2 x)) := by
        unfold z_rec
        have h9 := z_le10 (by omega) c_66_58
        rw [if_pos (by rw [List.length_append]; show _ + 1 ≤ 10; omega)]
        exact ⟨by rw [List.length_append]; show _ + 1 ≤ 10; omega, hr4⟩
      have h99 := h3.li54 hi fw4 hB.2 hB.1
      exact Or.inr ⟨rfl, (fun z => z.1 c_7_5), _, ((((fw1.fm (q := 56) (by omega)).tr (fw2.fm (q := 56) (by omega))).tr (fw3.fm (q := 56) (by omega))).tr (fw4.fm (q := 56) (by omega))), h99, z_ke h99 ke3 rfl, ⟨rfl, rfl, rfl, rfl, rfl, rfl, rfl, rfl⟩, by simp only [z_qh, z_ql, z_th, z_tl, z_fu_self], by simp only [z_qh, z_ql, z_th, z_tl, z_fu_self], fun j hj => ⟨by simp only [z_qh, z_ql, z_th, z_tl, z_fu_ne hj], by simp only [z_qh, z_ql, z_th, z_tl, z_fu_ne hj]⟩⟩
    · have hb66 : 10 < n4 := Nat.not_le.mp (fun z => c_66_58 ((nI_leI (a := n4) (b := 10) (by omega) (by omega)).mpr z))
      refine j_aload_n dX10_refuses_69 rfl rfl ?_
      refine j_getf dX10_refuses_70 fX10_21 g4_hh rfl ?_
      refine j_iconst (v := 0) dX10_refuses_73 (by decide) ?_
      obtain ⟨lv5, -, lg5⟩ := z_li.cell hr4
      refine j_callV (q := (RJx4a65c, TJx4a65c, 3)) dX10_refuses_74 kJx4a65c_remove_915e3 lX10_45 inJx4a65c_remove_915e3 seJx4a65c_remove_915e3 lg5 rfl (cl_rem hl w4 _ _ _ _ 0 _ hr4 (z_bx_get (by rw [List.length_append]; exact Nat.succ_pos _)) (fw4.2.1 h3.fn) z_bx_el) (Nat.le_of_ble_eq_true rfl) ⟨(Nat.le_of_ble_eq_true rfl), (Nat.le_of_ble_eq_true rfl)⟩ rfl (Nat.le_of_ble_eq_true rfl) rfl rfl (fun _ _ h => h.elim) ?_
      rintro _ w5 ⟨rfl, fw5, mo5, hr5⟩
      rw [z_bx_rem] at hr5
      refine j_pop dX10_refuses_77 rfl ?_
      refine j_iconst (v := 0) dX10_refuses_78 (by decide) ?_
      refine j_iret dX10_refuses_79 rfl rfl ?_ (Nat.le_of_ble_eq_true rfl) (Nat.le_of_ble_eq_true rfl)
      have hB : (z_rec (z_ql s i).2 x).length ≤ 10 ∧ z_li w5 (54 + i) (1014 + i) mo5 (z_bx (z_rec (z_ql s i).2 x)) := by
        unfold z_rec
        have h9 := z_gt10 (by omega) c_66_58
        rw [if_neg (by rw [List.length_append]; show ¬ _ + 1 ≤ 10; omega)]
        exact ⟨by rw [List.length_eraseIdx_of_lt (by rw [List.length_append]; exact Nat.succ_pos _), List.length_append]; show _ + 1 - 1 ≤ 10; omega, hr5⟩
      have h99 := h3.li54 hi (fw4.tr fw5) hB.2 hB.1
      exact Or.inr ⟨rfl, (fun z => z.1 c_7_5), _, ((((fw1.fm (q := 56) (by omega)).tr (fw2.fm (q := 56) (by omega))).tr (fw3.fm (q := 56) (by omega))).tr ((fw4.tr fw5).fm (q := 56) (by omega))), h99, z_ke h99 ke3 rfl, ⟨rfl, rfl, rfl, rfl, rfl, rfl, rfl, rfl⟩, by simp only [z_qh, z_ql, z_th, z_tl, z_fu_self], by simp only [z_qh, z_ql, z_th, z_tl, z_fu_self], fun j hj => ⟨by simp only [z_qh, z_ql, z_th, z_tl, z_fu_ne hj], by simp only [z_qh, z_ql, z_th, z_tl, z_fu_ne hj]⟩⟩
  · refine j_iload_n dX10_refuses_10 rfl ?_
    refine j_aload_n dX10_refuses_11 rfl rfl ?_
    refine j_getf dX10_refuses_12 fX10_9 (h.hd (i := i) hi) rfl ?_
    refine j_icmp_ne (tgt := 20) dX10_refuses_15 (by decide) (fun c_15_90 => ?_) (fun c_15_90 => ?_)
    · refine j_aload_n dX10_refuses_20 rfl rfl ?_
      refine j_dup dX10_refuses_21 rfl ?_
      refine j_getf dX10_refuses_22 fX10_25 (h.hd (i := i) hi) rfl ?_
      refine j_iconst (v := 1) dX10_refuses_25 (by decide) ?_
      refine j_iadd dX10_refuses_26 ?_
      refine j_put (w' := _) dX10_refuses_27 fX10_25 tX10_1 (h.hd (i := i) hi) ⟨rfl, rfl⟩ rfl ?_
      refine j_seal (by omega) ?_
      intro w6 u6
      have fw6 := u6.fw (ρ := 49 + i) (by omega) (by omega)
      have h6 := h.up49 (i0 := i) hi fw6 u6.1
      have ke6 := z_ke h6 ke0 z_keH
      refine j_aload_n dX10_refuses_30 rfl rfl ?_
      refine j_dup dX10_refuses_31 rfl ?_
      refine j_getf dX10_refuses_32 fX10_28 (h6.hd (i := i) hi) rfl ?_
      refine j_iload_n dX10_refuses_35 rfl ?_
      refine j_iadd dX10_refuses_36 ?_
      refine j_put (w' := _) dX10_refuses_37 fX10_28 tX10_2 (h6.hd (i := i) hi) ⟨rfl, rfl⟩ rfl ?_
      refine j_seal (by omega) ?_
      intro w7 u7
      have fw7 := u7.fw (ρ := 49 + i) (by omega) (by omega)
      have h7 := h6.up49 (i0 := i) hi fw7 u7.1
      have ke7 := z_ke h7 ke6 z_keH
      refine j_aload_n dX10_refuses_40 rfl rfl ?_
      refine j_iload_n dX10_refuses_41 rfl ?_
      refine j_put (w' := _) dX10_refuses_42 fX10_15 tX10_3 (h7.hd (i := i) hi) ⟨rfl, rfl⟩ rfl ?_
      refine j_seal (by omega) ?_
      intro w8 u8
      have fw8 := u8.fw (ρ := 49 + i) (by omega) (by omega)
      have h8 := h7.up49 (i0 := i) hi fw8 u8.1
      have ke8 := z_ke h8 ke7 z_keH
      refine j_aload_n dX10_refuses_45 rfl rfl ?_
      refine j_getf dX10_refuses_46 fX10_21 (h8.hd (i := i) hi) rfl ?_
      refine j_iload_n dX10_refuses_49 rfl ?_
      refine j_callS dX10_refuses_50 kJ6_valueOf_2dffe lX10_31 stJ6_valueOf_2dffe (cl_val hl w8 _) (Nat.le_of_ble_eq_true rfl) ⟨(Nat.le_of_ble_eq_true rfl), (Nat.le_of_ble_eq_true rfl)⟩ rfl (Nat.le_of_ble_eq_true rfl) rfl rfl (fun _ _ h => h.elim) ?_
      rintro _ _ ⟨rfl, hw6⟩
      refine j_w w8 hw6 ?_
      obtain ⟨lv7, -, lg7⟩ := z_li.cell (h8.hl (i := i) hi).1
      refine j_callV (q := (RJx4a65c, TJx4a65c, 3)) dX10_refuses_53 kJx4a65c_add_9ea2d lX10_37 inJx4a65c_add_9ea2d seJx4a65c_add_9ea2d lg7 rfl (cl_add hl w8 (54 + i) (1014 + i) _ _ 10 _ (h8.hl hi).1 (by omega) h8.fn (by rw [z_bx_len]; exact (h8.hl hi).2) (by decide) z_bx_el z_elF) (Nat.le_of_ble_eq_true rfl) ⟨(Nat.le_of_ble_eq_true rfl), (Nat.le_of_ble_eq_true rfl)⟩ rfl (Nat.le_of_ble_eq_true rfl) rfl rfl (fun _ _ h => h.elim) ?_
      rintro _ w9 ⟨rfl, fw9, mo9, hr9⟩
      rw [z_bx_app] at hr9
      have g9_hh := fw9.g (Or.inr (by omega)) (h8.hd hi)
      have hlen9 : (z_ql s i).2.length ≤ 10 := (h8.hl hi).2
      refine j_pop dX10_refuses_56 rfl ?_
      refine j_aload_n dX10_refuses_57 rfl rfl ?_
      refine j_getf dX10_refuses_58 fX10_21 g9_hh rfl ?_
      obtain ⟨lv8, -, lg8⟩ := z_li.cell hr9
      refine j_callV (q := (RJx4a65c, TJx4a65c, 3)) dX10_refuses_61 kJx4a65c_size_8abf5 lX10_41 inJx4a65c_size_8abf5 seJx4a65c_size_8abf5 lg8 rfl (cl_sizeB hl w9 _ _ _ _ hr9) (Nat.le_of_ble_eq_true rfl) ⟨(Nat.le_of_ble_eq_true rfl), (Nat.le_of_ble_eq_true rfl)⟩ rfl (Nat.le_of_ble_eq_true rfl) rfl rfl (fun _ _ h => h.elim) ?_
      rintro _ _ ⟨⟨n9, rfl, hn9⟩, hw9⟩
      refine j_w w9 hw9 ?_
      rw [List.length_append] at hn9
      have hn9 : n9 = (z_ql s i).2.length + 1 := hn9
      refine j_bipush (v := 10) dX10_refuses_64 (by decide) ?_
      refine j_icmp_le (tgt := 78) dX10_refuses_66 (by decide) (fun c_66_143 => ?_) (fun c_66_143 => ?_)
      · have hb66 : n9 ≤ 10 := (nI_leI (a := n9) (b := 10) (by omega) (by omega)).mp c_66_143
        refine j_iconst (v := 0) dX10_refuses_78 (by decide) ?_
        refine j_iret dX10_refuses_79 rfl rfl ?_ (Nat.le_of_ble_eq_true rfl) (Nat.le_of_ble_eq_true rfl)
        have hB : (z_rec (z_ql s i).2 x).length ≤ 10 ∧ z_li w9 (54 + i) (1014 + i) mo9 (z_bx (z_rec (z_ql s i).2 x)) := by
          unfold z_rec
          have h9 := z_le10 (by omega) c_66_143
          rw [if_pos (by rw [List.length_append]; show _ + 1 ≤ 10; omega)]
          exact ⟨by rw [List.length_append]; show _ + 1 ≤ 10; omega, hr9⟩
        have h99 := h8.li54 hi fw9 hB.2 hB.1
        exact Or.inr ⟨rfl, (fun z => c_15_90 z.2.symm), _, ((((fw6.fm (q := 56) (by omega)).tr (fw7.fm (q := 56) (by omega))).tr (fw8.fm (q := 56) (by omega))).tr (fw9.fm (q := 56) (by omega))), h99, z_ke h99 ke8 rfl, ⟨rfl, rfl, rfl, rfl, rfl, rfl, rfl, rfl⟩, by simp only [z_qh, z_ql, z_th, z_tl, z_fu_self], by simp only [z_qh, z_ql, z_th, z_tl, z_fu_self], fun j hj => ⟨by simp only [z_qh, z_ql, z_th, z_tl, z_fu_ne hj], by simp only [z_qh, z_ql, z_th, z_tl, z_fu_ne hj]⟩⟩
      · have hb66 : 10 < n9 := Nat.not_le.mp (fun z => c_66_143 ((nI_leI (a := n9) (b := 10) (by omega) (by omega)).mpr z))
        refine j_aload_n dX10_refuses_69 rfl rfl ?_
        refine j_getf dX10_refuses_70 fX10_21 g9_hh rfl ?_
        refine j_iconst (v := 0) dX10_refuses_73 (by decide) ?_
        obtain ⟨lv10, -, lg10⟩ := z_li.cell hr9
        refine j_callV (q := (RJx4a65c, TJx4a65c, 3)) dX10_refuses_74 kJx4a65c_remove_915e3 lX10_45 inJx4a65c_remove_915e3 seJx4a65c_remove_915e3 lg10 rfl (cl_rem hl w9 _ _ _ _ 0 _ hr9 (z_bx_get (by rw [List.length_append]; exact Nat.succ_pos _)) (fw9.2.1 h8.fn) z_bx_el) (Nat.le_of_ble_eq_true rfl) ⟨(Nat.le_of_ble_eq_true rfl), (Nat.le_of_ble_eq_true rfl)⟩ rfl (Nat.le_of_ble_eq_true rfl) rfl rfl (fun _ _ h => h.elim) ?_
        rintro _ w10 ⟨rfl, fw10, mo10, hr10⟩
        rw [z_bx_rem] at hr10
        refine j_pop dX10_refuses_77 rfl ?_
        refine j_iconst (v := 0) dX10_refuses_78 (by decide) ?_
        refine j_iret dX10_refuses_79 rfl rfl ?_ (Nat.le_of_ble_eq_true rfl) (Nat.le_of_ble_eq_true rfl)
        have hB : (z_rec (z_ql s i).2 x).length ≤ 10 ∧ z_li w10 (54 + i) (1014 + i) mo10 (z_bx (z_rec (z_ql s i).2 x)) := by
          unfold z_rec
          have h9 := z_gt10 (by omega) c_66_143
          rw [if_neg (by rw [List.length_append]; show ¬ _ + 1 ≤ 10; omega)]
          exact ⟨by rw [List.length_eraseIdx_of_lt (by rw [List.length_append]; exact Nat.succ_pos _), List.length_append]; show _ + 1 - 1 ≤ 10; omega, hr10⟩
        have h99 := h8.li54 hi (fw9.tr fw10) hB.2 hB.1
        exact Or.inr ⟨rfl, (fun z => c_15_90 z.2.symm), _, ((((fw6.fm (q := 56) (by omega)).tr (fw7.fm (q := 56) (by omega))).tr (fw8.fm (q := 56) (by omega))).tr ((fw9.tr fw10).fm (q := 56) (by omega))), h99, z_ke h99 ke8 rfl, ⟨rfl, rfl, rfl, rfl, rfl, rfl, rfl, rfl⟩, by simp only [z_qh, z_ql, z_th, z_tl, z_fu_self], by simp only [z_qh, z_ql, z_th, z_tl, z_fu_self], fun j hj => ⟨by simp only [z_qh, z_ql, z_th, z_tl, z_fu_ne hj], by simp only [z_qh, z_ql, z_th, z_tl, z_fu_ne hj]⟩⟩
    · refine j_iconst (v := 1) dX10_refuses_18 (by decide) ?_
      refine j_iret dX10_refuses_19 rfl rfl ?_ (Nat.le_of_ble_eq_true rfl) (Nat.le_of_ble_eq_true rfl)
      exact Or.inl ⟨rfl, ⟨c_7_5, (c_15_90).symm⟩, rfl⟩
set_option maxRecDepth 100000 in
set_option maxHeartbeats 8000000 in
theorem cm_forgetH (hl : l.stackTraces = false) (w : z_W) (s : z_Z) (i : Nat) (h : z_mst w s) (hi : i < 2) : z_Con G l mX10_forget 13 0 0 w [.ref (1009 + i)] (fun v w9 => v = none ∧ ∃ s9, z_fm 56 w w9 ∧ z_mst w9 s9 ∧ z_key s9 = z_key s ∧ z_sx s s9 ∧ z_qh s9 i = ((z_qh s i).1, 0, 0, -1) ∧ (z_ql s9 i).2 = [] ∧ ∀ j, j ≠ i → z_qh s9 j = z_qh s j ∧ z_ql s9 j = z_ql s j) (fun _ _ => False) := by
  have ke0 : z_key s = z_key s := rfl
  refine z_body hl (by decide) rfl (Nat.le_of_ble_eq_true rfl) ?_
  show z_J G l mX10_forget _ 0 [(0, _)] [] _ 0 0
  refine j_aload_n dX10_forget_0 rfl rfl ?_
  refine j_iconst (v := 0) dX10_forget_1 (by decide) ?_
  refine j_put (w' := _) dX10_forget_2 fX10_25 tX10_1 (h.hd (i := i) hi) ⟨rfl, rfl⟩ rfl ?_
  refine j_seal (by omega) ?_
  intro w1 u1
  have fw1 := u1.fw (ρ := 49 + i) (by omega) (by omega)
  have h1 := h.up49 (i0 := i) hi fw1 u1.1
  have ke1 := z_ke h1 ke0 z_keH
  refine j_aload_n dX10_forget_5 rfl rfl ?_
  refine j_iconst (v := 0) dX10_forget_6 (by decide) ?_
  refine j_put (w' := _) dX10_forget_7 fX10_28 tX10_2 (h1.hd (i := i) hi) ⟨rfl, rfl⟩ rfl ?_
  refine j_seal (by omega) ?_
  intro w2 u2
  have fw2 := u2.fw (ρ := 49 + i) (by omega) (by omega)
  have h2 := h1.up49 (i0 := i) hi fw2 u2.1
  have ke2 := z_ke h2 ke1 z_keH
  refine j_aload_n dX10_forget_10 rfl rfl ?_
  refine j_iconst (v := (-1)) dX10_forget_11 (by decide) ?_
  refine j_put (w' := _) dX10_forget_12 fX10_15 tX10_3 (h2.hd (i := i) hi) ⟨rfl, rfl⟩ rfl ?_
  refine j_seal (by omega) ?_
  intro w3 u3
  have fw3 := u3.fw (ρ := 49 + i) (by omega) (by omega)
  have h3 := h2.up49 (i0 := i) hi fw3 u3.1
  have ke3 := z_ke h3 ke2 z_keH
  refine j_aload_n dX10_forget_15 rfl rfl ?_
  refine j_getf dX10_forget_16 fX10_21 (h3.hd (i := i) hi) rfl ?_
  obtain ⟨lv11, -, lg11⟩ := z_li.cell (h3.hl (i := i) hi).1
  refine j_callV (q := (RJx4a65c, TJx4a65c, 3)) dX10_forget_19 kJx4a65c_clear_da8c8 lX10_49 inJx4a65c_clear_da8c8 seJx4a65c_clear_da8c8 lg11 rfl (cl_clear hl w3 _ _ _ _ (h3.hl hi).1 h3.fn) (Nat.le_of_ble_eq_true rfl) ⟨(Nat.le_of_ble_eq_true rfl), (Nat.le_of_ble_eq_true rfl)⟩ rfl (Nat.le_of_ble_eq_true rfl) rfl rfl (fun _ _ h => h.elim) ?_
  rintro _ w4 ⟨rfl, fw4, mo4, hr4⟩
  have fm4 := fw4.fm (q := 56) (by omega)
  have h4 := h3.li54 (B := []) hi fw4 hr4 (by decide)
  have ke4 := z_ke h4 ke3 rfl
  refine j_vret dX10_forget_22 rfl ?_ (Nat.le_of_ble_eq_true rfl) (Nat.le_of_ble_eq_true rfl)
  exact ⟨rfl, _, ((((fw1.fm (q := 56) (by omega)).tr (fw2.fm (q := 56) (by omega))).tr (fw3.fm (q := 56) (by omega))).tr (fm4.le (q' := 56) (by decide))), h4, ke4, ⟨rfl, rfl, rfl, rfl, rfl, rfl, rfl, rfl⟩, by simp only [z_qh, z_ql, z_th, z_tl, z_fu_self], by simp only [z_qh, z_ql, z_th, z_tl, z_fu_self], fun j hj => ⟨by simp only [z_qh, z_ql, z_th, z_tl, z_fu_ne hj], by simp only [z_qh, z_ql, z_th, z_tl, z_fu_ne hj]⟩⟩
end ZMp
end ZM1
section ZM2
section ZMq
variable {G : z_G} {l : Launch}
set_option maxRecDepth 100000 in
set_option maxHeartbeats 8000000 in
theorem cm_heardTold (hl : l.stackTraces = false) (w : z_W) (s : z_Z) (i : Nat) (y : Int32) (h : z_mst w s) (hi : i < 2) : z_Con G l mX11_heardTold 10 0 0 w [.ref 1000, .int (nI i), .int y] (fun v w9 => (∃ r : Int32, v = some (.int r)) ∧ w9 = w) (fun _ _ => False) := by
  have ke0 : z_key s = z_key s := rfl
  refine z_body hl (by decide) rfl (Nat.le_of_ble_eq_true rfl) ?_
  show z_J G l mX11_heardTold _ 0 [(0, _), (1, _), (2, _)] [] _ 0 0
  refine j_aload_n dX11_heardTold_0 rfl rfl ?_
  refine j_getf dX11_heardTold_1 fX11_40 h.m rfl ?_
  refine j_iload_n dX11_heardTold_4 rfl ?_
  obtain ⟨fz1, gz1, hz1⟩ := h.hs
  refine j_aald (v := .ref (1009 + i)) dX11_heardTold_5 gz1 rfl rfl (vp_in_nI (by omega) (by omega)) (by rw [z_cla (by omega)]; exact hz1 _ (by omega)) ?_
  refine j_astore_n (lo' := [(3, _), (0, _), (1, _), (2, _)]) dX11_heardTold_6 rfl (by decide) rfl ?_
  refine j_iload_n dX11_heardTold_7 rfl ?_
  refine j_if_ne (tgt := 18) dX11_heardTold_8 (by decide) (fun c_8_9 => ?_) (fun c_8_9 => ?_)
  · refine j_iload_n dX11_heardTold_18 rfl ?_
    refine j_iconst (v := 1) dX11_heardTold_19 (by decide) ?_
    refine j_icmp_ne (tgt := 30) dX11_heardTold_20 (by decide) (fun c_20_12 => ?_) (fun c_20_12 => ?_)
    · refine j_iload_n dX11_heardTold_30 rfl ?_
      refine j_iconst (v := 2) dX11_heardTold_31 (by decide) ?_
      refine j_icmp_ne (tgt := 42) dX11_heardTold_32 (by decide) (fun c_32_15 => ?_) (fun c_32_15 => ?_)
      · refine j_aload_n dX11_heardTold_42 rfl rfl ?_
        refine j_getf dX11_heardTold_43 fX11_190 (h.hd (i := i) (by omega)) rfl ?_
        refine j_iret dX11_heardTold_46 rfl rfl ?_ (Nat.le_of_ble_eq_true rfl) (Nat.le_of_ble_eq_true rfl)
        exact ⟨⟨_, rfl⟩, rfl⟩
      · refine j_aload_n dX11_heardTold_35 rfl rfl ?_
        refine j_getf dX11_heardTold_36 fX11_202 (h.hd (i := i) (by omega)) rfl ?_
        refine j_goto (tgt := 46) dX11_heardTold_39 (by decide) ?_
        refine j_iret dX11_heardTold_46 rfl rfl ?_ (Nat.le_of_ble_eq_true rfl) (Nat.le_of_ble_eq_true rfl)
        exact ⟨⟨_, rfl⟩, rfl⟩
    · refine j_aload_n dX11_heardTold_23 rfl rfl ?_
      refine j_getf dX11_heardTold_24 fX11_199 (h.hd (i := i) (by omega)) rfl ?_
      refine j_goto (tgt := 46) dX11_heardTold_27 (by decide) ?_
      refine j_iret dX11_heardTold_46 rfl rfl ?_ (Nat.le_of_ble_eq_true rfl) (Nat.le_of_ble_eq_true rfl)
      exact ⟨⟨_, rfl⟩, rfl⟩
  · refine j_aload_n dX11_heardTold_11 rfl rfl ?_
    refine j_getf dX11_heardTold_12 fX11_193 (h.hd (i := i) (by omega)) rfl ?_
    refine j_goto (tgt := 46) dX11_heardTold_15 (by decide) ?_
    refine j_iret dX11_heardTold_46 rfl rfl ?_ (Nat.le_of_ble_eq_true rfl) (Nat.le_of_ble_eq_true rfl)
    exact ⟨⟨_, rfl⟩, rfl⟩
end ZMq
end ZM2
section ZM3
section ZMs5
variable {G : z_G} {l : Launch}
set_option maxRecDepth 100000 in
set_option maxHeartbeats 8000000 in
theorem cm_place (hl : l.stackTraces = false) (w : z_W) (s : z_Z) (t : Nat) (y : Int32) (h : z_mst w s) (ht : t < 3) : z_Con G l mX11_place 14 0 0 w [.ref 1000, .int (nI t), .int y] (fun v w9 => ((∃ j p, v = some (.int (nI j)) ∧ (z_qp s t).2[j]? = some p ∧ z_qk s p 0 = y) ∨ (v = some (.int (-1)) ∧ ∀ p ∈ (z_qp s t).2, ¬ z_qk s p 0 = y)) ∧ w9 = w) (fun _ _ => False) := by
  refine z_body hl (by decide) rfl (Nat.le_of_ble_eq_true rfl) ?_
  show z_J G l mX11_place _ 0 [(0, _), (1, _), (2, _)] [] _ 0 0
  refine j_iconst (v := 0) dX11_place_0 (by decide) ?_
  refine j_istore_n (lo' := [(3, _), (0, _), (1, _), (2, _)]) dX11_place_1 (by decide) rfl ?_
  have loop2 : ∀ (n9 : Nat) (w1 : z_W) (j : Nat), (j ≤ 20) → (20 < j + n9) → (∀ q, q < j → ∀ p, (z_qp s t).2[q]? = some p → ¬ z_qk s p 0 = y) → (z_mst w1 s) → (w1 = w) → z_J G l mX11_place (14, 0, 0, w, (fun v w9 => ((∃ j p, v = some (.int (nI j)) ∧ (z_qp s t).2[j]? = some p ∧ z_qk s p 0 = y) ∨ (v = some (.int (-1)) ∧ ∀ p ∈ (z_qp s t).2, ¬ z_qk s p 0 = y)) ∧ w9 = w), (fun _ _ => False)) 2 [(0, .ref 1000), (1, .int (nI t)), (2, .int y), (3, .int (nI j))] [] w1 0 0 := by
    intro n9
    induction n9 with
    | zero => intro w1 j hj hf9 hno hm hW; exact absurd hf9 (by omega)
    | succ n9 ih =>
      intro w1 j hj hf9 hno hm hW
      refine j_iload_n dX11_place_2 rfl ?_
      refine j_aload_n dX11_place_3 rfl rfl ?_
      refine j_getf dX11_place_4 fX11_34 hm.m rfl ?_
      refine j_iload_n dX11_place_7 rfl ?_
      obtain ⟨lv361, -, lg361⟩ := z_li.cell hm.tabs
      refine j_callV (q := (RJx4a65c, TJx4a65c, 3)) dX11_place_8 kJx4a65c_get_915e3 lX11_82 inJx4a65c_get_915e3 seJx4a65c_get_915e3 lg361 rfl (cl_get hl w1 47 1007 _ _ (t) _ hm.tabs (z_thr3 (t := t) (by omega))) (Nat.le_of_ble_eq_true rfl) ⟨(Nat.le_of_ble_eq_true rfl), (Nat.le_of_ble_eq_true rfl)⟩ rfl (Nat.le_of_ble_eq_true rfl) rfl rfl (fun _ _ h => h.elim) ?_
      rintro _ _ ⟨rfl, hw362⟩
      refine j_w w1 hw362 ?_
      refine j_castS dX11_place_11 (z_w 1341 ((lwg_6 96).trans rfl) (by decide +kernel)) (z_li.is (hm.tb (t := t) (by omega))) ?_
      obtain ⟨lv364, -, lg364⟩ := z_li.cell (hm.tb (t := t) (by omega))
      refine j_callV (q := (RJx4a65c, TJx4a65c, 3)) dX11_place_14 kJx4a65c_size_8abf5 lX11_86 inJx4a65c_size_8abf5 seJx4a65c_size_8abf5 lg364 rfl (cl_sizeR hl w1 _ _ _ _ (hm.tb (t := t) (by omega))) (Nat.le_of_ble_eq_true rfl) ⟨(Nat.le_of_ble_eq_true rfl), (Nat.le_of_ble_eq_true rfl)⟩ rfl (Nat.le_of_ble_eq_true rfl) rfl rfl (fun _ _ h => h.elim) ?_
      rintro _ _ ⟨⟨n365, rfl, hn365⟩, hw365⟩
      refine j_w w1 hw365 ?_
      have hn365 : n365 = (z_qp s (t)).2.length := hn365
      have hz365 : (z_qp s (t)).2.length ≤ 20 := (hm.pr (t := t) (by omega)).len
      refine j_icmp_ge (tgt := 52) dX11_place_17 (by decide) (fun c_17_25 => ?_) (fun c_17_25 => ?_)
      · have hb17 : n365 ≤ j := (nI_leI (a := n365) (b := j) (by omega) (by omega)).mp c_17_25
        refine j_iconst (v := (-1)) dX11_place_52 (by decide) ?_
        refine j_iret dX11_place_53 rfl rfl ?_ (Nat.le_of_ble_eq_true rfl) (Nat.le_of_ble_eq_true rfl)
        exact ⟨Or.inr ⟨rfl, fun p hp => by obtain ⟨q, hq⟩ := List.getElem?_of_mem hp; exact hno q (by have := (List.getElem?_eq_some_iff.mp hq).1; omega) p hq⟩, hW⟩
      · have hb17 : j < n365 := Nat.not_le.mp (fun z => c_17_25 ((nI_leI (a := n365) (b := j) (by omega) (by omega)).mpr z))
        refine j_aload_n dX11_place_20 rfl rfl ?_
        refine j_getf dX11_place_21 fX11_34 hm.m rfl ?_
        refine j_iload_n dX11_place_24 rfl ?_
        obtain ⟨lv367, -, lg367⟩ := z_li.cell hm.tabs
        refine j_callV (q := (RJx4a65c, TJx4a65c, 3)) dX11_place_25 kJx4a65c_get_915e3 lX11_82 inJx4a65c_get_915e3 seJx4a65c_get_915e3 lg367 rfl (cl_get hl w1 47 1007 _ _ (t) _ hm.tabs (z_thr3 (t := t) (by omega))) (Nat.le_of_ble_eq_true rfl) ⟨(Nat.le_of_ble_eq_true rfl), (Nat.le_of_ble_eq_true rfl)⟩ rfl (Nat.le_of_ble_eq_true rfl) rfl rfl (fun _ _ h => h.elim) ?_
        rintro _ _ ⟨rfl, hw368⟩
        refine j_w w1 hw368 ?_
        refine j_castS dX11_place_28 (z_w 1341 ((lwg_6 96).trans rfl) (by decide +kernel)) (z_li.is (hm.tb (t := t) (by omega))) ?_
        refine j_iload_n dX11_place_31 rfl ?_
        obtain ⟨p370, hp370, hq370, hk370⟩ := z_rs_ex (P := (z_qp s (t)).2) (k := j) (by omega)
        obtain ⟨lv371, -, lg371⟩ := z_li.cell (hm.tb (t := t) (by omega))
        refine j_callV (q := (RJx4a65c, TJx4a65c, 3)) dX11_place_32 kJx4a65c_get_915e3 lX11_82 inJx4a65c_get_915e3 seJx4a65c_get_915e3 lg371 rfl (cl_get hl w1 _ _ _ _ (j) _ (hm.tb (t := t) (by omega)) hq370) (Nat.le_of_ble_eq_true rfl) ⟨(Nat.le_of_ble_eq_true rfl), (Nat.le_of_ble_eq_true rfl)⟩ rfl (Nat.le_of_ble_eq_true rfl) rfl rfl (fun _ _ h => h.elim) ?_
        rintro _ _ ⟨rfl, hw372⟩
        refine j_w w1 hw372 ?_
        refine j_castS dX11_place_35 (z_w 1663 ((lwg_7 178).trans rfl) (by decide +kernel)) (z_isA ((hm.pr (t := t) (by omega)).1 p370 hp370).2) ?_
        refine j_iconst (v := 0) dX11_place_38 (by decide) ?_
        refine j_ld dX11_place_39 ((hm.pr (t := t) (by omega)).1 p370 hp370).2 (vp_in_nI (n := 0) (by decide) (by decide)) ?_
        refine j_iload_n dX11_place_40 rfl ?_
        refine j_icmp_ne (tgt := 46) dX11_place_41 (by decide) (fun c_41_49 => ?_) (fun c_41_49 => ?_)
        · refine j_iinc (lo' := [(3, _), (0, _), (1, _), (2, _)]) dX11_place_46 rfl (z_inc _) (by decide) rfl ?_
          refine j_goto (tgt := 2) dX11_place_49 (by decide) ?_
          exact j_lo2 (ih w1 (j + 1) (by omega) (by omega) (fun q hq p hqp => by rcases Nat.lt_succ_iff_lt_or_eq.mp hq with z | z; exact hno q z p hqp; subst z; rw [hk370] at hqp; cases hqp; exact c_41_49) hm hW) (z_q1 rfl (z_q1 rfl (z_q1 rfl (z_q1 rfl z_q0))))
        · refine j_iload_n dX11_place_44 rfl ?_
          refine j_iret dX11_place_45 rfl rfl ?_ (Nat.le_of_ble_eq_true rfl) (Nat.le_of_ble_eq_true rfl)
          exact ⟨Or.inl ⟨j, _, rfl, hk370, c_41_49⟩, hW⟩
  exact j_lo2 (loop2 21 w 0 (by omega) (by omega) (fun q hq => absurd hq (Nat.not_lt_zero _)) h rfl) (z_q1 rfl (z_q1 rfl (z_q1 rfl (z_q1 rfl z_q0))))
end ZMs5
end ZM3
section ZM4
section ZMs7
variable {G : z_G} {l : Launch}
set_option maxRecDepth 100000 in
set_option maxHeartbeats 8000000 in
theorem cm_isTrue (hl : l.stackTraces = false) (w : z_W) (s : z_Z)  (h : z_mst w s)  : z_Con G l mX11_isTrue 16 0 0 w [.ref 1000] (fun v w9 => (∃ r : Int32, v = some (.int r) ∧ narrow .boolean (.int r) = .int r) ∧ w9 = w) (fun _ _ => False) := by
  refine z_body hl (by decide) rfl (Nat.le_of_ble_eq_true rfl) ?_
  show z_J G l mX11_isTrue _ 0 [(0, _)] [] _ 0 0
  refine j_iconst (v := 1) dX11_isTrue_0 (by decide) ?_
  refine j_istore_n (lo' := [(1, _), (0, _)]) dX11_isTrue_1 (by decide) rfl ?_
  have loop2 : ∀ (n9 : Nat) (w1 : z_W) (j : Nat), (1 ≤ j) → (j ≤ 21) → (21 < j + n9) → (z_mst w1 s) → (w1 = w) → z_J G l mX11_isTrue (16, 0, 0, w, (fun v w9 => (∃ r : Int32, v = some (.int r) ∧ narrow .boolean (.int r) = .int r) ∧ w9 = w), (fun _ _ => False)) 2 [(0, .ref 1000), (1, .int (nI j))] [] w1 0 0 := by
    intro n9
    induction n9 with
    | zero => intro w1 j hj1 hj hf9 hm hW; exact absurd hf9 (by omega)
    | succ n9 ih =>
      intro w1 j hj1 hj hf9 hm hW
      refine j_iload_n dX11_isTrue_2 rfl ?_
      refine j_aload_n dX11_isTrue_3 rfl rfl ?_
      refine j_getf dX11_isTrue_4 fX11_34 hm.m rfl ?_
      refine j_iconst (v := 2) dX11_isTrue_7 (by decide) ?_
      obtain ⟨lv548, -, lg548⟩ := z_li.cell hm.tabs
      refine j_callV (q := (RJx4a65c, TJx4a65c, 3)) dX11_isTrue_8 kJx4a65c_get_915e3 lX11_82 inJx4a65c_get_915e3 seJx4a65c_get_915e3 lg548 rfl (cl_get hl w1 47 1007 _ _ (2) _ hm.tabs (z_thr3 (t := 2) (by decide))) (Nat.le_of_ble_eq_true rfl) ⟨(Nat.le_of_ble_eq_true rfl), (Nat.le_of_ble_eq_true rfl)⟩ rfl (Nat.le_of_ble_eq_true rfl) rfl rfl (fun _ _ h => h.elim) ?_
      rintro _ _ ⟨rfl, hw549⟩
      refine j_w w1 hw549 ?_
      refine j_castS dX11_isTrue_11 (z_w 1341 ((lwg_6 96).trans rfl) (by decide +kernel)) (z_li.is (hm.tb (t := 2) (by decide))) ?_
      obtain ⟨lv551, -, lg551⟩ := z_li.cell (hm.tb (t := 2) (by decide))
      refine j_callV (q := (RJx4a65c, TJx4a65c, 3)) dX11_isTrue_14 kJx4a65c_size_8abf5 lX11_86 inJx4a65c_size_8abf5 seJx4a65c_size_8abf5 lg551 rfl (cl_sizeR hl w1 _ _ _ _ (hm.tb (t := 2) (by decide))) (Nat.le_of_ble_eq_true rfl) ⟨(Nat.le_of_ble_eq_true rfl), (Nat.le_of_ble_eq_true rfl)⟩ rfl (Nat.le_of_ble_eq_true rfl) rfl rfl (fun _ _ h => h.elim) ?_
      rintro _ _ ⟨⟨n552, rfl, hn552⟩, hw552⟩
      refine j_w w1 hw552 ?_
      have hn552 : n552 = (z_qp s (2)).2.length := hn552
      have hz552 : (z_qp s (2)).2.length ≤ 20 := (hm.pr (t := 2) (by decide)).len
      refine j_icmp_ge (tgt := 73) dX11_isTrue_17 (by decide) (fun c_17_25 => ?_) (fun c_17_25 => ?_)
      · have hb17 : n552 ≤ j := (nI_leI (a := n552) (b := j) (by omega) (by omega)).mp c_17_25
        refine j_iconst (v := 1) dX11_isTrue_73 (by decide) ?_
        refine j_iret dX11_isTrue_74 rfl rfl ?_ (Nat.le_of_ble_eq_true rfl) (Nat.le_of_ble_eq_true rfl)
        exact ⟨⟨_, rfl, rfl⟩, hW⟩
      · have hb17 : j < n552 := Nat.not_le.mp (fun z => c_17_25 ((nI_leI (a := n552) (b := j) (by omega) (by omega)).mpr z))
        refine j_aload_n dX11_isTrue_20 rfl rfl ?_
        refine j_getf dX11_isTrue_21 fX11_34 hm.m rfl ?_
        refine j_iconst (v := 2) dX11_isTrue_24 (by decide) ?_
        obtain ⟨lv554, -, lg554⟩ := z_li.cell hm.tabs
        refine j_callV (q := (RJx4a65c, TJx4a65c, 3)) dX11_isTrue_25 kJx4a65c_get_915e3 lX11_82 inJx4a65c_get_915e3 seJx4a65c_get_915e3 lg554 rfl (cl_get hl w1 47 1007 _ _ (2) _ hm.tabs (z_thr3 (t := 2) (by decide))) (Nat.le_of_ble_eq_true rfl) ⟨(Nat.le_of_ble_eq_true rfl), (Nat.le_of_ble_eq_true rfl)⟩ rfl (Nat.le_of_ble_eq_true rfl) rfl rfl (fun _ _ h => h.elim) ?_
        rintro _ _ ⟨rfl, hw555⟩
        refine j_w w1 hw555 ?_
        refine j_castS dX11_isTrue_28 (z_w 1341 ((lwg_6 96).trans rfl) (by decide +kernel)) (z_li.is (hm.tb (t := 2) (by decide))) ?_
        refine j_iload_n dX11_isTrue_31 rfl ?_
        obtain ⟨p557, hp557, hq557, hk557⟩ := z_rs_ex (P := (z_qp s (2)).2) (k := j) (by omega)
        obtain ⟨lv558, -, lg558⟩ := z_li.cell (hm.tb (t := 2) (by decide))
        refine j_callV (q := (RJx4a65c, TJx4a65c, 3)) dX11_isTrue_32 kJx4a65c_get_915e3 lX11_82 inJx4a65c_get_915e3 seJx4a65c_get_915e3 lg558 rfl (cl_get hl w1 _ _ _ _ (j) _ (hm.tb (t := 2) (by decide)) hq557) (Nat.le_of_ble_eq_true rfl) ⟨(Nat.le_of_ble_eq_true rfl), (Nat.le_of_ble_eq_true rfl)⟩ rfl (Nat.le_of_ble_eq_true rfl) rfl rfl (fun _ _ h => h.elim) ?_
        rintro _ _ ⟨rfl, hw559⟩
        refine j_w w1 hw559 ?_
        refine j_castS dX11_isTrue_35 (z_w 1663 ((lwg_7 178).trans rfl) (by decide +kernel)) (z_isA ((hm.pr (t := 2) (by decide)).1 p557 hp557).2) ?_
        refine j_iconst (v := 0) dX11_isTrue_38 (by decide) ?_
        refine j_ld dX11_isTrue_39 ((hm.pr (t := 2) (by decide)).1 p557 hp557).2 (vp_in_nI (n := 0) (by decide) (by decide)) ?_
        refine j_aload_n dX11_isTrue_40 rfl rfl ?_
        refine j_getf dX11_isTrue_41 fX11_34 hm.m rfl ?_
        refine j_iconst (v := 2) dX11_isTrue_44 (by decide) ?_
        obtain ⟨lv563, -, lg563⟩ := z_li.cell hm.tabs
        refine j_callV (q := (RJx4a65c, TJx4a65c, 3)) dX11_isTrue_45 kJx4a65c_get_915e3 lX11_82 inJx4a65c_get_915e3 seJx4a65c_get_915e3 lg563 rfl (cl_get hl w1 47 1007 _ _ (2) _ hm.tabs (z_thr3 (t := 2) (by decide))) (Nat.le_of_ble_eq_true rfl) ⟨(Nat.le_of_ble_eq_true rfl), (Nat.le_of_ble_eq_true rfl)⟩ rfl (Nat.le_of_ble_eq_true rfl) rfl rfl (fun _ _ h => h.elim) ?_
        rintro _ _ ⟨rfl, hw564⟩
        refine j_w w1 hw564 ?_
        refine j_castS dX11_isTrue_48 (z_w 1341 ((lwg_6 96).trans rfl) (by decide +kernel)) (z_li.is (hm.tb (t := 2) (by decide))) ?_
        refine j_iload_n dX11_isTrue_51 rfl ?_
        refine j_iconst (v := 1) dX11_isTrue_52 (by decide) ?_
        refine j_isub dX11_isTrue_53 ?_
        refine j_top (congrArg Value.int (pk_sub (a := j) (b := 1) (by omega))) ?_
        obtain ⟨p566, hp566, hq566, hk566⟩ := z_rs_ex (P := (z_qp s (2)).2) (k := (j - 1)) (by omega)
        obtain ⟨lv567, -, lg567⟩ := z_li.cell (hm.tb (t := 2) (by decide))
        refine j_callV (q := (RJx4a65c, TJx4a65c, 3)) dX11_isTrue_54 kJx4a65c_get_915e3 lX11_82 inJx4a65c_get_915e3 seJx4a65c_get_915e3 lg567 rfl (cl_get hl w1 _ _ _ _ ((j - 1)) _ (hm.tb (t := 2) (by decide)) hq566) (Nat.le_of_ble_eq_true rfl) ⟨(Nat.le_of_ble_eq_true rfl), (Nat.le_of_ble_eq_true rfl)⟩ rfl (Nat.le_of_ble_eq_true rfl) rfl rfl (fun _ _ h => h.elim) ?_
        rintro _ _ ⟨rfl, hw568⟩
        refine j_w w1 hw568 ?_
        refine j_castS dX11_isTrue_57 (z_w 1663 ((lwg_7 178).trans rfl) (by decide +kernel)) (z_isA ((hm.pr (t := 2) (by decide)).1 p566 hp566).2) ?_
        refine j_iconst (v := 0) dX11_isTrue_60 (by decide) ?_
        refine j_ld dX11_isTrue_61 ((hm.pr (t := 2) (by decide)).1 p566 hp566).2 (vp_in_nI (n := 0) (by decide) (by decide)) ?_
        refine j_icmp_gt (tgt := 67) dX11_isTrue_62 (by decide) (fun c_62_68 => ?_) (fun c_62_68 => ?_)
        · refine j_iinc (lo' := [(1, _), (0, _)]) dX11_isTrue_67 rfl (z_inc _) (by decide) rfl ?_
          refine j_goto (tgt := 2) dX11_isTrue_70 (by decide) ?_
          exact j_lo2 (ih w1 (j + 1) (by omega) (by omega) (by omega) hm hW) (z_q1 rfl (z_q1 rfl z_q0))
        · refine j_iconst (v := 0) dX11_isTrue_65 (by decide) ?_
          refine j_iret dX11_isTrue_66 rfl rfl ?_ (Nat.le_of_ble_eq_true rfl) (Nat.le_of_ble_eq_true rfl)
          exact ⟨⟨_, rfl, rfl⟩, hW⟩
  exact j_lo2 (loop2 21 w 1 (by omega) (by omega) (by omega) h rfl) (z_q1 rfl (z_q1 rfl z_q0))
end ZMs7
end ZM4
section ZM5
section ZMs9
variable {G : z_G} {l : Launch}
theorem j_mnew2 {y : z_M} {S : z_S} {pc : Nat} {lo : List (Nat × Value)} {st : List Value} {w : z_W} {kc ks : Nat} {idx a b c d : Nat} (hd : decode y.2.1 pc = .ok (.multianewarray idx 2, 4)) (hcl : Cond.classLink y.1.cls idx "[[I" ∈ z_tbl) (hov : Cond.arrayOver (.array .int) ∈ z_nst) (har : Cond.arrayClass .int ∈ z_tbl)
    (ha : 1000 ≤ a) (hb : 1000 ≤ b) (hc : 1000 ≤ c) (hd9 : 1000 ≤ d) (fa : z_g w a = none) (fb : z_g w b = none) (fc : z_g w c = none) (fd : z_g w d = none) (nab : b ≠ a) (nac : c ≠ a) (nad : d ≠ a) (nbc : c ≠ b) (nbd : d ≠ b) (ncd : d ≠ c)
    (hcs : kc + (1 + 3) ≤ S.2.1) (hss : ks + (3 + 3 * 7) ≤ S.2.2.1)
    (h : ∀ w', w'.1 = w.1 → (z_fn w → z_fn w') → (∀ m, m ≠ a → m ≠ b → m ≠ c → m ≠ d → z_g w' m = z_g w m) → (∃ f, z_g w' a = some (.inl (8, 3, f)) ∧ f 0 = .ref b ∧ f 1 = .ref c ∧ f 2 = .ref d) → z_g w' b = some (.inl (0, 7, fun _ => .int 0)) → z_g w' c = some (.inl (0, 7, fun _ => .int 0)) → z_g w' d = some (.inl (0, 7, fun _ => .int 0)) → z_J G l y S (pc + 4) lo (.ref a :: st) w' (kc + 4) (ks + 24)) : z_J G l y S pc lo (.int 7 :: .int 3 :: st) w kc ks := by
  refine j_mnew hd hcl hov har ha hb hc hd9 fa fb fc fd nab nac nad nbc nbd ncd hcs hss ?_
  obtain ⟨a1, a2, a3, a4⟩ := z_upS (w := w) (n := a) (e := .inl (8, 3, fun _ => .null)) ha
  generalize z_s w a (.inl (8, 3, fun _ => .null)) = w1 at *
  obtain ⟨b1, b2, b3, b4⟩ := z_upS (w := w1) (n := b) (e := .inl (0, 7, fun _ => .int 0)) hb
  generalize z_s w1 b (.inl (0, 7, fun _ => .int 0)) = w2 at *
  obtain ⟨c1, c2, c3, c4⟩ := z_upS (w := w2) (n := c) (e := .inl (0, 7, fun _ => .int 0)) hc
  generalize z_s w2 c (.inl (0, 7, fun _ => .int 0)) = w3 at *
  obtain ⟨d1, d2, d3, d4⟩ := z_upS (w := w3) (n := d) (e := .inl (0, 7, fun _ => .int 0)) hd9
  generalize z_s w3 d (.inl (0, 7, fun _ => .int 0)) = w4 at *
  obtain ⟨e1, e2, e3, e4⟩ := z_upS (w := w4) (n := a) (e := .inl (8, 3, z_u (z_u (z_u (fun _ => .null) 0 (.ref b)) 1 (.ref c)) 2 (.ref d))) ha
  generalize z_s w4 a (.inl (8, 3, z_u (z_u (z_u (fun _ => .null) 0 (.ref b)) 1 (.ref c)) 2 (.ref d))) = w5 at *
  exact h w5 (e3.trans (d3.trans (c3.trans (b3.trans a3)))) (fun z => e4 (d4 (c4 (b4 (a4 z))))) (fun m m1 m2 m3 m4 => (e2 m m1).trans ((d2 m m4).trans ((c2 m m3).trans ((b2 m m2).trans (a2 m m1))))) ⟨_, e1, rfl, rfl, rfl⟩ ((e2 b nab).trans ((d2 b (Ne.symm nbd)).trans ((c2 b (Ne.symm nbc)).trans b1))) ((e2 c nac).trans ((d2 c (Ne.symm ncd)).trans c1)) ((e2 d nad).trans d1)
theorem z_mem2 {P : Value → Prop} {L : List Value} {e : Value} (h : ∀ v ∈ L, P v) (he : P e) : ∀ v ∈ L ++ [e], P v := fun v hv => by
  rcases List.mem_append.mp hv with hv | hv
  · exact h v hv
  · rw [List.mem_singleton.mp hv]; exact he
set_option maxRecDepth 100000 in
set_option maxHeartbeats 8000000 in
theorem cm_init1009 (hl : l.stackTraces = false) (w : z_W)  (hfn : z_fn w) (hno : ∀ k, k = 1014 → z_g w k = none) (gh : z_g w 1009 = some (.inr (14, [.int 0, .int 0, .int 0, .int 0, .null]))) : z_Con G l mX10_init 14 1 3 w [.ref 1009] (fun v w9 => v = none ∧ w9.1 = w.1 ∧ z_fn w9 ∧ (∀ k, k < 1000 ∨ (k % 64 ≠ 49 ∧ k % 64 ≠ 54) → z_g w9 k = z_g w k) ∧ z_g w9 1009 = some (.inr (14, [.int (-1000), .int 0, .int 0, .int (-1), .ref 1014])) ∧ z_li w9 54 1014 0 []) (fun _ _ => False) := by
  have f_1014 : z_g w 1014 = none := hno 1014 (by decide)
  have b0 : w.1 = w.1 := rfl
  refine z_body hl (by decide) rfl (Nat.le_of_ble_eq_true rfl) ?_
  show z_J G l mX10_init _ 0 [(0, _)] [] _ 0 0
  refine j_aload_n dX10_init_0 rfl rfl ?_
  refine j_objI dX10_init_1 oX10_3 z_oi1 z_oi2 (Nat.le_of_ble_eq_true rfl) (Nat.le_of_ble_eq_true rfl) ?_
  refine j_aload_n dX10_init_4 rfl rfl ?_
  refine j_sipush (v := (-1000)) dX10_init_5 (by decide) ?_
  refine j_put (w' := _) dX10_init_8 fX10_9 tX10_0 gh ⟨rfl, rfl⟩ rfl ?_
  refine j_seal (n := 1009) (by decide) ?_
  intro w1 u1
  have fw1 := u1.fw (ρ := 49) (by decide) (by decide)
  have g1_1014 := (fw1.2.2 1014 (Or.inr (by decide))).trans f_1014
  have g1_1009 := u1.1
  have b1 := (fw1.1).trans b0
  have hf1 := fw1.2.1 hfn
  refine j_aload_n dX10_init_11 rfl rfl ?_
  refine j_iconst (v := (-1)) dX10_init_12 (by decide) ?_
  refine j_put (w' := _) dX10_init_13 fX10_15 tX10_3 g1_1009 ⟨rfl, rfl⟩ rfl ?_
  refine j_seal (n := 1009) (by decide) ?_
  intro w2 u2
  have fw2 := u2.fw (ρ := 49) (by decide) (by decide)
  have g2_1014 := (fw2.2.2 1014 (Or.inr (by decide))).trans g1_1014
  have g2_1009 := u2.1
  have b2 := (fw2.1).trans b1
  have hf2 := fw2.2.1 hf1
  refine j_aload_n dX10_init_16 rfl rfl ?_
  refine j_new (w' := _) (n := 1014) dX10_init_17 nX10_18 rfl (z_alW g2_1014 (by decide)) (Nat.le_of_ble_eq_true rfl) (Nat.le_of_ble_eq_true rfl) ?_
  refine j_seal (n := 1014) (by decide) ?_
  intro w3 u3
  have fw3 := u3.fw (ρ := 54) (by decide) (by decide)
  have g3_1009 := (fw3.2.2 1009 (Or.inr (by decide))).trans g2_1009
  have g3_1014 := u3.1
  have b3 := (fw3.1).trans b2
  have hf3 := fw3.2.1 hf2
  refine j_dup dX10_init_20 rfl ?_
  refine j_callI dX10_init_21 kJx4a65c_init_da8c8 rfl lX10_20 inJx4a65c_init_da8c8 rfl (cl_init hl w3 54 1014 (by decide) (by decide) g3_1014) (Nat.le_of_ble_eq_true rfl) ⟨(Nat.le_of_ble_eq_true rfl), (Nat.le_of_ble_eq_true rfl)⟩ rfl (Nat.le_of_ble_eq_true rfl) rfl rfl (fun _ _ h => h.elim) ?_
  rintro _ w4 ⟨rfl, fw4, hk4, l4_1014⟩
  have g4_1009 := (fw4.2.2 1009 (Or.inr (by decide))).trans g3_1009
  have b4 := (fw4.1).trans b3
  have hf4 := fw4.2.1 hf3
  refine j_putF (w' := _) dX10_init_24 fX10_21 tX10_4 rfl (z_dc rfl rfl (z_w 1389 ((lwg_6 144).trans rfl) (by decide +kernel))) g4_1009 (Or.inl ⟨_, rfl⟩) rfl ?_
  refine j_seal (n := 1009) (by decide) ?_
  intro w5 u5
  have fw5 := u5.fw (ρ := 49) (by decide) (by decide)
  have l5_1014 := l4_1014.fw fw5 (by decide)
  have g5_1009 := u5.1
  have b5 := (fw5.1).trans b4
  have hf5 := fw5.2.1 hf4
  refine j_vret dX10_init_27 rfl ?_ (Nat.le_of_ble_eq_true rfl) (Nat.le_of_ble_eq_true rfl)
  exact ⟨rfl, b5, hf5, fun k hk => by rw [fw5.2.2 k (by omega)]; rw [fw4.2.2 k (by omega)]; rw [fw3.2.2 k (by omega)]; rw [fw2.2.2 k (by omega)]; rw [fw1.2.2 k (by omega)], g5_1009, l5_1014⟩
set_option maxRecDepth 100000 in
set_option maxHeartbeats 8000000 in
theorem cm_init1010 (hl : l.stackTraces = false) (w : z_W)  (hfn : z_fn w) (hno : ∀ k, k = 1015 → z_g w k = none) (gh : z_g w 1010 = some (.inr (14, [.int 0, .int 0, .int 0, .int 0, .null]))) : z_Con G l mX10_init 14 1 3 w [.ref 1010] (fun v w9 => v = none ∧ w9.1 = w.1 ∧ z_fn w9 ∧ (∀ k, k < 1000 ∨ (k % 64 ≠ 50 ∧ k % 64 ≠ 55) → z_g w9 k = z_g w k) ∧ z_g w9 1010 = some (.inr (14, [.int (-1000), .int 0, .int 0, .int (-1), .ref 1015])) ∧ z_li w9 55 1015 0 []) (fun _ _ => False) := by
  have f_1015 : z_g w 1015 = none := hno 1015 (by decide)
  have b0 : w.1 = w.1 := rfl
  refine z_body hl (by decide) rfl (Nat.le_of_ble_eq_true rfl) ?_
  show z_J G l mX10_init _ 0 [(0, _)] [] _ 0 0
  refine j_aload_n dX10_init_0 rfl rfl ?_
  refine j_objI dX10_init_1 oX10_3 z_oi1 z_oi2 (Nat.le_of_ble_eq_true rfl) (Nat.le_of_ble_eq_true rfl) ?_
  refine j_aload_n dX10_init_4 rfl rfl ?_
  refine j_sipush (v := (-1000)) dX10_init_5 (by decide) ?_
  refine j_put (w' := _) dX10_init_8 fX10_9 tX10_0 gh ⟨rfl, rfl⟩ rfl ?_
  refine j_seal (n := 1010) (by decide) ?_
  intro w1 u1
  have fw1 := u1.fw (ρ := 50) (by decide) (by decide)
  have g1_1015 := (fw1.2.2 1015 (Or.inr (by decide))).trans f_1015
  have g1_1010 := u1.1
  have b1 := (fw1.1).trans b0
  have hf1 := fw1.2.1 hfn
  refine j_aload_n dX10_init_11 rfl rfl ?_
  refine j_iconst (v := (-1)) dX10_init_12 (by decide) ?_
  refine j_put (w' := _) dX10_init_13 fX10_15 tX10_3 g1_1010 ⟨rfl, rfl⟩ rfl ?_
  refine j_seal (n := 1010) (by decide) ?_
  intro w2 u2
  have fw2 := u2.fw (ρ := 50) (by decide) (by decide)
  have g2_1015 := (fw2.2.2 1015 (Or.inr (by decide))).trans g1_1015
  have g2_1010 := u2.1
  have b2 := (fw2.1).trans b1
  have hf2 := fw2.2.1 hf1
  refine j_aload_n dX10_init_16 rfl rfl ?_
  refine j_new (w' := _) (n := 1015) dX10_init_17 nX10_18 rfl (z_alW g2_1015 (by decide)) (Nat.le_of_ble_eq_true rfl) (Nat.le_of_ble_eq_true rfl) ?_
  refine j_seal (n := 1015) (by decide) ?_
  intro w3 u3
  have fw3 := u3.fw (ρ := 55) (by decide) (by decide)
  have g3_1010 := (fw3.2.2 1010 (Or.inr (by decide))).trans g2_1010
  have g3_1015 := u3.1
  have b3 := (fw3.1).trans b2
  have hf3 := fw3.2.1 hf2
  refine j_dup dX10_init_20 rfl ?_
  refine j_callI dX10_init_21 kJx4a65c_init_da8c8 rfl lX10_20 inJx4a65c_init_da8c8 rfl (cl_init hl w3 55 1015 (by decide) (by decide) g3_1015) (Nat.le_of_ble_eq_true rfl) ⟨(Nat.le_of_ble_eq_true rfl), (Nat.le_of_ble_eq_true rfl)⟩ rfl (Nat.le_of_ble_eq_true rfl) rfl rfl (fun _ _ h => h.elim) ?_
  rintro _ w4 ⟨rfl, fw4, hk4, l4_1015⟩
  have g4_1010 := (fw4.2.2 1010 (Or.inr (by decide))).trans g3_1010
  have b4 := (fw4.1).trans b3
  have hf4 := fw4.2.1 hf3
  refine j_putF (w' := _) dX10_init_24 fX10_21 tX10_4 rfl (z_dc rfl rfl (z_w 1389 ((lwg_6 144).trans rfl) (by decide +kernel))) g4_1010 (Or.inl ⟨_, rfl⟩) rfl ?_
  refine j_seal (n := 1010) (by decide) ?_
  intro w5 u5
  have fw5 := u5.fw (ρ := 50) (by decide) (by decide)
  have l5_1015 := l4_1015.fw fw5 (by decide)
  have g5_1010 := u5.1
  have b5 := (fw5.1).trans b4
  have hf5 := fw5.2.1 hf4
  refine j_vret dX10_init_27 rfl ?_ (Nat.le_of_ble_eq_true rfl) (Nat.le_of_ble_eq_true rfl)
  exact ⟨rfl, b5, hf5, fun k hk => by rw [fw5.2.2 k (by omega)]; rw [fw4.2.2 k (by omega)]; rw [fw3.2.2 k (by omega)]; rw [fw2.2.2 k (by omega)]; rw [fw1.2.2 k (by omega)], g5_1010, l5_1015⟩
end ZMs9
end ZM5
section ZM6
section ZSb0
variable {G : z_G} {l : Launch} {y : z_M} {S : z_S} {pc : Nat} {lo : List (Nat × Value)} {st : List Value} {w w' : z_W} {kc ks : Nat}
def z_by (f : Nat → Value) : Prop := ∀ j, ∃ x, f j = .int x ∧ fits .byte (.int x) = true
theorem j_clone {idx a n N : Nat} {f : Nat → Value} (hd : decode y.2.1 pc = .ok (.invokevirtual idx, 3)) (hl : Cond.methodLink y.1.cls idx ⟨"[B", "clone", "()Ljava/lang/Object;"⟩ ∈ z_tbl) (hsm : Cond.sameMethod "[B" "java/lang/Object" "clone" "()Ljava/lang/Object;" ∈ z_tbl)
    (hnat : Cond.native ⟨"java/lang/Object", "clone", "()Ljava/lang/Object;"⟩ ∈ z_tbl) (hinst : Cond.instanceMethod ⟨"java/lang/Object", "clone", "()Ljava/lang/Object;"⟩ ∈ z_tbl) (hsel : Cond.selects "[B" ⟨"[B", "clone", "()Ljava/lang/Object;"⟩ ⟨"java/lang/Object", "clone", "()Ljava/lang/Object;"⟩ ∈ z_tbl) (hcl : Cond.castable "[B" "java/lang/Cloneable" ∈ z_nst)
    (hg : z_g w a = some (.inl (2, N, f))) (hf : z_by f) (hw : z_g w n = none ∧ z_al w n (.inl (2, N, f)) w') (hrk : 1 ≤ S.1) (hW : z_cat st ≤ 8) (hc : kc + 1 ≤ S.2.1) (hs : ks + N ≤ S.2.2.1)
    (h : z_J G l y S (pc + 3) lo (.ref n :: st) w' (kc + 1) (ks + N)) : z_J G l y S pc lo (.ref a :: st) w kc ks := by
  intro p e s m args below meth c R0 hok R H locs ls cst hat hlo hst
  obtain ⟨c0, cs0, rfl, ⟨-, h0⟩, hst1⟩ := z_Lc hst
  subst h0
  obtain ⟨z, z1, z2⟩ := (hat.1.1 a _ hg).1
  have hz : ∀ j, j < N → ∃ x, z j = .int x ∧ f j = .int x ∧ fits .byte (.int x) = true := fun j hj => by
    obtain ⟨x, ex, hx⟩ := hf j
    have h9 : z_V G R w (f j) (z j) := z2 j hj
    rw [ex] at h9
    exact ⟨x, h9, ex, hx⟩
  have hok2 := hok
  obtain ⟨hx, hb, -, -, -, hown, hts, henv, -, hbs, -⟩ := hok2
  obtain ⟨hA, hRA⟩ := henv.2.1 2 _ rfl
  have hnm : s.vm.findClass "[B" = some (z_dA G 2) := va_nm_byte hRA
  obtain ⟨c9, t9, f1, f2, f3⟩ := Cond.castable_spec (va_Nw.use (A := args) rfl (henv.2.2.1 _ hcl))
  cases hnm.symm.trans f1
  have hsz := hlo.choose_spec.1.1
  have h8 : (cs0.map fun v => v.category).sum ≤ 8 := by rw [z_Lcs hst1]; exact hW
  have h40 : 40 ≤ (z_rm S.1 S.2.1 S.2.2.1).locals := by show 40 ≤ 40 * S.1; omega
  have hX : z_X G ((fun m => if m = n then H.size else R.1 m), R.2) w' (.inl (2, N, f)) H.size (H.push (arrV (z_dA G 2) N z)) := ⟨z, Array.getElem?_push_size, fun j hj => by
    obtain ⟨x, e1, e2, -⟩ := hz j hj
    show z_V G _ w' (f j) (z j)
    rw [e1, e2]
    exact rfl⟩
  have hV := z_Va (G := G) (R := R) (q := H.size) hw.1 hw.2
  have hat' := z_alloc hbs hat hw.1 hw.2 (H' := H.push (arrV (z_dA G 2) N z)) (Array.size_push _) (fun q hq => by rw [Array.getElem?_push, if_neg (Nat.ne_of_lt hq)]) hX
  have hr : z_V G ((fun m => if m = n then H.size else R.1 m), R.2) w' (.ref n) (.ref H.size) := ⟨⟨_, hw.2.1⟩, by show Value.ref H.size = .ref (if n = n then H.size else R.1 n); rw [if_pos rfl]⟩
  have kk := h p e s m args below meth c R0 hok _ _ locs ls (.ref H.size :: cs0) hat' (z_lom hV hlo) ⟨hr, z_Lm hV hst1⟩
  intro T hT X
  obtain ⟨-, kA, hkA, comp, hkind⟩ := State.isArrayOf_alike X.warmed.alike (hA 0 (fun _ => .null))
  obtain ⟨-, kS, hkS, compS, hkindS⟩ := hA 0 (fun _ => .null)
  obtain ⟨vm', X', st9⟩ := X.cloneArray hx hown (hts _ hl) (hts _ hsm) (hts _ hnat) (hts _ hinst) (hts _ hsel) (a := R.1 a) (cell := arrV (z_dA G 2) N z) (by rw [hT]; exact z1) (fun k h => by cases h) (fun h => by cases h) hnm f2 f3
    (fun i v hv => by
      have hk' : T.vm.classes[z_dA G 2]? = some kA := hkA
      have h7 : fits .byte v = true := va_fit (F := z) (n := N) (cA := z_dA G 2) (fun i hi => by obtain ⟨x, e1, -, e3⟩ := hz i hi; rw [e1]; exact e3) i v hv
      have h6 : (arrV (z_dA G 2) N z).cls = z_dA G 2 := rfl
      rw [h6]
      simpa [State.fitsSlot, State.slotType?, hk', hkind] using h7)
    (g := F0 m pc ls (.ref (R.1 a) :: cs0)) rfl (by rw [← hsz]) (rest := cs0) rfl (by rw [hb]; exact hd) hrk (by show 2 * 0 + _ + 14 ≤ _; omega) hc (by rw [arrV_size]; exact hs) (hloader := Vm.clonesLoader_of_array hkS hkindS)
  rw [arrV_size] at X'
  obtain ⟨t, b1, b2⟩ := kk ((T.setVm vm').pushCell (arrV (z_dA G 2) N z)) (by rw [← hT]; rfl) X'
  refine ⟨t, st9 t ?_, b2⟩
  rw [hT]
  exact b1
theorem j_callVK {i idx np rk' mc' ms' : Nat} {y' : z_M} {as rest : List Value} {Q' : Option Value → z_W → Prop} {X' : String → z_W → Prop} {t : String × Nat × String} (hd : decode y.2.1 pc = .ok (.invokevirtual idx, 3)) (hm : z_okm y' np) (hl : Cond.methodLink y.1.cls idx y'.1 ∈ z_tbl) (hi : Cond.instanceMethod y'.1 ∈ z_tbl) (hse : Cond.selects "java/lang/String" y'.1 y'.1 ∈ z_tbl) (hi9 : z_strs[i]? = some t) (ht9 : t.1 = "LoopdefaultsModel" ∨ t.1 = "LoopdefaultsModel$Hearer") (hc : z_Con G l y' rk' mc' ms' w (.retAddr (10 + i) :: as) Q' X') (hrk : rk' + 1 ≤ S.1) (hcs : kc + mc' ≤ S.2.1 ∧ ks + ms' ≤ S.2.2.1) (hstk : st = as.reverse ++ .retAddr (10 + i) :: rest) (hW : z_cat rest ≤ 8) (hn : as.length = np) (ht : y.2.2.2.2 = []) (hx : ∀ E w', X' E w' → S.2.2.2.2.2 E w') (kk : ∀ v w', Q' v w' → z_J G l y S (pc + 3) lo (v.toList ++ rest) w' (kc + mc') (ks + ms')) : z_J G l y S pc lo st w kc ks := by
  intro p e s m args below meth c R0 hok R H locs ls cst hat hlo hst
  subst hstk
  obtain ⟨b1, c2, rfl, hb1, hst⟩ := z_Lapp hst
  obtain ⟨c1, crest, rfl, h1, hrest⟩ := z_Lc hst
  have h1' := h1
  obtain ⟨a, h2, hq1⟩ := h1'
  subst h2
  obtain ⟨a2, bq, ha, hbq, -, hO⟩ := (z_okc hok).2.2.2.2.2.2.2.2.1 i t hi9 ht9
  have e9 := (z_okc hok).1 _ _ _ hq1 ha
  subst e9
  obtain ⟨cell, o1, o2, o3, o4⟩ := hO
  have o1' : H[a]? = some cell := by rw [(z_fS hok hat).2.1 a (Array.getElem?_eq_some_iff.mp o1).1 ((z_okc hok).2.1 _ _ (Or.inr (by omega)) hq1)]; exact o1
  have hcell : ∃ cell : Cell, H[a]? = some cell ∧ cell.vm.isStatics = false ∧ s.vm.findClass "java/lang/String" = some cell.cls := ⟨cell, o1', o3.1, by rw [o2]; exact (hok.2.2.2.2.2.2.2.1.1 0 _ rfl).2.1⟩
  have hAs := z_Lrev hb1
  rw [List.reverse_reverse] at hAs
  exact z_run hok hat hlo hrest ht (vx_runV (C := "java/lang/String") (As := b1.reverse) ⟨hok.1, hok.2.1, rfl, hok.2.2.2.2.2.1, hok.2.2.2.2.2.2.1⟩ (hc R) ⟨z_CB hok.2.2.2.2.2.2.1 hm hrk hl, hok.2.2.2.2.2.2.1 _ hi, hok.2.2.2.2.2.2.1 _ hse⟩ ⟨z_Pc_blind, hcell, fun U hU hW9 => z_pre hok hat (av := .retAddr (10 + i) :: as) (cav := .ref a :: b1.reverse) ⟨h1, hAs⟩ U hU hW9⟩ rfl (by rw [z_Ll hAs]; exact hn) hlo.choose_spec.1.1 (by rw [List.reverse_reverse]) (lv_room (by rw [z_Lcs hrest]; exact hW)) hd hcs) hcs hx kk
theorem z_up.tr {n : Nat} {e e' : z_E} {w1 : z_W} (h : z_up w n e w1) (h2 : z_up w1 n e' w') : z_up w n e' w' := ⟨h2.1, fun m hm => (h2.2.1 m hm).trans (h.2.1 m hm), h2.2.2.1.trans h.2.2.1, fun z => h2.2.2.2 (h.2.2.2 z)⟩
theorem z_by0 : z_by (fun _ => .int 0) := fun _ => ⟨0, rfl, by decide⟩
theorem z_byU {f : Nat → Value} {k : Nat} {x : Int32} (h : z_by f) (hx : fits .byte (.int x) = true) : z_by (z_u f k (.int x)) := fun j => by
  by_cases hj : j = k
  · subst hj; rw [z_u_self]; exact ⟨x, rfl, hx⟩
  · rw [z_u_ne hj]; exact h j
theorem z_byC {f g : Nat → Value} {a b n : Nat} (h : ∀ j, a ≤ j → j < a + n → ∃ x, f j = .int x ∧ fits .byte (.int x) = true) (hg : z_by g) : z_by (va_cpy f g a b n) := fun j => by
  unfold va_cpy
  by_cases hj : b ≤ j ∧ j < b + n
  · rw [if_pos hj]; exact h _ (by omega) (by omega)
  · rw [if_neg hj]; exact hg j
def z_gr (N m : Nat) : Nat := if m ≤ N then N else 2 * N + 2
def z_sbA (w : z_W) (ρ a n N m : Nat) (f : Nat → Value) (ml : Int32) : Prop := 1000 ≤ m ∧ m % 64 = ρ ∧ m ≠ a ∧ z_g w a = some (.inr (1, [.ref m, .int 0, .int ml, .int (nI n)])) ∧ z_g w m = some (.inl (2, N, f)) ∧ z_by f
def z_sb (w : z_W) (ρ a n N : Nat) : Prop := 1000 ≤ a ∧ a % 64 = ρ ∧ n ≤ N ∧ 16 ≤ N ∧ N ≤ 5000 ∧ ∃ m f ml, z_sbA w ρ a n N m f ml
theorem z_gr_le {N m : Nat} : N ≤ z_gr N m := by unfold z_gr; split <;> omega
theorem z_gr_ge {N m : Nat} (h : m ≤ 2 * N + 2) : m ≤ z_gr N m := by unfold z_gr; split <;> omega
theorem z_gr_mx {N m M : Nat} (hN : N ≤ 2 * M + 16) (hm : m ≤ M) : z_gr N m ≤ 2 * M + 16 := by unfold z_gr; split <;> omega
theorem z_sb.fw {ρ σ a n N : Nat} (h : z_sb w ρ a n N) (hw : z_fw σ w w') (hne : ρ ≠ σ) : z_sb w' ρ a n N := by
  obtain ⟨h1, h2, h3, h4, h5, m, f, ml, a1, a2, a3, a4, a5, a6⟩ := h
  exact ⟨h1, h2, h3, h4, h5, m, f, ml, a1, a2, a3, hw.g (Or.inr (by omega)) a4, hw.g (Or.inr (by omega)) a5, a6⟩
theorem z_sb.m {ρ a n N : Nat} (h : z_sb w ρ a n N) (hw : ∀ k, 1000 ≤ k → k % 64 = ρ → z_g w' k = z_g w k) : z_sb w' ρ a n N := by
  obtain ⟨h1, h2, h3, h4, h5, m, f, ml, a1, a2, a3, a4, a5, a6⟩ := h
  exact ⟨h1, h2, h3, h4, h5, m, f, ml, a1, a2, a3, (hw a h1 h2).trans a4, (hw m a1 a2).trans a5, a6⟩
theorem z_nmx {n : Nat} (h : n < 2147483647) : ¬ nI n = 2147483647 := fun z => by
  have := nI_inj (a := n) (b := 2147483647) z (by omega) (by decide)
  omega
def z_dg (w : Nat) : Nat := if w < 10 then 1 else if w < 100 then 2 else if w < 1000 then 3 else if w < 10000 then 4 else if w < 100000 then 5 else if w < 1000000 then 6 else if w < 10000000 then 7 else if w < 100000000 then 8 else if w < 1000000000 then 9 else 10
def z_sz (x : Int32) : Nat := (if x < 0 then 1 else 0) + z_dg x.toInt.natAbs
theorem z_dg_in (w : Nat) : 1 ≤ z_dg w ∧ z_dg w ≤ 10 := by unfold z_dg; (repeat' split) <;> omega
theorem z_sz_in (x : Int32) : 1 ≤ z_sz x ∧ z_sz x ≤ 11 := by
  have := z_dg_in x.toInt.natAbs
  unfold z_sz
  split <;> omega
theorem z_dg100 {w : Nat} (h : 100 ≤ w) (h2 : w ≤ 2147483648) : z_dg w = z_dg (w / 100) + 2 := by
  unfold z_dg
  rw [if_neg (show ¬ w < 10 by omega), if_neg (show ¬ w < 100 by omega)]
  by_cases c3 : w < 1000
  · rw [if_pos c3, if_pos (show w / 100 < 10 by omega)]
  rw [if_neg c3, if_neg (show ¬ w / 100 < 10 by omega)]
  by_cases c4 : w < 10000
  · rw [if_pos c4, if_pos (show w / 100 < 100 by omega)]
  rw [if_neg c4, if_neg (show ¬ w / 100 < 100 by omega)]
  by_cases c5 : w < 100000
  · rw [if_pos c5, if_pos (show w / 100 < 1000 by omega)]
  rw [if_neg c5, if_neg (show ¬ w / 100 < 1000 by omega)]
  by_cases c6 : w < 1000000
  · rw [if_pos c6, if_pos (show w / 100 < 10000 by omega)]
  rw [if_neg c6, if_neg (show ¬ w / 100 < 10000 by omega)]
  by_cases c7 : w < 10000000
  · rw [if_pos c7, if_pos (show w / 100 < 100000 by omega)]
  rw [if_neg c7, if_neg (show ¬ w / 100 < 100000 by omega)]
  by_cases c8 : w < 100000000
  · rw [if_pos c8, if_pos (show w / 100 < 1000000 by omega)]
  rw [if_neg c8, if_neg (show ¬ w / 100 < 1000000 by omega)]
  by_cases c9 : w < 1000000000
  · rw [if_pos c9, if_pos (show w / 100 < 10000000 by omega)]
  rw [if_neg c9, if_neg (show ¬ w / 100 < 10000000 by omega)]
  rw [if_pos (show w / 100 < 100000000 by omega)]
theorem z_dgL {w k : Nat} (h : (k = 1 ∨ 10 ^ (k - 1) ≤ w) ∧ w < 10 ^ k) (hk : 1 ≤ k ∧ k ≤ 9) : z_dg w = k := by
  obtain ⟨k1, k2⟩ := hk
  obtain ⟨h1, h2⟩ := h
  rcases (by omega : k = 1 ∨ k = 2 ∨ k = 3 ∨ k = 4 ∨ k = 5 ∨ k = 6 ∨ k = 7 ∨ k = 8 ∨ k = 9) with rfl | rfl | rfl | rfl | rfl | rfl | rfl | rfl | rfl <;> simp at h1 h2 <;> unfold z_dg
  · rw [if_pos (show w < 10 by omega)]
  · rw [if_neg (show ¬ w < 10 by omega), if_pos (show w < 100 by omega)]
  · rw [if_neg (show ¬ w < 10 by omega), if_neg (show ¬ w < 100 by omega), if_pos (show w < 1000 by omega)]
  · rw [if_neg (show ¬ w < 10 by omega), if_neg (show ¬ w < 100 by omega), if_neg (show ¬ w < 1000 by omega), if_pos (show w < 10000 by omega)]
  · rw [if_neg (show ¬ w < 10 by omega), if_neg (show ¬ w < 100 by omega), if_neg (show ¬ w < 1000 by omega), if_neg (show ¬ w < 10000 by omega), if_pos (show w < 100000 by omega)]
  · rw [if_neg (show ¬ w < 10 by omega), if_neg (show ¬ w < 100 by omega), if_neg (show ¬ w < 1000 by omega), if_neg (show ¬ w < 10000 by omega), if_neg (show ¬ w < 100000 by omega), if_pos (show w < 1000000 by omega)]
  · rw [if_neg (show ¬ w < 10 by omega), if_neg (show ¬ w < 100 by omega), if_neg (show ¬ w < 1000 by omega), if_neg (show ¬ w < 10000 by omega), if_neg (show ¬ w < 100000 by omega), if_neg (show ¬ w < 1000000 by omega), if_pos (show w < 10000000 by omega)]
  · rw [if_neg (show ¬ w < 10 by omega), if_neg (show ¬ w < 100 by omega), if_neg (show ¬ w < 1000 by omega), if_neg (show ¬ w < 10000 by omega), if_neg (show ¬ w < 100000 by omega), if_neg (show ¬ w < 1000000 by omega), if_neg (show ¬ w < 10000000 by omega), if_pos (show w < 100000000 by omega)]
  · rw [if_neg (show ¬ w < 10 by omega), if_neg (show ¬ w < 100 by omega), if_neg (show ¬ w < 1000 by omega), if_neg (show ¬ w < 10000 by omega), if_neg (show ¬ w < 100000 by omega), if_neg (show ¬ w < 1000000 by omega), if_neg (show ¬ w < 10000000 by omega), if_neg (show ¬ w < 100000000 by omega), if_pos (show w < 1000000000 by omega)]
theorem z_ngI {x : Int32} (h : ¬ x < 0) : (-x).toInt = -(x.toInt.natAbs : Int) := by
  have h0 : ¬ x.toInt < 0 := fun z => h (Int32.lt_iff_toInt_lt.mpr z)
  have h1 := Int32.toInt_lt x
  rw [Int32.toInt_neg, Int.bmod_eq_of_le (by omega) (by omega)]
  omega
theorem z_poI {x : Int32} (h : x < 0) : x.toInt = -(x.toInt.natAbs : Int) := by
  have h0 : x.toInt < 0 := Int32.lt_iff_toInt_lt.mp h
  omega
theorem z_leI {a b : Int32} {p q : Int} (hc : a ≤ b) (ha : a.toInt = p) (hb : b.toInt = q) : p ≤ q := by rw [← ha, ← hb]; exact Int32.le_iff_toInt_le.mp hc
theorem z_nleI {a b : Int32} {p q : Int} (hc : ¬ a ≤ b) (ha : a.toInt = p) (hb : b.toInt = q) : q < p := by
  have h9 : ¬ a.toInt ≤ b.toInt := fun z => hc (Int32.le_iff_toInt_le.mpr z)
  rw [ha, hb] at h9
  omega
theorem z_divI {i : Int32} {w : Nat} (hi : i.toInt = -(w : Int)) (hw : w ≤ 2147483648) : (i / 100).toInt = -((w / 100 : Nat) : Int) := by
  rw [Int32.toInt_div, hi, show (100 : Int32).toInt = 100 from rfl, Int.neg_tdiv, show (w : Int).tdiv 100 = ((w / 100 : Nat) : Int) from rfl, Int.bmod_eq_of_le (by omega) (by omega)]
theorem z_remI {i : Int32} {w : Nat} (hi : i.toInt = -(w : Int)) (hw : w ≤ 2147483648) : (i / 100 * 100 - i).toInt = ((w % 100 : Nat) : Int) := by
  have h1 := z_divI hi hw
  have e1 : (i / 100 * 100).toInt = -((w / 100 * 100 : Nat) : Int) := by
    rw [Int32.toInt_mul, h1, show (100 : Int32).toInt = 100 from rfl, Int.bmod_eq_of_le (by omega) (by omega)]
    omega
  rw [Int32.toInt_sub, e1, hi, Int.bmod_eq_of_le (by omega) (by omega)]
  omega
theorem z_negI {i : Int32} {w : Nat} (hi : i.toInt = -(w : Int)) (hw : w < 2147483648) : (-i).toInt = (w : Int) := by
  rw [Int32.toInt_neg, hi, Int.bmod_eq_of_le (by omega) (by omega)]
  omega
theorem z_vpin {x : Int32} {k n : Nat} (h : x.toInt = (k : Int)) (hk : k < n) : vp_in x n := vp_in_iff.mpr ⟨by omega, by omega⟩
theorem j_bastW {a n : Nat} {f : Nat → Value} {i x : Int32} (hd : decode y.2.1 pc = .ok (.bastore, 1)) (hg : z_g w a = some (.inl (2, n, f))) (hin : vp_in i n) (hw : z_s w a (.inl (2, n, z_u f i.toNatClampNeg (.int x.toInt8.toInt32))) = w') (h : z_J G l y S (pc + 1) lo st w' kc ks) : z_J G l y S pc lo (.int x :: .int i :: .ref a :: st) w kc ks := by
  intro p e s m args below meth c R0 hok R H locs ls cst hat hlo hst
  obtain ⟨c9, cs9, rfl, h9, hst1⟩ := z_Lc hst
  obtain ⟨c0, cs0, rfl, h0, hst2⟩ := z_Lc hst1
  obtain ⟨c1, cs1, rfl, ⟨-, h1⟩, hst3⟩ := z_Lc hst2
  have h9 : c9 = .int x := h9
  have h0 : c0 = .int i := h0
  subst h9
  subst h0
  subst h1
  subst hw
  obtain ⟨z, z1, z2⟩ := (hat.1.1 a _ hg).1
  have hok2 := hok
  obtain ⟨hx, hb, -, -, -, hown, hts, henv, -⟩ := hok2
  refine W.bast hx hb z1 ((henv.2.1 2 .byte rfl).1 n z) (fun q => by cases q) (by show ¬ (i < 0 ∨ (arrV _ _ _).slots.size ≤ _); rw [arrV_size]; exact hin) rfl rfl hd ?_
  intro H' e1 e2 e3
  have hnr : narrow .byte (.int x) = .int x.toInt8.toInt32 := rfl
  rw [hnr] at e1
  exact h p e s m args below meth c R0 hok R H' _ ls cs1 (z_write hat hg e2 e3 (z_Xu (z_Vs hg) z2 rfl e1)) (z_lom (z_Vs hg) hlo) (z_Lm (z_Vs hg) hst3)
end ZSb0
end ZM6
section ZM7
section ZSb1
variable {G : z_G} {l : Launch} {y : z_M} {S : z_S} {pc : Nat} {lo : List (Nat × Value)} {st : List Value} {w w' : z_W} {kc ks : Nat}
theorem z_selP {C : String} {x y : MethodName} {s : State} {args : Array Value} (hx : (Cond.selects C x x).before args s = true) (hxy : x.cls = y.cls) (hpriv : (Cond.privateMethod y).before args s = true) (hy : y.cls ≠ "java/lang/invoke/MethodHandle" ∧ y.cls ≠ "java/lang/invoke/VarHandle") (hinst : (Cond.instanceMethod y).before args s = true) : (Cond.selects C y y).before args s = true := by
  obtain ⟨mk, methM, hnamed, hmethM, -, -⟩ := Cond.instanceMethod_spec hinst
  have hfound : s.methodFound? y.cls y.name y.desc = some mk := State.methodFound?_of_named hnamed hy
  simp only [Cond.before, Cond.holds, Cond.value] at hx
  cases h1 : s.vm.findClass C with
  | none => rw [h1] at hx; simp at hx
  | some c =>
    cases h2 : s.methodFound? x.cls x.name x.desc with
    | none => rw [h1, h2] at hx; simp at hx
    | some r =>
      cases h3 : s.methodNamed? x with
      | none => rw [h1, h2, h3] at hx; simp at hx
      | some m =>
        have hcl : m.cls = mk.cls := by
          have e1 := findClass_of_methodNamed h3
          have e2 := findClass_of_methodNamed hnamed
          rw [hxy] at e1
          exact Option.some.inj (e1.symm.trans e2)
        have hsel : selectMethod {} s.vm c mk = .method mk := selectMethod_private hmethM (Cond.privateMethod_at hpriv mk methM hnamed hmethM)
        simp only [h1, h2, h3, hcl] at hx
        simp only [Cond.before, Cond.holds, Cond.value, h1, hfound, hnamed, hsel]
        cases h4 : selectMethod {} s.vm c r with
        | method m' => rw [h4] at hx; simp at hx; simpa using hx.2
        | _ => rw [h4] at hx; simp at hx
theorem j_callP {idx np rk' mc' ms' : Nat} {y' : z_M} {as rest : List Value} {Q' : Option Value → z_W → Prop} {X' : String → z_W → Prop} {x : MethodName} {a ci : Nat} {fs : List Value} {q : vw_C} (hd : decode y.2.1 pc = .ok (.invokevirtual idx, 3)) (hm : z_okm y' np) (hl : Cond.methodLink y.1.cls idx y'.1 ∈ z_tbl) (hi : Cond.instanceMethod y'.1 ∈ z_tbl) (hse : Cond.selects q.1 x x ∈ z_tbl ∧ x.cls = y'.1.cls ∧ Cond.privateMethod y'.1 ∈ z_nst) (hg : z_g w a = some (.inr (ci, fs))) (hq : z_cls[ci]? = some q) (hc : z_Con G l y' rk' mc' ms' w (.ref a :: as) Q' X') (hrk : rk' + 1 ≤ S.1) (hcs : kc + mc' ≤ S.2.1 ∧ ks + ms' ≤ S.2.2.1) (hstk : st = as.reverse ++ .ref a :: rest) (hW : z_cat rest ≤ 8) (hn : as.length = np) (ht : y.2.2.2.2 = []) (hx : ∀ E w', X' E w' → S.2.2.2.2.2 E w') (kk : ∀ v w', Q' v w' → z_J G l y S (pc + 3) lo (v.toList ++ rest) w' (kc + mc') (ks + ms')) : z_J G l y S pc lo st w kc ks := by
  intro p e s m args below meth c R0 hok R H locs ls cst hat hlo hst
  subst hstk
  obtain ⟨b1, c2, rfl, hb1, hst⟩ := z_Lapp hst
  obtain ⟨c1, crest, rfl, h1, hrest⟩ := z_Lc hst
  have h1' := h1.2
  subst h1'
  have hAs := z_Lrev hb1
  rw [List.reverse_reverse] at hAs
  have hts := hok.2.2.2.2.2.2.1
  have hy := hm.2.2.2.1
  exact z_run hok hat hlo hrest ht (vx_runV (C := q.1) (As := b1.reverse) ⟨hok.1, hok.2.1, rfl, hok.2.2.2.2.2.1, hok.2.2.2.2.2.2.1⟩ (hc R) ⟨z_CB hts hm hrk hl, hts _ hi, z_selP (hts _ hse.1) hse.2.1 (va_Nw.use rfl (hok.2.2.2.2.2.2.2.1.2.2.1 _ hse.2.2)) hy (hts _ hi)⟩ ⟨z_Pc_blind, z_recv hok hat hg hq, fun U hU hW9 => z_pre hok hat (av := .ref a :: as) (cav := .ref (R.1 a) :: b1.reverse) ⟨h1, hAs⟩ U hU hW9⟩ rfl (by rw [z_Ll hAs]; exact hn) hlo.choose_spec.1.1 (by rw [List.reverse_reverse]) (lv_room (by rw [z_Lcs hrest]; exact hW)) hd hcs) hcs hx kk
theorem j_callUd {y0 : z_M} {idx np rk' mc' ms' : Nat} {y' : z_M} {as rest : List Value} {Q' : Option Value → z_W → Prop} {X' : String → z_W → Prop} {x : MethodName} {a ci : Nat} {fs : List Value} {q : vw_C} (hd : decode y.2.1 pc = .ok (.invokevirtual idx, 3)) (hm : z_okm y' np) (hl : Cond.methodLink y.1.cls idx x ∈ z_tbl) (hsm : Cond.sameMethod x.cls x.cls x.name x.desc ∈ z_tbl) (h0 : y0.1 = x ∧ y0.2.2.2.2 = [] ∧ z_code y0 ∈ z_tbl ∧ Cond.instanceMethod y0.1 ∈ z_tbl) (hse : Cond.selects q.1 x y'.1 ∈ z_tbl) (hi : Cond.instanceMethod y'.1 ∈ z_tbl) (ho : x.cls ≠ "java/lang/invoke/MethodHandle" ∧ x.cls ≠ "java/lang/invoke/VarHandle") (hde : x.desc = y'.1.desc) (hg : z_g w a = some (.inr (ci, fs))) (hq : z_cls[ci]? = some q) (hc : z_Con G l y' rk' mc' ms' w (.ref a :: as) Q' X') (hrk : rk' + 1 ≤ S.1) (hcs : kc + mc' ≤ S.2.1 ∧ ks + ms' ≤ S.2.2.1) (hstk : st = as.reverse ++ .ref a :: rest) (hW : z_cat rest ≤ 8) (hn : as.length = np) (ht : y.2.2.2.2 = []) (hx : ∀ E w', X' E w' → S.2.2.2.2.2 E w') (kk : ∀ v w', Q' v w' → z_J G l y S (pc + 3) lo (v.toList ++ rest) w' (kc + mc') (ks + ms')) : z_J G l y S pc lo st w kc ks := by
  intro p e s m args below meth c R0 hok R H locs ls cst hat hlo hst
  subst hstk
  obtain ⟨b1, c2, rfl, hb1, hst⟩ := z_Lapp hst
  obtain ⟨c1, crest, rfl, h1, hrest⟩ := z_Lc hst
  have h1' := h1.2
  subst h1'
  have hAs := z_Lrev hb1
  rw [List.reverse_reverse] at hAs
  have hts := hok.2.2.2.2.2.2.1
  obtain ⟨m1, m2, m3, m4, m5, m6⟩ := hm
  have ecd := z_cd m1
  obtain ⟨z1, z2, z3, z4⟩ := h0
  have ec0 := z_cd z2
  have cw : va_CU (z_rm S.1 S.2.1 S.2.2.1) s args y.1.cls q.1 x.cls idx x y'.1 y'.2.1 y'.2.2.1 y'.2.2.2.1 (z_ws y') (z_rm rk' mc' ms') mc' ms' np := by
    refine ⟨⟨rfl, rfl, (z_rmle hrk m6).1, (z_rmle hrk m6).2, z_pay hts m2, by rw [← ecd]; exact List.mem_cons_self⟩, by rw [← ecd]; exact hts _ m2, hts _ m3, ho, ?_, hts _ hl, hts _ hsm, ?_, hts _ hse, hts _ hi⟩
    · rw [hde]; exact z_np m5
    · show va_Decl s x
      rw [← z1]; exact va_Decl.of (hts _ z4) (by rw [← ec0]; exact hts _ z3)
  exact z_run hok hat hlo hrest ht (vx_runU (C := q.1) (As := b1.reverse) ⟨hok.1, hok.2.1, rfl, hok.2.2.2.2.2.1, hok.2.2.2.2.2.2.1⟩ (hc R) cw ⟨z_Pc_blind, z_recv hok hat hg hq, fun U hU hW9 => z_pre hok hat (av := .ref a :: as) (cav := .ref (R.1 a) :: b1.reverse) ⟨h1, hAs⟩ U hU hW9⟩ rfl (by rw [z_Ll hAs]; exact hn) hlo.choose_spec.1.1 (by rw [List.reverse_reverse]) (lv_room (by rw [z_Lcs hrest]; exact hW)) hd hcs) hcs hx kk
theorem z_fB (x : Int32) : fits .byte (.int x.toInt8.toInt32) = true := by
  have h1 : (-128 : Int32) ≤ x.toInt8.toInt32 := by
    rw [Int32.le_iff_toInt_le, Int8.toInt_toInt32]
    have := Int8.le_toInt x.toInt8
    show (-128 : Int) ≤ _
    omega
  have h2 : x.toInt8.toInt32 ≤ (127 : Int32) := by
    rw [Int32.le_iff_toInt_le, Int8.toInt_toInt32]
    have := Int8.toInt_lt x.toInt8
    show _ ≤ (127 : Int)
    omega
  simp [fits, h1, h2]
theorem z_dcI {p : Nat} (h : 1 ≤ p) : nI p + Int32.ofInt (-1) = nI (p - 1) := z_decr1 h
theorem z_sble {q N : Nat} (hq : q < 2 ^ 30) (hN : N < 2 ^ 30) : nI q - nI N ≤ 0 ↔ q ≤ N := by
  rw [Int32.le_iff_toInt_le, pk_sub_toInt hq hN, Int32.toInt_zero]
  omega
theorem nI_mxle {k p : Nat} (h : k ≤ p) (hp : p < 2147483648) : (if nI k < nI p then nI p else nI k) = nI p := by
  by_cases e : k = p
  · subst e
    split <;> rfl
  · rw [if_pos (nI_lt (by omega) hp)]
theorem z_grT {N q : Nat} (h : q ≤ N) : z_gr N q = N := by unfold z_gr; rw [if_pos h]
theorem z_grF {N q : Nat} (h : ¬ q ≤ N) : z_gr N q = 2 * N + 2 := by unfold z_gr; rw [if_neg h]
set_option maxRecDepth 100000 in
set_option maxHeartbeats 8000000 in
theorem sb_lat (hl : l.stackTraces = false) (w : z_W) (a : Nat) (v0 : Value) (ml c : Int32) (ga : z_g w a = some (.inr (1, [v0, .int 0, .int ml, .int c]))) : z_Con G l mJ5_isLatin1_aae02 10 0 0 w [.ref a] (fun v w9 => v = some (.int 1) ∧ w9 = w) (fun _ _ => False) := by
  refine z_body hl (by decide) rfl (Nat.le_of_ble_eq_true rfl) ?_
  show z_J G l mJ5_isLatin1_aae02 _ 0 [(0, _)] [] _ 0 0
  refine j_gets dJ5_isLatin1_aae02_0 (List.mem_of_getElem? (i := 0) rfl) rfl (z_w 573 ((lwg_3 48).trans rfl) (by decide +kernel)) ?_
  refine j_if_eq (tgt := 17) dJ5_isLatin1_aae02_3 (by decide) (fun c_3_3 => ?_) (fun c_3_3 => ?_)
  · exact absurd c_3_3 (by decide)
  · refine j_aload_n dJ5_isLatin1_aae02_6 rfl rfl ?_
    refine j_getf dJ5_isLatin1_aae02_7 fJ5_22 ga rfl ?_
    refine j_if_ne (tgt := 17) dJ5_isLatin1_aae02_10 (by decide) (fun c_10_7 => ?_) (fun c_10_7 => ?_)
    · exact absurd rfl c_10_7
    · refine j_iconst (v := 1) dJ5_isLatin1_aae02_13 (by decide) ?_
      refine j_goto (tgt := 18) dJ5_isLatin1_aae02_14 (by decide) ?_
      refine j_iret dJ5_isLatin1_aae02_18 rfl rfl ?_ (Nat.le_of_ble_eq_true rfl) (Nat.le_of_ble_eq_true rfl)
      exact ⟨rfl, rfl⟩
set_option maxRecDepth 100000 in
set_option maxHeartbeats 8000000 in
theorem sb_can (hl : l.stackTraces = false) (w : z_W) (c : Int32) (hc : ¬ (255 : Int32) < c) : z_Con G l mJ1_canEncode_fc78d 10 0 0 w [.int c] (fun v w9 => v = some (.int 1) ∧ w9 = w) (fun _ _ => False) := by
  refine z_body hl (by decide) rfl (Nat.le_of_ble_eq_true rfl) ?_
  show z_J G l mJ1_canEncode_fc78d _ 0 [(0, _)] [] _ 0 0
  refine j_iload_n dJ1_canEncode_fc78d_0 rfl ?_
  refine j_sipush (v := 255) dJ1_canEncode_fc78d_1 (by decide) ?_
  refine j_icmp_gt (tgt := 11) dJ1_canEncode_fc78d_4 (by decide) (fun c_4_4 => ?_) (fun c_4_4 => ?_)
  · exact absurd c_4_4 hc
  · refine j_iconst (v := 1) dJ1_canEncode_fc78d_7 (by decide) ?_
    refine j_goto (tgt := 12) dJ1_canEncode_fc78d_8 (by decide) ?_
    refine j_iret dJ1_canEncode_fc78d_12 rfl rfl ?_ (Nat.le_of_ble_eq_true rfl) (Nat.le_of_ble_eq_true rfl)
    exact ⟨rfl, rfl⟩
set_option maxRecDepth 100000 in
set_option maxHeartbeats 8000000 in
theorem sb_newL (hl : l.stackTraces = false) (w : z_W) (N k p : Nat) (hk : k ≤ p) (hp : N + p ≤ 20000) (h0 : 0 < N + p) : z_Con G l mJ8_newLength_cabcc 11 0 0 w [.int (nI N), .int (nI k), .int (nI p)] (fun v w9 => v = some (.int (nI (N + p))) ∧ w9 = w) (fun _ _ => False) := by
  refine z_body hl (by decide) rfl (Nat.le_of_ble_eq_true rfl) ?_
  show z_J G l mJ8_newLength_cabcc _ 0 [(0, _), (1, _), (2, _)] [] _ 0 0
  refine j_iload_n dJ8_newLength_cabcc_0 rfl ?_
  refine j_iload_n dJ8_newLength_cabcc_1 rfl ?_
  refine j_iload_n dJ8_newLength_cabcc_2 rfl ?_
  refine j_mmax dJ8_newLength_cabcc_3 lJ8_194 (Nat.le_of_ble_eq_true rfl) (Nat.le_of_ble_eq_true rfl) (Nat.le_of_ble_eq_true rfl) (Nat.le_of_ble_eq_true rfl) ?_
  refine j_top (congrArg Value.int (nI_mxle hk (by omega))) ?_
  refine j_iadd dJ8_newLength_cabcc_6 ?_
  refine j_top (congrArg Value.int (nI_add N p)) ?_
  refine j_istore_n (lo' := [(3, _), (0, _), (1, _), (2, _)]) dJ8_newLength_cabcc_7 (by decide) rfl ?_
  refine j_iconst (v := 0) dJ8_newLength_cabcc_8 (by decide) ?_
  refine j_iload_n dJ8_newLength_cabcc_9 rfl ?_
  refine j_icmp_ge (tgt := 21) dJ8_newLength_cabcc_10 (by decide) (fun c_10_12 => ?_) (fun c_10_12 => ?_)
  · exact absurd ((nI_leI (a := N + p) (b := 0) (by omega) (by omega)).mp (nI_o0 ▸ c_10_12)) (by omega)
  · refine j_iload_n dJ8_newLength_cabcc_13 rfl ?_
    refine j_ldc dJ8_newLength_cabcc_14 kcJ8_200 ?_
    refine j_icmp_gt (tgt := 21) dJ8_newLength_cabcc_16 (by decide) (fun c_16_16 => ?_) (fun c_16_16 => ?_)
    · exact absurd c_16_16 (Int32.not_lt.mpr (Int32.le_trans ((nI_leI (a := N + p) (b := 20000) (by omega) (by omega)).mpr hp) (by decide)))
    · refine j_iload_n dJ8_newLength_cabcc_19 rfl ?_
      refine j_iret dJ8_newLength_cabcc_20 rfl rfl ?_ (Nat.le_of_ble_eq_true rfl) (Nat.le_of_ble_eq_true rfl)
      exact ⟨rfl, rfl⟩
set_option maxRecDepth 100000 in
set_option maxHeartbeats 8000000 in
theorem sb_newC (hl : l.stackTraces = false) (w : z_W) (ρ a n N q : Nat) (h : z_sb w ρ a n N) (hq : N < q) (hq2 : q ≤ 2 * N + 2) : z_Con G l mJ5_newCapacity_0f7a4 12 0 0 w [.ref a, .int (nI q)] (fun v w9 => v = some (.int (nI (2 * N + 2))) ∧ w9 = w) (fun _ _ => False) := by
  obtain ⟨h1, h2, h3, h4, h5, m, f, ml, a1, a2, a3, ga, gm, a6⟩ := id h
  refine z_body hl (by decide) rfl (Nat.le_of_ble_eq_true rfl) ?_
  show z_J G l mJ5_newCapacity_0f7a4 _ 0 [(0, _), (1, _)] [] _ 0 0
  refine j_aload_n dJ5_newCapacity_0f7a4_0 rfl rfl ?_
  refine j_getf dJ5_newCapacity_0f7a4_1 fJ5_15 ga rfl ?_
  refine j_alen dJ5_newCapacity_0f7a4_4 gm rfl rfl ?_
  refine j_istore_n (lo' := [(2, _), (0, _), (1, _)]) dJ5_newCapacity_0f7a4_5 (by decide) rfl ?_
  refine j_iload_n dJ5_newCapacity_0f7a4_6 rfl ?_
  refine j_aload_n dJ5_newCapacity_0f7a4_7 rfl rfl ?_
  refine j_getf dJ5_newCapacity_0f7a4_8 fJ5_22 ga rfl ?_
  refine j_ishl dJ5_newCapacity_0f7a4_11 ?_
  refine j_top (congrArg Value.int (sb_shl0 (nI q))) ?_
  refine j_istore_n (lo' := [(3, _), (2, _), (0, _), (1, _)]) dJ5_newCapacity_0f7a4_12 (by decide) rfl ?_
  refine j_iload_n dJ5_newCapacity_0f7a4_13 rfl ?_
  refine j_iload_n dJ5_newCapacity_0f7a4_14 rfl ?_
  refine j_isub dJ5_newCapacity_0f7a4_15 ?_
  refine j_top (congrArg Value.int (show nI q - nI N = nI (q - N) from pk_sub (by omega))) ?_
  refine j_istore (lo' := [(4, _), (3, _), (2, _), (0, _), (1, _)]) dJ5_newCapacity_0f7a4_16 (by decide) rfl ?_
  refine j_iload_n dJ5_newCapacity_0f7a4_18 rfl ?_
  refine j_iload dJ5_newCapacity_0f7a4_19 rfl ?_
  refine j_iload_n dJ5_newCapacity_0f7a4_21 rfl ?_
  refine j_iconst (v := 2) dJ5_newCapacity_0f7a4_22 (by decide) ?_
  refine j_aload_n dJ5_newCapacity_0f7a4_23 rfl rfl ?_
  refine j_getf dJ5_newCapacity_0f7a4_24 fJ5_22 ga rfl ?_
  refine j_ishl dJ5_newCapacity_0f7a4_27 ?_
  refine j_top (congrArg Value.int (sb_shl0 2)) ?_
  refine j_iadd dJ5_newCapacity_0f7a4_28 ?_
  refine j_top (congrArg Value.int (show nI N + (2 : Int32) = nI (N + 2) from nI_add N 2)) ?_
  refine j_callS dJ5_newCapacity_0f7a4_29 kJ8_newLength_cabcc lJ5_114 stJ8_newLength_cabcc (sb_newL hl w N (q - N) (N + 2) (by omega) (by omega) (by omega)) (Nat.le_of_ble_eq_true rfl) ⟨(Nat.le_of_ble_eq_true rfl), (Nat.le_of_ble_eq_true rfl)⟩ rfl (Nat.le_of_ble_eq_true rfl) rfl rfl (fun _ _ h => h.elim) ?_
  rintro _ _ ⟨rfl, hw1⟩
  refine j_w w hw1 ?_
  refine j_istore (lo' := [(5, _), (4, _), (3, _), (2, _), (0, _), (1, _)]) dJ5_newCapacity_0f7a4_32 (by decide) rfl ?_
  refine j_iload dJ5_newCapacity_0f7a4_34 rfl ?_
  refine j_ldc dJ5_newCapacity_0f7a4_36 kcJ5_39 ?_
  refine j_icmp_ne (tgt := 51) dJ5_newCapacity_0f7a4_38 (by decide) (fun c_38_33 => ?_) (fun c_38_33 => ?_)
  · refine j_iload dJ5_newCapacity_0f7a4_51 rfl ?_
    refine j_aload_n dJ5_newCapacity_0f7a4_53 rfl rfl ?_
    refine j_getf dJ5_newCapacity_0f7a4_54 fJ5_22 ga rfl ?_
    refine j_ishr dJ5_newCapacity_0f7a4_57 ?_
    refine j_top (congrArg Value.int (sb_shr0 _)) ?_
    refine j_iret dJ5_newCapacity_0f7a4_58 rfl rfl ?_ (Nat.le_of_ble_eq_true rfl) (Nat.le_of_ble_eq_true rfl)
    exact ⟨congrArg (fun z => some (Value.int (nI z))) (by omega), rfl⟩
  · exact absurd c_38_33 (z_nmx (by omega))
set_option maxRecDepth 100000 in
set_option maxHeartbeats 8000000 in
theorem sb_cpO (hl : l.stackTraces = false) (w : z_W) (ρ m N q : Nat) (f : Nat → Value) (hρ : ρ < 64) (hf : z_fn w) (gm : z_g w m = some (.inl (2, N, f))) (hby : z_by f) (hq : N < q) (hq2 : q ≤ 20000) : z_Con G l mJ7_copyOf_9075b 12 1 q w [.ref m, .int (nI q)] (fun v w9 => ∃ (m9 : Nat) (g : Nat → Value), v = some (.ref m9) ∧ z_fw ρ w w9 ∧ 1000 ≤ m9 ∧ m9 % 64 = ρ ∧ (∀ k e, z_g w k = some e → k ≠ m9) ∧ z_g w9 m9 = some (.inl (2, q, g)) ∧ (∀ k e, z_g w k = some e → z_g w9 k = some e) ∧ z_by g) (fun _ _ => False) := by
  refine z_body hl (by decide) rfl (Nat.le_of_ble_eq_true rfl) ?_
  show z_J G l mJ7_copyOf_9075b _ 0 [(0, _), (1, _)] [] _ 0 0
  refine j_iload_n dJ7_copyOf_9075b_0 rfl ?_
  refine j_aload_n dJ7_copyOf_9075b_1 rfl rfl ?_
  refine j_alen dJ7_copyOf_9075b_2 gm rfl rfl ?_
  refine j_icmp_ne (tgt := 14) dJ7_copyOf_9075b_3 (by decide) (fun c_3_5 => ?_) (fun c_3_5 => ?_)
  · refine j_iload_n dJ7_copyOf_9075b_14 rfl ?_
    obtain ⟨x1, hx1a, hx1b, hx1c⟩ := z_fresh (ρ) hρ hf
    have n_m_x1 := z_neF hx1c gm
    refine j_newa (kd := 2) (N := q) (w' := _) (n := x1) dJ7_copyOf_9075b_15 rfl rfl arc_byte ⟨rfl, fun _ _ h => h⟩ (nI_pos (by omega)) (z_cla (by omega)) (by show q * 1 ≤ _; omega) rfl (z_alW hx1c hx1a) (Nat.le_of_ble_eq_true rfl) (by show _ ≤ q; omega) ?_
    refine j_seal hx1a ?_
    intro w1 u1
    have g1_m := (u1.2.1 _ n_m_x1).trans gm
    have g1_x1 := u1.1
    have hf1 := u1.2.2.2 hf
    refine j_astore_n (lo' := [(2, _), (0, _), (1, _)]) dJ7_copyOf_9075b_17 rfl (by decide) rfl ?_
    refine j_aload_n dJ7_copyOf_9075b_18 rfl rfl ?_
    refine j_iconst (v := 0) dJ7_copyOf_9075b_19 (by decide) ?_
    refine j_aload_n dJ7_copyOf_9075b_20 rfl rfl ?_
    refine j_iconst (v := 0) dJ7_copyOf_9075b_21 (by decide) ?_
    refine j_aload_n dJ7_copyOf_9075b_22 rfl rfl ?_
    refine j_alen dJ7_copyOf_9075b_23 g1_m rfl rfl ?_
    refine j_iload_n dJ7_copyOf_9075b_24 rfl ?_
    refine j_mmin dJ7_copyOf_9075b_25 lJ7_304 (Nat.le_of_ble_eq_true rfl) (Nat.le_of_ble_eq_true rfl) (Nat.le_of_ble_eq_true rfl) (by show _ ≤ q; omega) ?_
    refine j_top (congrArg Value.int (nI_mn (a := N) (b := q) (by omega) (by omega))) ?_
    refine j_acopy (w' := _) dJ7_copyOf_9075b_28 lJ7_150 ac_n ac_s ac_i g1_m g1_x1 rfl (by decide) (by decide) (nI_pos (by omega)) (by rw [z_cla (by omega)]; show 0 + _ ≤ N; omega) (by rw [z_cla (by omega)]; show 0 + _ ≤ q; omega) (fun i _ => Or.inl (hby _)) (Nat.le_of_ble_eq_true rfl) (Nat.le_of_ble_eq_true rfl) rfl ?_
    refine j_seal hx1a ?_
    intro w2 u2
    have g2_m := (u2.2.1 _ n_m_x1).trans g1_m
    have g2_x1 := u2.1
    have hf2 := u2.2.2.2 hf1
    refine j_aload_n dJ7_copyOf_9075b_31 rfl rfl ?_
    refine j_aret dJ7_copyOf_9075b_32 rfl (Or.inr ⟨_, rfl⟩) rfl ?_ (Nat.le_of_ble_eq_true rfl) (by show _ ≤ q; omega)
    exact ⟨x1, _, rfl, ((u1.fw hx1a hx1b).tr (u2.fw hx1a hx1b)), hx1a, hx1b, fun k e hk => z_neF hx1c hk, g2_x1, fun k e hk => (u2.2.1 k (z_neF hx1c hk)).trans ((u1.2.1 k (z_neF hx1c hk)).trans hk), z_byC (fun j _ _ => hby j) z_by0⟩
  · exact absurd (nI_inj c_3_5 (by omega) (by omega)) (by omega)
set_option maxRecDepth 100000 in
set_option maxHeartbeats 8000000 in
theorem sb_ens (hl : l.stackTraces = false) (w : z_W) (ρ a n N q : Nat) (h : z_sb w ρ a n N) (hq : q ≤ 2 * N + 2) (hN : z_gr N q ≤ 5000) (hρ : ρ < 64) (hf : z_fn w) : z_Con G l mJ5_ensureCapacityInternal_d00df 14 (z_gr N q / 16 - N / 16) (2 * (z_gr N q - N)) w [.ref a, .int (nI q)] (fun v w9 => v = none ∧ z_fw ρ w w9 ∧ z_sb w9 ρ a n (z_gr N q)) (fun _ _ => False) := by
  obtain ⟨h1, h2, h3, h4, h5, m, f, ml, a1, a2, a3, ga, gm, a6⟩ := id h
  refine z_body hl (by decide) rfl (Nat.le_of_ble_eq_true rfl) ?_
  show z_J G l mJ5_ensureCapacityInternal_d00df _ 0 [(0, _), (1, _)] [] _ 0 0
  refine j_aload_n dJ5_ensureCapacityInternal_d00df_0 rfl rfl ?_
  refine j_getf dJ5_ensureCapacityInternal_d00df_1 fJ5_15 ga rfl ?_
  refine j_alen dJ5_ensureCapacityInternal_d00df_4 gm rfl rfl ?_
  refine j_aload_n dJ5_ensureCapacityInternal_d00df_5 rfl rfl ?_
  refine j_getf dJ5_ensureCapacityInternal_d00df_6 fJ5_22 ga rfl ?_
  refine j_ishr dJ5_ensureCapacityInternal_d00df_9 ?_
  refine j_top (congrArg Value.int (sb_shr0 (nI N))) ?_
  refine j_istore_n (lo' := [(2, _), (0, _), (1, _)]) dJ5_ensureCapacityInternal_d00df_10 (by decide) rfl ?_
  refine j_iload_n dJ5_ensureCapacityInternal_d00df_11 rfl ?_
  refine j_iload_n dJ5_ensureCapacityInternal_d00df_12 rfl ?_
  refine j_isub dJ5_ensureCapacityInternal_d00df_13 ?_
  refine j_if_le (tgt := 38) dJ5_ensureCapacityInternal_d00df_14 (by decide) (fun c_14_13 => ?_) (fun c_14_13 => ?_)
  · have hgr := z_grT ((z_sble (q := q) (N := N) (by omega) (by omega)).mp c_14_13)
    refine j_vret dJ5_ensureCapacityInternal_d00df_38 rfl ?_ (by show _ ≤ z_gr N q / 16 - N / 16; omega) (by show _ ≤ 2 * (z_gr N q - N); omega)
    rw [hgr]
    exact ⟨rfl, z_fw.rf, h⟩
  · have hqN : ¬ q ≤ N := fun z => c_14_13 ((z_sble (q := q) (N := N) (by omega) (by omega)).mpr z)
    have hgr := z_grF hqN
    refine j_aload_n dJ5_ensureCapacityInternal_d00df_17 rfl rfl ?_
    refine j_aload_n dJ5_ensureCapacityInternal_d00df_18 rfl rfl ?_
    refine j_getf dJ5_ensureCapacityInternal_d00df_19 fJ5_15 ga rfl ?_
    refine j_aload_n dJ5_ensureCapacityInternal_d00df_22 rfl rfl ?_
    refine j_iload_n dJ5_ensureCapacityInternal_d00df_23 rfl ?_
    refine j_callP (x := yJ5_isLatin1_aae02) (q := (RJ4, TJ4, 4)) dJ5_ensureCapacityInternal_d00df_24 kJ5_newCapacity_0f7a4 lJ5_104 inJ5_newCapacity_0f7a4 ⟨(z_w 640 ((lwg_3 115).trans rfl) (by decide +kernel)), rfl, (z_wn 607 ((lwg_3 82).trans rfl) (by decide +kernel))⟩ ga rfl (sb_newC hl w ρ a n N q h (by omega) hq) (Nat.le_of_ble_eq_true rfl) ⟨(by show _ ≤ z_gr N q / 16 - N / 16; omega), (by show _ ≤ 2 * (z_gr N q - N); omega)⟩ rfl (Nat.le_of_ble_eq_true rfl) rfl rfl (fun _ _ h => h.elim) ?_
    rintro _ _ ⟨rfl, hw2⟩
    refine j_w w hw2 ?_
    refine j_aload_n dJ5_ensureCapacityInternal_d00df_27 rfl rfl ?_
    refine j_getf dJ5_ensureCapacityInternal_d00df_28 fJ5_22 ga rfl ?_
    refine j_ishl dJ5_ensureCapacityInternal_d00df_31 ?_
    refine j_top (congrArg Value.int (sb_shl0 _)) ?_
    refine j_callS dJ5_ensureCapacityInternal_d00df_32 kJ7_copyOf_9075b lJ5_108 stJ7_copyOf_9075b (sb_cpO hl w ρ m N (2 * N + 2) f hρ hf gm a6 (by omega) (by omega)) (Nat.le_of_ble_eq_true rfl) ⟨(by show _ ≤ z_gr N q / 16 - N / 16; omega), (by show _ ≤ 2 * (z_gr N q - N); omega)⟩ rfl (Nat.le_of_ble_eq_true rfl) rfl rfl (fun _ _ h => h.elim) ?_
    rintro _ w1 ⟨m9, g9, rfl, fw1, c1, c2, c3, c4, c5, c6⟩
    have hf1 := fw1.2.1 hf
    have g1_a := c5 a _ ga
    refine j_put (w' := _) dJ5_ensureCapacityInternal_d00df_35 fJ5_15 tJ4_0 g1_a (Or.inr ⟨_, rfl⟩) rfl ?_
    refine j_seal h1 ?_
    intro w2 u2
    have g2_m2 := (u2.2.1 _ (Ne.symm (c3 a _ ga))).trans c4
    have g2_a := u2.1
    have hf2 := u2.2.2.2 hf1
    refine j_vret dJ5_ensureCapacityInternal_d00df_38 rfl ?_ (by show _ ≤ z_gr N q / 16 - N / 16; omega) (by show _ ≤ 2 * (z_gr N q - N); omega)
    rw [hgr]
    exact ⟨rfl, (fw1.tr (u2.fw h1 h2)), h1, h2, by omega, by omega, by omega, m9, _, ml, c1, c2, (Ne.symm (c3 a _ ga)), g2_a, g2_m2, c6⟩
set_option maxRecDepth 100000 in
set_option maxHeartbeats 8000000 in
theorem sb_ini0 (hl : l.stackTraces = false) (w : z_W) (ρ a : Nat) (h1 : 1000 ≤ a) (h2 : a % 64 = ρ) (hρ : ρ < 64) (hf : z_fn w) (ga : z_g w a = some (.inr (1, [.null, .int 0, .int 0, .int 0]))) : z_Con G l mJ5_init_d00df 12 1 16 w [.ref a, .int 16] (fun v w9 => v = none ∧ z_fw ρ w w9 ∧ z_sb w9 ρ a 0 16) (fun _ _ => False) := by
  refine z_body hl (by decide) rfl (Nat.le_of_ble_eq_true rfl) ?_
  show z_J G l mJ5_init_d00df _ 0 [(0, _), (1, _)] [] _ 0 0
  refine j_aload_n dJ5_init_d00df_0 rfl rfl ?_
  refine j_objI dJ5_init_d00df_1 oJ5_3 z_oi1 z_oi2 (Nat.le_of_ble_eq_true rfl) (Nat.le_of_ble_eq_true rfl) ?_
  refine j_gets dJ5_init_d00df_4 (List.mem_of_getElem? (i := 0) rfl) rfl (z_w 573 ((lwg_3 48).trans rfl) (by decide +kernel)) ?_
  refine j_if_eq (tgt := 25) dJ5_init_d00df_7 (by decide) (fun c_7_5 => ?_) (fun c_7_5 => ?_)
  · exact absurd c_7_5 (by decide)
  · refine j_aload_n dJ5_init_d00df_10 rfl rfl ?_
    refine j_iload_n dJ5_init_d00df_11 rfl ?_
    obtain ⟨x1, hx1a, hx1b, hx1c⟩ := z_fresh (ρ) hρ hf
    have n_a_x1 := z_neF hx1c ga
    refine j_newa (kd := 2) (N := 16) (w' := _) (n := x1) dJ5_init_d00df_12 rfl rfl arc_byte ⟨rfl, fun _ _ h => h⟩ (by decide) rfl (by decide) rfl (z_alW hx1c hx1a) (Nat.le_of_ble_eq_true rfl) (Nat.le_of_ble_eq_true rfl) ?_
    refine j_seal hx1a ?_
    intro w1 u1
    have g1_a := (u1.2.1 _ n_a_x1).trans ga
    have g1_x1 := u1.1
    have hf1 := u1.2.2.2 hf
    refine j_put (w' := _) dJ5_init_d00df_14 fJ5_15 tJ4_0 g1_a (Or.inr ⟨_, rfl⟩) rfl ?_
    refine j_seal h1 ?_
    intro w2 u2
    have g2_x1 := (u2.2.1 _ (Ne.symm n_a_x1)).trans g1_x1
    have g2_a := u2.1
    have hf2 := u2.2.2.2 hf1
    refine j_aload_n dJ5_init_d00df_17 rfl rfl ?_
    refine j_iconst (v := 0) dJ5_init_d00df_18 (by decide) ?_
    refine j_put (w' := _) dJ5_init_d00df_19 fJ5_22 tJ4_1 g2_a ⟨rfl, rfl⟩ rfl ?_
    refine j_seal h1 ?_
    intro w3 u3
    have g3_x1 := (u3.2.1 _ (Ne.symm n_a_x1)).trans g2_x1
    have g3_a := u3.1
    have hf3 := u3.2.2.2 hf2
    refine j_goto (tgt := 38) dJ5_init_d00df_22 (by decide) ?_
    refine j_vret dJ5_init_d00df_38 rfl ?_ (Nat.le_of_ble_eq_true rfl) (Nat.le_of_ble_eq_true rfl)
    exact ⟨rfl, (((u1.fw hx1a hx1b).tr (u2.fw h1 h2)).tr (u3.fw h1 h2)), h1, h2, by omega, by omega, by omega, x1, _, 0, hx1a, hx1b, Ne.symm n_a_x1, g3_a, g3_x1, z_by0⟩
set_option maxRecDepth 100000 in
set_option maxHeartbeats 8000000 in
theorem sb_ini (hl : l.stackTraces = false) (w : z_W) (ρ a : Nat) (h1 : 1000 ≤ a) (h2 : a % 64 = ρ) (hρ : ρ < 64) (hf : z_fn w) (ga : z_g w a = some (.inr (1, [.null, .int 0, .int 0, .int 0]))) : z_Con G l mJ4_init_da8c8 13 1 16 w [.ref a] (fun v w9 => v = none ∧ z_fw ρ w w9 ∧ z_sb w9 ρ a 0 16) (fun _ _ => False) := by
  refine z_body hl (by decide) rfl (Nat.le_of_ble_eq_true rfl) ?_
  show z_J G l mJ4_init_da8c8 _ 0 [(0, _)] [] _ 0 0
  refine j_aload_n dJ4_init_da8c8_0 rfl rfl ?_
  refine j_bipush (v := 16) dJ4_init_da8c8_1 (by decide) ?_
  refine j_callI dJ4_init_da8c8_3 kJ5_init_d00df rfl lJ4_1 inJ5_init_d00df rfl (sb_ini0 hl w ρ a h1 h2 hρ hf ga) (Nat.le_of_ble_eq_true rfl) ⟨(Nat.le_of_ble_eq_true rfl), (Nat.le_of_ble_eq_true rfl)⟩ rfl (Nat.le_of_ble_eq_true rfl) rfl rfl (fun _ _ h => h.elim) ?_
  rintro _ w1 ⟨rfl, fw1, hs1⟩
  have hf1 := fw1.2.1 hf
  refine j_vret dJ4_init_da8c8_6 rfl ?_ (Nat.le_of_ble_eq_true rfl) (Nat.le_of_ble_eq_true rfl)
  exact ⟨rfl, fw1, hs1⟩
set_option maxRecDepth 100000 in
set_option maxHeartbeats 8000000 in
theorem sb_apC0 (hl : l.stackTraces = false) (w : z_W) (ρ a n N : Nat) (c : Int32) (h : z_sb w ρ a n N) (hq : n + 1 ≤ 2 * N + 2) (hN : z_gr N (n + 1) ≤ 5000) (hρ : ρ < 64) (hf : z_fn w) (hc : ¬ (255 : Int32) < c) : z_Con G l mJ5_append_3fe6f 15 (z_gr N (n + 1) / 16 - N / 16) (2 * (z_gr N (n + 1) - N)) w [.ref a, .int c] (fun v w9 => v = some (.ref a) ∧ z_fw ρ w w9 ∧ z_sb w9 ρ a (n + 1) (z_gr N (n + 1))) (fun _ _ => False) := by
  obtain ⟨h1, h2, h3, h4, h5, m, f, ml, a1, a2, a3, ga, gm, a6⟩ := id h
  have hge := z_gr_ge hq
  have hle := z_gr_le (N := N) (m := n + 1)
  refine z_body hl (by decide) rfl (Nat.le_of_ble_eq_true rfl) ?_
  show z_J G l mJ5_append_3fe6f _ 0 [(0, _), (1, _)] [] _ 0 0
  refine j_aload_n dJ5_append_3fe6f_0 rfl rfl ?_
  refine j_aload_n dJ5_append_3fe6f_1 rfl rfl ?_
  refine j_getf dJ5_append_3fe6f_2 fJ5_79 ga rfl ?_
  refine j_iconst (v := 1) dJ5_append_3fe6f_5 (by decide) ?_
  refine j_iadd dJ5_append_3fe6f_6 ?_
  refine j_top (congrArg Value.int (nI_1 n)) ?_
  refine j_callP (x := yJ5_isLatin1_aae02) (q := (RJ4, TJ4, 4)) dJ5_append_3fe6f_7 kJ5_ensureCapacityInternal_d00df lJ5_100 inJ5_ensureCapacityInternal_d00df ⟨(z_w 640 ((lwg_3 115).trans rfl) (by decide +kernel)), rfl, (z_wn 603 ((lwg_3 78).trans rfl) (by decide +kernel))⟩ ga rfl (sb_ens hl w ρ a n N (n + 1) h (by omega) (by omega) hρ hf) (Nat.le_of_ble_eq_true rfl) ⟨(by show _ ≤ z_gr N (n + 1) / 16 - N / 16; omega), (by show _ ≤ 2 * (z_gr N (n + 1) - N); omega)⟩ rfl (Nat.le_of_ble_eq_true rfl) rfl rfl (fun _ _ h => h.elim) ?_
  rintro _ w1 ⟨rfl, fw1, hs1⟩
  have hf1 := fw1.2.1 hf
  obtain ⟨-, -, h3_1, h4_1, h5_1, m_1, f_1, ml_1, a1_1, a2_1, a3_1, ga_1, gm_1, a6_1⟩ := id hs1
  refine j_aload_n dJ5_append_3fe6f_10 rfl rfl ?_
  refine j_callU (q := (RJ4, TJ4, 4)) dJ5_append_3fe6f_11 kJ5_isLatin1_aae02 cuJ5_83_J4 ga_1 rfl (sb_lat hl w1 _ _ _ _ ga_1) (Nat.le_of_ble_eq_true rfl) ⟨(by show _ ≤ z_gr N (n + 1) / 16 - N / 16; omega), (by show _ ≤ 2 * (z_gr N (n + 1) - N); omega)⟩ rfl (Nat.le_of_ble_eq_true rfl) rfl rfl (fun _ _ h => h.elim) ?_
  rintro _ _ ⟨rfl, hw3⟩
  refine j_w w1 hw3 ?_
  refine j_if_eq (tgt := 45) dJ5_append_3fe6f_14 (by decide) (fun c_14_16 => ?_) (fun c_14_16 => ?_)
  · exact absurd c_14_16 (by decide)
  · refine j_iload_n dJ5_append_3fe6f_17 rfl ?_
    refine j_callS dJ5_append_3fe6f_18 kJ1_canEncode_fc78d lJ5_191 stJ1_canEncode_fc78d (sb_can hl w1 c hc) (Nat.le_of_ble_eq_true rfl) ⟨(by show _ ≤ z_gr N (n + 1) / 16 - N / 16; omega), (by show _ ≤ 2 * (z_gr N (n + 1) - N); omega)⟩ rfl (Nat.le_of_ble_eq_true rfl) rfl rfl (fun _ _ h => h.elim) ?_
    rintro _ _ ⟨rfl, hw4⟩
    refine j_w w1 hw4 ?_
    refine j_if_eq (tgt := 45) dJ5_append_3fe6f_21 (by decide) (fun c_21_22 => ?_) (fun c_21_22 => ?_)
    · exact absurd c_21_22 (by decide)
    · refine j_aload_n dJ5_append_3fe6f_24 rfl rfl ?_
      refine j_getf dJ5_append_3fe6f_25 fJ5_15 ga_1 rfl ?_
      refine j_aload_n dJ5_append_3fe6f_28 rfl rfl ?_
      refine j_dup dJ5_append_3fe6f_29 rfl ?_
      refine j_getf dJ5_append_3fe6f_30 fJ5_79 ga_1 rfl ?_
      refine j_dup_x1 dJ5_append_3fe6f_33 rfl rfl ?_
      refine j_iconst (v := 1) dJ5_append_3fe6f_34 (by decide) ?_
      refine j_iadd dJ5_append_3fe6f_35 ?_
      refine j_top (congrArg Value.int (nI_1 n)) ?_
      refine j_put (w' := _) dJ5_append_3fe6f_36 fJ5_79 tJ4_3 ga_1 ⟨rfl, rfl⟩ rfl ?_
      refine j_seal h1 ?_
      intro w2 u2
      have g2_m := (u2.2.1 _ a3_1).trans gm_1
      have g2_a := u2.1
      have hf2 := u2.2.2.2 hf1
      refine j_iload_n dJ5_append_3fe6f_39 rfl ?_
      refine j_i2b dJ5_append_3fe6f_40 ?_
      refine j_bastW (w' := _) dJ5_append_3fe6f_41 g2_m (vp_in_nI (by omega) (by omega)) rfl ?_
      refine j_seal a1_1 ?_
      intro w3 u3
      have g3_a := (u3.2.1 _ (Ne.symm a3_1)).trans g2_a
      have g3_m := u3.1
      have hf3 := u3.2.2.2 hf2
      refine j_goto (tgt := 75) dJ5_append_3fe6f_42 (by decide) ?_
      refine j_aload_n dJ5_append_3fe6f_75 rfl rfl ?_
      refine j_aret dJ5_append_3fe6f_76 rfl (Or.inl ⟨_, rfl⟩) rfl ?_ (by show _ ≤ z_gr N (n + 1) / 16 - N / 16; omega) (by show _ ≤ 2 * (z_gr N (n + 1) - N); omega)
      exact ⟨rfl, ((fw1.tr (u2.fw h1 h2)).tr (u3.fw a1_1 a2_1)), h1, h2, hge, by omega, hN, m_1, _, ml_1, a1_1, a2_1, a3_1, g3_a, g3_m, z_byU a6_1 (z_fB _)⟩
set_option maxRecDepth 100000 in
set_option maxHeartbeats 8000000 in
theorem sb_apC (hl : l.stackTraces = false) (w : z_W) (ρ a n N : Nat) (c : Int32) (h : z_sb w ρ a n N) (hq : n + 1 ≤ 2 * N + 2) (hN : z_gr N (n + 1) ≤ 5000) (hρ : ρ < 64) (hf : z_fn w) (hc : ¬ (255 : Int32) < c) : z_Con G l mJ4_append_cf468 16 (z_gr N (n + 1) / 16 - N / 16) (2 * (z_gr N (n + 1) - N)) w [.ref a, .int c] (fun v w9 => v = some (.ref a) ∧ z_fw ρ w w9 ∧ z_sb w9 ρ a (n + 1) (z_gr N (n + 1))) (fun _ _ => False) := by
  obtain ⟨h1, h2, h3, h4, h5, m, f, ml, a1, a2, a3, ga, gm, a6⟩ := id h
  refine z_body hl (by decide) rfl (Nat.le_of_ble_eq_true rfl) ?_
  show z_J G l mJ4_append_cf468 _ 0 [(0, _), (1, _)] [] _ 0 0
  refine j_aload_n dJ4_append_cf468_0 rfl rfl ?_
  refine j_iload_n dJ4_append_cf468_1 rfl ?_
  refine j_callSu (q := (RJ4, TJ4, 4)) dJ4_append_cf468_2 kJ5_append_3fe6f ⟨lJ4_50, (z_w 1966 ((lwg_9 1).trans rfl) (by decide +kernel)), (z_w 594 ((lwg_3 69).trans rfl) (by decide +kernel)), inJ5_append_3fe6f, (by decide)⟩ ga rfl (sb_apC0 hl w ρ a n N c h hq hN hρ hf hc) (Nat.le_of_ble_eq_true rfl) ⟨(by show _ ≤ z_gr N (n + 1) / 16 - N / 16; omega), (by show _ ≤ 2 * (z_gr N (n + 1) - N); omega)⟩ rfl (Nat.le_of_ble_eq_true rfl) rfl rfl (fun _ _ h => h.elim) ?_
  rintro _ w1 ⟨rfl, fw1, hs1⟩
  have hf1 := fw1.2.1 hf
  refine j_pop dJ4_append_cf468_5 rfl ?_
  refine j_aload_n dJ4_append_cf468_6 rfl rfl ?_
  refine j_aret dJ4_append_cf468_7 rfl (Or.inl ⟨_, rfl⟩) rfl ?_ (by show _ ≤ z_gr N (n + 1) / 16 - N / 16; omega) (by show _ ≤ 2 * (z_gr N (n + 1) - N); omega)
  exact ⟨rfl, fw1, hs1⟩
set_option maxRecDepth 100000 in
set_option maxHeartbeats 8000000 in
theorem sb_len0 (hl : l.stackTraces = false) (w : z_W) (ρ a n N : Nat) (h : z_sb w ρ a n N) : z_Con G l mJ5_length_8abf5 10 0 0 w [.ref a] (fun v w9 => v = some (.int (nI n)) ∧ w9 = w) (fun _ _ => False) := by
  obtain ⟨h1, h2, h3, h4, h5, m, f, ml, a1, a2, a3, ga, gm, a6⟩ := id h
  refine z_body hl (by decide) rfl (Nat.le_of_ble_eq_true rfl) ?_
  show z_J G l mJ5_length_8abf5 _ 0 [(0, _)] [] _ 0 0
  refine j_aload_n dJ5_length_8abf5_0 rfl rfl ?_
  refine j_getf dJ5_length_8abf5_1 fJ5_79 ga rfl ?_
  refine j_iret dJ5_length_8abf5_4 rfl rfl ?_ (Nat.le_of_ble_eq_true rfl) (Nat.le_of_ble_eq_true rfl)
  exact ⟨rfl, rfl⟩
set_option maxRecDepth 100000 in
set_option maxHeartbeats 8000000 in
theorem sb_len (hl : l.stackTraces = false) (w : z_W) (ρ a n N : Nat) (h : z_sb w ρ a n N) : z_Con G l mJ4_length_8abf5 11 0 0 w [.ref a] (fun v w9 => v = some (.int (nI n)) ∧ w9 = w) (fun _ _ => False) := by
  obtain ⟨h1, h2, h3, h4, h5, m, f, ml, a1, a2, a3, ga, gm, a6⟩ := id h
  refine z_body hl (by decide) rfl (Nat.le_of_ble_eq_true rfl) ?_
  show z_J G l mJ4_length_8abf5 _ 0 [(0, _)] [] _ 0 0
  refine j_aload_n dJ4_length_8abf5_0 rfl rfl ?_
  refine j_callSu (q := (RJ4, TJ4, 4)) dJ4_length_8abf5_1 kJ5_length_8abf5 ⟨lJ4_343, (z_w 744 ((lwg_3 219).trans rfl) (by decide +kernel)), (z_w 594 ((lwg_3 69).trans rfl) (by decide +kernel)), inJ5_length_8abf5, (by decide)⟩ ga rfl (sb_len0 hl w ρ a n N h) (Nat.le_of_ble_eq_true rfl) ⟨(Nat.le_of_ble_eq_true rfl), (Nat.le_of_ble_eq_true rfl)⟩ rfl (Nat.le_of_ble_eq_true rfl) rfl rfl (fun _ _ h => h.elim) ?_
  rintro _ _ ⟨rfl, hw5⟩
  refine j_w w hw5 ?_
  refine j_iret dJ4_length_8abf5_4 rfl rfl ?_ (Nat.le_of_ble_eq_true rfl) (Nat.le_of_ble_eq_true rfl)
  exact ⟨rfl, rfl⟩
end ZSb1
end ZM7
section ZM8
section ZSb2
variable {G : z_G} {l : Launch}
set_option maxRecDepth 100000 in
set_option maxHeartbeats 8000000 in
theorem sb_size (hl : l.stackTraces = false) (w : z_W) (x : Int32)  : z_Con G l mJ6_stringSize_0f7a4 10 0 0 w [.int x] (fun v w9 => v = some (.int (nI (z_sz x))) ∧ w9 = w) (fun _ _ => False) := by
  refine z_body hl (by decide) rfl (Nat.le_of_ble_eq_true rfl) ?_
  show z_J G l mJ6_stringSize_0f7a4 _ 0 [(0, _)] [] _ 0 0
  refine j_iconst (v := 1) dJ6_stringSize_0f7a4_0 (by decide) ?_
  refine j_istore_n (lo' := [(1, _), (0, _)]) dJ6_stringSize_0f7a4_1 (by decide) rfl ?_
  refine j_iload_n dJ6_stringSize_0f7a4_2 rfl ?_
  refine j_if_lt (tgt := 11) dJ6_stringSize_0f7a4_3 (by decide) (fun c_3_5 => ?_) (fun c_3_5 => ?_)
  · have hx : x < 0 := c_3_5
    have hi : (x).toInt = -(x.toInt.natAbs : Int) := z_poI hx
    refine j_bipush (v := (-10)) dJ6_stringSize_0f7a4_11 (by decide) ?_
    refine j_istore_n (lo' := [(2, _), (1, _), (0, _)]) dJ6_stringSize_0f7a4_13 (by decide) rfl ?_
    refine j_iconst (v := 1) dJ6_stringSize_0f7a4_14 (by decide) ?_
    refine j_istore_n (lo' := [(3, _), (2, _), (1, _), (0, _)]) dJ6_stringSize_0f7a4_15 (by decide) rfl ?_
    refine j_iload_n dJ6_stringSize_0f7a4_16 rfl ?_
    refine j_bipush (v := 10) dJ6_stringSize_0f7a4_17 (by decide) ?_
    refine j_icmp_ge (tgt := 42) dJ6_stringSize_0f7a4_19 (by decide) (fun c_19_14 => ?_) (fun c_19_14 => ?_)
    · exact absurd c_19_14 (by decide)
    · refine j_iload_n dJ6_stringSize_0f7a4_22 rfl ?_
      refine j_iload_n dJ6_stringSize_0f7a4_23 rfl ?_
      refine j_icmp_le (tgt := 31) dJ6_stringSize_0f7a4_24 (by decide) (fun c_24_18 => ?_) (fun c_24_18 => ?_)
      · have hl1 : 10 ≤ x.toInt.natAbs := by have := z_leI c_24_18 hi (show (-10 : Int32).toInt = -10 by decide); omega
        refine j_bipush (v := 10) dJ6_stringSize_0f7a4_31 (by decide) ?_
        refine j_iload_n dJ6_stringSize_0f7a4_33 rfl ?_
        refine j_imul dJ6_stringSize_0f7a4_34 ?_
        refine j_top (congrArg Value.int (show (10 : Int32) * (-10) = (-100) by decide)) ?_
        refine j_istore_n (lo' := [(2, _), (3, _), (1, _), (0, _)]) dJ6_stringSize_0f7a4_35 (by decide) rfl ?_
        refine j_iinc (v := 2) (lo' := [(3, _), (2, _), (1, _), (0, _)]) dJ6_stringSize_0f7a4_36 rfl (by decide) (by decide) rfl ?_
        refine j_goto (tgt := 16) dJ6_stringSize_0f7a4_39 (by decide) ?_
        refine j_iload_n dJ6_stringSize_0f7a4_16 rfl ?_
        refine j_bipush (v := 10) dJ6_stringSize_0f7a4_17 (by decide) ?_
        refine j_icmp_ge (tgt := 42) dJ6_stringSize_0f7a4_19 (by decide) (fun c_19_29 => ?_) (fun c_19_29 => ?_)
        · exact absurd c_19_29 (by decide)
        · refine j_iload_n dJ6_stringSize_0f7a4_22 rfl ?_
          refine j_iload_n dJ6_stringSize_0f7a4_23 rfl ?_
          refine j_icmp_le (tgt := 31) dJ6_stringSize_0f7a4_24 (by decide) (fun c_24_33 => ?_) (fun c_24_33 => ?_)
          · have hl2 : 100 ≤ x.toInt.natAbs := by have := z_leI c_24_33 hi (show (-100 : Int32).toInt = -100 by decide); omega
            refine j_bipush (v := 10) dJ6_stringSize_0f7a4_31 (by decide) ?_
            refine j_iload_n dJ6_stringSize_0f7a4_33 rfl ?_
            refine j_imul dJ6_stringSize_0f7a4_34 ?_
            refine j_top (congrArg Value.int (show (10 : Int32) * (-100) = (-1000) by decide)) ?_
            refine j_istore_n (lo' := [(2, _), (3, _), (1, _), (0, _)]) dJ6_stringSize_0f7a4_35 (by decide) rfl ?_
            refine j_iinc (v := 3) (lo' := [(3, _), (2, _), (1, _), (0, _)]) dJ6_stringSize_0f7a4_36 rfl (by decide) (by decide) rfl ?_
            refine j_goto (tgt := 16) dJ6_stringSize_0f7a4_39 (by decide) ?_
            refine j_iload_n dJ6_stringSize_0f7a4_16 rfl ?_
            refine j_bipush (v := 10) dJ6_stringSize_0f7a4_17 (by decide) ?_
            refine j_icmp_ge (tgt := 42) dJ6_stringSize_0f7a4_19 (by decide) (fun c_19_44 => ?_) (fun c_19_44 => ?_)
            · exact absurd c_19_44 (by decide)
            · refine j_iload_n dJ6_stringSize_0f7a4_22 rfl ?_
              refine j_iload_n dJ6_stringSize_0f7a4_23 rfl ?_
              refine j_icmp_le (tgt := 31) dJ6_stringSize_0f7a4_24 (by decide) (fun c_24_48 => ?_) (fun c_24_48 => ?_)
              · have hl3 : 1000 ≤ x.toInt.natAbs := by have := z_leI c_24_48 hi (show (-1000 : Int32).toInt = -1000 by decide); omega
                refine j_bipush (v := 10) dJ6_stringSize_0f7a4_31 (by decide) ?_
                refine j_iload_n dJ6_stringSize_0f7a4_33 rfl ?_
                refine j_imul dJ6_stringSize_0f7a4_34 ?_
                refine j_top (congrArg Value.int (show (10 : Int32) * (-1000) = (-10000) by decide)) ?_
                refine j_istore_n (lo' := [(2, _), (3, _), (1, _), (0, _)]) dJ6_stringSize_0f7a4_35 (by decide) rfl ?_
                refine j_iinc (v := 4) (lo' := [(3, _), (2, _), (1, _), (0, _)]) dJ6_stringSize_0f7a4_36 rfl (by decide) (by decide) rfl ?_
                refine j_goto (tgt := 16) dJ6_stringSize_0f7a4_39 (by decide) ?_
                refine j_iload_n dJ6_stringSize_0f7a4_16 rfl ?_
                refine j_bipush (v := 10) dJ6_stringSize_0f7a4_17 (by decide) ?_
                refine j_icmp_ge (tgt := 42) dJ6_stringSize_0f7a4_19 (by decide) (fun c_19_59 => ?_) (fun c_19_59 => ?_)
                · exact absurd c_19_59 (by decide)
                · refine j_iload_n dJ6_stringSize_0f7a4_22 rfl ?_
                  refine j_iload_n dJ6_stringSize_0f7a4_23 rfl ?_
                  refine j_icmp_le (tgt := 31) dJ6_stringSize_0f7a4_24 (by decide) (fun c_24_63 => ?_) (fun c_24_63 => ?_)
                  · have hl4 : 10000 ≤ x.toInt.natAbs := by have := z_leI c_24_63 hi (show (-10000 : Int32).toInt = -10000 by decide); omega
                    refine j_bipush (v := 10) dJ6_stringSize_0f7a4_31 (by decide) ?_
                    refine j_iload_n dJ6_stringSize_0f7a4_33 rfl ?_
                    refine j_imul dJ6_stringSize_0f7a4_34 ?_
                    refine j_top (congrArg Value.int (show (10 : Int32) * (-10000) = (-100000) by decide)) ?_
                    refine j_istore_n (lo' := [(2, _), (3, _), (1, _), (0, _)]) dJ6_stringSize_0f7a4_35 (by decide) rfl ?_
                    refine j_iinc (v := 5) (lo' := [(3, _), (2, _), (1, _), (0, _)]) dJ6_stringSize_0f7a4_36 rfl (by decide) (by decide) rfl ?_
                    refine j_goto (tgt := 16) dJ6_stringSize_0f7a4_39 (by decide) ?_
                    refine j_iload_n dJ6_stringSize_0f7a4_16 rfl ?_
                    refine j_bipush (v := 10) dJ6_stringSize_0f7a4_17 (by decide) ?_
                    refine j_icmp_ge (tgt := 42) dJ6_stringSize_0f7a4_19 (by decide) (fun c_19_74 => ?_) (fun c_19_74 => ?_)
                    · exact absurd c_19_74 (by decide)
                    · refine j_iload_n dJ6_stringSize_0f7a4_22 rfl ?_
                      refine j_iload_n dJ6_stringSize_0f7a4_23 rfl ?_
                      refine j_icmp_le (tgt := 31) dJ6_stringSize_0f7a4_24 (by decide) (fun c_24_78 => ?_) (fun c_24_78 => ?_)
                      · have hl5 : 100000 ≤ x.toInt.natAbs := by have := z_leI c_24_78 hi (show (-100000 : Int32).toInt = -100000 by decide); omega
                        refine j_bipush (v := 10) dJ6_stringSize_0f7a4_31 (by decide) ?_
                        refine j_iload_n dJ6_stringSize_0f7a4_33 rfl ?_
                        refine j_imul dJ6_stringSize_0f7a4_34 ?_
                        refine j_top (congrArg Value.int (show (10 : Int32) * (-100000) = (-1000000) by decide)) ?_
                        refine j_istore_n (lo' := [(2, _), (3, _), (1, _), (0, _)]) dJ6_stringSize_0f7a4_35 (by decide) rfl ?_
                        refine j_iinc (v := 6) (lo' := [(3, _), (2, _), (1, _), (0, _)]) dJ6_stringSize_0f7a4_36 rfl (by decide) (by decide) rfl ?_
                        refine j_goto (tgt := 16) dJ6_stringSize_0f7a4_39 (by decide) ?_
                        refine j_iload_n dJ6_stringSize_0f7a4_16 rfl ?_
                        refine j_bipush (v := 10) dJ6_stringSize_0f7a4_17 (by decide) ?_
                        refine j_icmp_ge (tgt := 42) dJ6_stringSize_0f7a4_19 (by decide) (fun c_19_89 => ?_) (fun c_19_89 => ?_)
                        · exact absurd c_19_89 (by decide)
                        · refine j_iload_n dJ6_stringSize_0f7a4_22 rfl ?_
                          refine j_iload_n dJ6_stringSize_0f7a4_23 rfl ?_
                          refine j_icmp_le (tgt := 31) dJ6_stringSize_0f7a4_24 (by decide) (fun c_24_93 => ?_) (fun c_24_93 => ?_)
                          · have hl6 : 1000000 ≤ x.toInt.natAbs := by have := z_leI c_24_93 hi (show (-1000000 : Int32).toInt = -1000000 by decide); omega
                            refine j_bipush (v := 10) dJ6_stringSize_0f7a4_31 (by decide) ?_
                            refine j_iload_n dJ6_stringSize_0f7a4_33 rfl ?_
                            refine j_imul dJ6_stringSize_0f7a4_34 ?_
                            refine j_top (congrArg Value.int (show (10 : Int32) * (-1000000) = (-10000000) by decide)) ?_
                            refine j_istore_n (lo' := [(2, _), (3, _), (1, _), (0, _)]) dJ6_stringSize_0f7a4_35 (by decide) rfl ?_
                            refine j_iinc (v := 7) (lo' := [(3, _), (2, _), (1, _), (0, _)]) dJ6_stringSize_0f7a4_36 rfl (by decide) (by decide) rfl ?_
                            refine j_goto (tgt := 16) dJ6_stringSize_0f7a4_39 (by decide) ?_
                            refine j_iload_n dJ6_stringSize_0f7a4_16 rfl ?_
                            refine j_bipush (v := 10) dJ6_stringSize_0f7a4_17 (by decide) ?_
                            refine j_icmp_ge (tgt := 42) dJ6_stringSize_0f7a4_19 (by decide) (fun c_19_104 => ?_) (fun c_19_104 => ?_)
                            · exact absurd c_19_104 (by decide)
                            · refine j_iload_n dJ6_stringSize_0f7a4_22 rfl ?_
                              refine j_iload_n dJ6_stringSize_0f7a4_23 rfl ?_
                              refine j_icmp_le (tgt := 31) dJ6_stringSize_0f7a4_24 (by decide) (fun c_24_108 => ?_) (fun c_24_108 => ?_)
                              · have hl7 : 10000000 ≤ x.toInt.natAbs := by have := z_leI c_24_108 hi (show (-10000000 : Int32).toInt = -10000000 by decide); omega
                                refine j_bipush (v := 10) dJ6_stringSize_0f7a4_31 (by decide) ?_
                                refine j_iload_n dJ6_stringSize_0f7a4_33 rfl ?_
                                refine j_imul dJ6_stringSize_0f7a4_34 ?_
                                refine j_top (congrArg Value.int (show (10 : Int32) * (-10000000) = (-100000000) by decide)) ?_
                                refine j_istore_n (lo' := [(2, _), (3, _), (1, _), (0, _)]) dJ6_stringSize_0f7a4_35 (by decide) rfl ?_
                                refine j_iinc (v := 8) (lo' := [(3, _), (2, _), (1, _), (0, _)]) dJ6_stringSize_0f7a4_36 rfl (by decide) (by decide) rfl ?_
                                refine j_goto (tgt := 16) dJ6_stringSize_0f7a4_39 (by decide) ?_
                                refine j_iload_n dJ6_stringSize_0f7a4_16 rfl ?_
                                refine j_bipush (v := 10) dJ6_stringSize_0f7a4_17 (by decide) ?_
                                refine j_icmp_ge (tgt := 42) dJ6_stringSize_0f7a4_19 (by decide) (fun c_19_119 => ?_) (fun c_19_119 => ?_)
                                · exact absurd c_19_119 (by decide)
                                · refine j_iload_n dJ6_stringSize_0f7a4_22 rfl ?_
                                  refine j_iload_n dJ6_stringSize_0f7a4_23 rfl ?_
                                  refine j_icmp_le (tgt := 31) dJ6_stringSize_0f7a4_24 (by decide) (fun c_24_123 => ?_) (fun c_24_123 => ?_)
                                  · have hl8 : 100000000 ≤ x.toInt.natAbs := by have := z_leI c_24_123 hi (show (-100000000 : Int32).toInt = -100000000 by decide); omega
                                    refine j_bipush (v := 10) dJ6_stringSize_0f7a4_31 (by decide) ?_
                                    refine j_iload_n dJ6_stringSize_0f7a4_33 rfl ?_
                                    refine j_imul dJ6_stringSize_0f7a4_34 ?_
                                    refine j_top (congrArg Value.int (show (10 : Int32) * (-100000000) = (-1000000000) by decide)) ?_
                                    refine j_istore_n (lo' := [(2, _), (3, _), (1, _), (0, _)]) dJ6_stringSize_0f7a4_35 (by decide) rfl ?_
                                    refine j_iinc (v := 9) (lo' := [(3, _), (2, _), (1, _), (0, _)]) dJ6_stringSize_0f7a4_36 rfl (by decide) (by decide) rfl ?_
                                    refine j_goto (tgt := 16) dJ6_stringSize_0f7a4_39 (by decide) ?_
                                    refine j_iload_n dJ6_stringSize_0f7a4_16 rfl ?_
                                    refine j_bipush (v := 10) dJ6_stringSize_0f7a4_17 (by decide) ?_
                                    refine j_icmp_ge (tgt := 42) dJ6_stringSize_0f7a4_19 (by decide) (fun c_19_134 => ?_) (fun c_19_134 => ?_)
                                    · exact absurd c_19_134 (by decide)
                                    · refine j_iload_n dJ6_stringSize_0f7a4_22 rfl ?_
                                      refine j_iload_n dJ6_stringSize_0f7a4_23 rfl ?_
                                      refine j_icmp_le (tgt := 31) dJ6_stringSize_0f7a4_24 (by decide) (fun c_24_138 => ?_) (fun c_24_138 => ?_)
                                      · have hl9 : 1000000000 ≤ x.toInt.natAbs := by have := z_leI c_24_138 hi (show (-1000000000 : Int32).toInt = -1000000000 by decide); omega
                                        refine j_bipush (v := 10) dJ6_stringSize_0f7a4_31 (by decide) ?_
                                        refine j_iload_n dJ6_stringSize_0f7a4_33 rfl ?_
                                        refine j_imul dJ6_stringSize_0f7a4_34 ?_
                                        refine j_top (congrArg Value.int (show (10 : Int32) * (-1000000000) = (-1410065408) by decide)) ?_
                                        refine j_istore_n (lo' := [(2, _), (3, _), (1, _), (0, _)]) dJ6_stringSize_0f7a4_35 (by decide) rfl ?_
                                        refine j_iinc (v := 10) (lo' := [(3, _), (2, _), (1, _), (0, _)]) dJ6_stringSize_0f7a4_36 rfl (by decide) (by decide) rfl ?_
                                        refine j_goto (tgt := 16) dJ6_stringSize_0f7a4_39 (by decide) ?_
                                        refine j_iload_n dJ6_stringSize_0f7a4_16 rfl ?_
                                        refine j_bipush (v := 10) dJ6_stringSize_0f7a4_17 (by decide) ?_
                                        refine j_icmp_ge (tgt := 42) dJ6_stringSize_0f7a4_19 (by decide) (fun c_19_149 => ?_) (fun c_19_149 => ?_)
                                        · refine j_bipush (v := 10) dJ6_stringSize_0f7a4_42 (by decide) ?_
                                          refine j_iload_n dJ6_stringSize_0f7a4_44 rfl ?_
                                          refine j_iadd dJ6_stringSize_0f7a4_45 ?_
                                          refine j_iret dJ6_stringSize_0f7a4_46 rfl rfl ?_ (Nat.le_of_ble_eq_true rfl) (Nat.le_of_ble_eq_true rfl)
                                          have hd : z_dg x.toInt.natAbs = 10 := by unfold z_dg; rw [if_neg (show ¬ x.toInt.natAbs < 10 by omega), if_neg (show ¬ x.toInt.natAbs < 100 by omega), if_neg (show ¬ x.toInt.natAbs < 1000 by omega), if_neg (show ¬ x.toInt.natAbs < 10000 by omega), if_neg (show ¬ x.toInt.natAbs < 100000 by omega), if_neg (show ¬ x.toInt.natAbs < 1000000 by omega), if_neg (show ¬ x.toInt.natAbs < 10000000 by omega), if_neg (show ¬ x.toInt.natAbs < 100000000 by omega), if_neg (show ¬ x.toInt.natAbs < 1000000000 by omega)]
                                          have hz : z_sz x = 11 := by unfold z_sz; rw [if_pos hx, hd]
                                          rw [hz]
                                          exact ⟨rfl, rfl⟩
                                        · exact absurd (by decide) c_19_149
                                      · have hu : x.toInt.natAbs < 1000000000 := by have := z_nleI c_24_138 hi (show (-1000000000 : Int32).toInt = -1000000000 by decide); omega
                                        refine j_iload_n dJ6_stringSize_0f7a4_27 rfl ?_
                                        refine j_iload_n dJ6_stringSize_0f7a4_28 rfl ?_
                                        refine j_iadd dJ6_stringSize_0f7a4_29 ?_
                                        refine j_iret dJ6_stringSize_0f7a4_30 rfl rfl ?_ (Nat.le_of_ble_eq_true rfl) (Nat.le_of_ble_eq_true rfl)
                                        have hd : z_dg x.toInt.natAbs = 9 := z_dgL (k := 9) ⟨Or.inr hl8, hu⟩ (by omega)
                                        have hz : z_sz x = 10 := by unfold z_sz; rw [if_pos hx, hd]
                                        rw [hz]
                                        exact ⟨rfl, rfl⟩
                                  · have hu : x.toInt.natAbs < 100000000 := by have := z_nleI c_24_123 hi (show (-100000000 : Int32).toInt = -100000000 by decide); omega
                                    refine j_iload_n dJ6_stringSize_0f7a4_27 rfl ?_
                                    refine j_iload_n dJ6_stringSize_0f7a4_28 rfl ?_
                                    refine j_iadd dJ6_stringSize_0f7a4_29 ?_
                                    refine j_iret dJ6_stringSize_0f7a4_30 rfl rfl ?_ (Nat.le_of_ble_eq_true rfl) (Nat.le_of_ble_eq_true rfl)
                                    have hd : z_dg x.toInt.natAbs = 8 := z_dgL (k := 8) ⟨Or.inr hl7, hu⟩ (by omega)
                                    have hz : z_sz x = 9 := by unfold z_sz; rw [if_pos hx, hd]
                                    rw [hz]
                                    exact ⟨rfl, rfl⟩
                              · have hu : x.toInt.natAbs < 10000000 := by have := z_nleI c_24_108 hi (show (-10000000 : Int32).toInt = -10000000 by decide); omega
                                refine j_iload_n dJ6_stringSize_0f7a4_27 rfl ?_
                                refine j_iload_n dJ6_stringSize_0f7a4_28 rfl ?_
                                refine j_iadd dJ6_stringSize_0f7a4_29 ?_
                                refine j_iret dJ6_stringSize_0f7a4_30 rfl rfl ?_ (Nat.le_of_ble_eq_true rfl) (Nat.le_of_ble_eq_true rfl)
                                have hd : z_dg x.toInt.natAbs = 7 := z_dgL (k := 7) ⟨Or.inr hl6, hu⟩ (by omega)
                                have hz : z_sz x = 8 := by unfold z_sz; rw [if_pos hx, hd]
                                rw [hz]
                                exact ⟨rfl, rfl⟩
                          · have hu : x.toInt.natAbs < 1000000 := by have := z_nleI c_24_93 hi (show (-1000000 : Int32).toInt = -1000000 by decide); omega
                            refine j_iload_n dJ6_stringSize_0f7a4_27 rfl ?_
                            refine j_iload_n dJ6_stringSize_0f7a4_28 rfl ?_
                            refine j_iadd dJ6_stringSize_0f7a4_29 ?_
                            refine j_iret dJ6_stringSize_0f7a4_30 rfl rfl ?_ (Nat.le_of_ble_eq_true rfl) (Nat.le_of_ble_eq_true rfl)
                            have hd : z_dg x.toInt.natAbs = 6 := z_dgL (k := 6) ⟨Or.inr hl5, hu⟩ (by omega)
                            have hz : z_sz x = 7 := by unfold z_sz; rw [if_pos hx, hd]
                            rw [hz]
                            exact ⟨rfl, rfl⟩
                      · have hu : x.toInt.natAbs < 100000 := by have := z_nleI c_24_78 hi (show (-100000 : Int32).toInt = -100000 by decide); omega
                        refine j_iload_n dJ6_stringSize_0f7a4_27 rfl ?_
                        refine j_iload_n dJ6_stringSize_0f7a4_28 rfl ?_
                        refine j_iadd dJ6_stringSize_0f7a4_29 ?_
                        refine j_iret dJ6_stringSize_0f7a4_30 rfl rfl ?_ (Nat.le_of_ble_eq_true rfl) (Nat.le_of_ble_eq_true rfl)
                        have hd : z_dg x.toInt.natAbs = 5 := z_dgL (k := 5) ⟨Or.inr hl4, hu⟩ (by omega)
                        have hz : z_sz x = 6 := by unfold z_sz; rw [if_pos hx, hd]
                        rw [hz]
                        exact ⟨rfl, rfl⟩
                  · have hu : x.toInt.natAbs < 10000 := by have := z_nleI c_24_63 hi (show (-10000 : Int32).toInt = -10000 by decide); omega
                    refine j_iload_n dJ6_stringSize_0f7a4_27 rfl ?_
                    refine j_iload_n dJ6_stringSize_0f7a4_28 rfl ?_
                    refine j_iadd dJ6_stringSize_0f7a4_29 ?_
                    refine j_iret dJ6_stringSize_0f7a4_30 rfl rfl ?_ (Nat.le_of_ble_eq_true rfl) (Nat.le_of_ble_eq_true rfl)
                    have hd : z_dg x.toInt.natAbs = 4 := z_dgL (k := 4) ⟨Or.inr hl3, hu⟩ (by omega)
                    have hz : z_sz x = 5 := by unfold z_sz; rw [if_pos hx, hd]
                    rw [hz]
                    exact ⟨rfl, rfl⟩
              · have hu : x.toInt.natAbs < 1000 := by have := z_nleI c_24_48 hi (show (-1000 : Int32).toInt = -1000 by decide); omega
                refine j_iload_n dJ6_stringSize_0f7a4_27 rfl ?_
                refine j_iload_n dJ6_stringSize_0f7a4_28 rfl ?_
                refine j_iadd dJ6_stringSize_0f7a4_29 ?_
                refine j_iret dJ6_stringSize_0f7a4_30 rfl rfl ?_ (Nat.le_of_ble_eq_true rfl) (Nat.le_of_ble_eq_true rfl)
                have hd : z_dg x.toInt.natAbs = 3 := z_dgL (k := 3) ⟨Or.inr hl2, hu⟩ (by omega)
                have hz : z_sz x = 4 := by unfold z_sz; rw [if_pos hx, hd]
                rw [hz]
                exact ⟨rfl, rfl⟩
          · have hu : x.toInt.natAbs < 100 := by have := z_nleI c_24_33 hi (show (-100 : Int32).toInt = -100 by decide); omega
            refine j_iload_n dJ6_stringSize_0f7a4_27 rfl ?_
            refine j_iload_n dJ6_stringSize_0f7a4_28 rfl ?_
            refine j_iadd dJ6_stringSize_0f7a4_29 ?_
            refine j_iret dJ6_stringSize_0f7a4_30 rfl rfl ?_ (Nat.le_of_ble_eq_true rfl) (Nat.le_of_ble_eq_true rfl)
            have hd : z_dg x.toInt.natAbs = 2 := z_dgL (k := 2) ⟨Or.inr hl1, hu⟩ (by omega)
            have hz : z_sz x = 3 := by unfold z_sz; rw [if_pos hx, hd]
            rw [hz]
            exact ⟨rfl, rfl⟩
      · have hu : x.toInt.natAbs < 10 := by have := z_nleI c_24_18 hi (show (-10 : Int32).toInt = -10 by decide); omega
        refine j_iload_n dJ6_stringSize_0f7a4_27 rfl ?_
        refine j_iload_n dJ6_stringSize_0f7a4_28 rfl ?_
        refine j_iadd dJ6_stringSize_0f7a4_29 ?_
        refine j_iret dJ6_stringSize_0f7a4_30 rfl rfl ?_ (Nat.le_of_ble_eq_true rfl) (Nat.le_of_ble_eq_true rfl)
        have hd : z_dg x.toInt.natAbs = 1 := z_dgL (k := 1) ⟨Or.inl rfl, hu⟩ (by omega)
        have hz : z_sz x = 2 := by unfold z_sz; rw [if_pos hx, hd]
        rw [hz]
        exact ⟨rfl, rfl⟩
  · have hx : ¬ x < 0 := c_3_5
    have hi : (-x).toInt = -(x.toInt.natAbs : Int) := z_ngI hx
    refine j_iconst (v := 0) dJ6_stringSize_0f7a4_6 (by decide) ?_
    refine j_istore_n (lo' := [(1, _), (0, _)]) dJ6_stringSize_0f7a4_7 (by decide) rfl ?_
    refine j_iload_n dJ6_stringSize_0f7a4_8 rfl ?_
    refine j_ineg dJ6_stringSize_0f7a4_9 ?_
    refine j_istore_n (lo' := [(0, _), (1, _)]) dJ6_stringSize_0f7a4_10 (by decide) rfl ?_
    refine j_bipush (v := (-10)) dJ6_stringSize_0f7a4_11 (by decide) ?_
    refine j_istore_n (lo' := [(2, _), (0, _), (1, _)]) dJ6_stringSize_0f7a4_13 (by decide) rfl ?_
    refine j_iconst (v := 1) dJ6_stringSize_0f7a4_14 (by decide) ?_
    refine j_istore_n (lo' := [(3, _), (2, _), (0, _), (1, _)]) dJ6_stringSize_0f7a4_15 (by decide) rfl ?_
    refine j_iload_n dJ6_stringSize_0f7a4_16 rfl ?_
    refine j_bipush (v := 10) dJ6_stringSize_0f7a4_17 (by decide) ?_
    refine j_icmp_ge (tgt := 42) dJ6_stringSize_0f7a4_19 (by decide) (fun c_19_253 => ?_) (fun c_19_253 => ?_)
    · exact absurd c_19_253 (by decide)
    · refine j_iload_n dJ6_stringSize_0f7a4_22 rfl ?_
      refine j_iload_n dJ6_stringSize_0f7a4_23 rfl ?_
      refine j_icmp_le (tgt := 31) dJ6_stringSize_0f7a4_24 (by decide) (fun c_24_257 => ?_) (fun c_24_257 => ?_)
      · have hl1 : 10 ≤ x.toInt.natAbs := by have := z_leI c_24_257 hi (show (-10 : Int32).toInt = -10 by decide); omega
        refine j_bipush (v := 10) dJ6_stringSize_0f7a4_31 (by decide) ?_
        refine j_iload_n dJ6_stringSize_0f7a4_33 rfl ?_
        refine j_imul dJ6_stringSize_0f7a4_34 ?_
        refine j_top (congrArg Value.int (show (10 : Int32) * (-10) = (-100) by decide)) ?_
        refine j_istore_n (lo' := [(2, _), (3, _), (0, _), (1, _)]) dJ6_stringSize_0f7a4_35 (by decide) rfl ?_
        refine j_iinc (v := 2) (lo' := [(3, _), (2, _), (0, _), (1, _)]) dJ6_stringSize_0f7a4_36 rfl (by decide) (by decide) rfl ?_
        refine j_goto (tgt := 16) dJ6_stringSize_0f7a4_39 (by decide) ?_
        refine j_iload_n dJ6_stringSize_0f7a4_16 rfl ?_
        refine j_bipush (v := 10) dJ6_stringSize_0f7a4_17 (by decide) ?_
        refine j_icmp_ge (tgt := 42) dJ6_stringSize_0f7a4_19 (by decide) (fun c_19_268 => ?_) (fun c_19_268 => ?_)
        · exact absurd c_19_268 (by decide)
        · refine j_iload_n dJ6_stringSize_0f7a4_22 rfl ?_
          refine j_iload_n dJ6_stringSize_0f7a4_23 rfl ?_
          refine j_icmp_le (tgt := 31) dJ6_stringSize_0f7a4_24 (by decide) (fun c_24_272 => ?_) (fun c_24_272 => ?_)
          · have hl2 : 100 ≤ x.toInt.natAbs := by have := z_leI c_24_272 hi (show (-100 : Int32).toInt = -100 by decide); omega
            refine j_bipush (v := 10) dJ6_stringSize_0f7a4_31 (by decide) ?_
            refine j_iload_n dJ6_stringSize_0f7a4_33 rfl ?_
            refine j_imul dJ6_stringSize_0f7a4_34 ?_
            refine j_top (congrArg Value.int (show (10 : Int32) * (-100) = (-1000) by decide)) ?_
            refine j_istore_n (lo' := [(2, _), (3, _), (0, _), (1, _)]) dJ6_stringSize_0f7a4_35 (by decide) rfl ?_
            refine j_iinc (v := 3) (lo' := [(3, _), (2, _), (0, _), (1, _)]) dJ6_stringSize_0f7a4_36 rfl (by decide) (by decide) rfl ?_
            refine j_goto (tgt := 16) dJ6_stringSize_0f7a4_39 (by decide) ?_
            refine j_iload_n dJ6_stringSize_0f7a4_16 rfl ?_
            refine j_bipush (v := 10) dJ6_stringSize_0f7a4_17 (by decide) ?_
            refine j_icmp_ge (tgt := 42) dJ6_stringSize_0f7a4_19 (by decide) (fun c_19_283 => ?_) (fun c_19_283 => ?_)
            · exact absurd c_19_283 (by decide)
            · refine j_iload_n dJ6_stringSize_0f7a4_22 rfl ?_
              refine j_iload_n dJ6_stringSize_0f7a4_23 rfl ?_
              refine j_icmp_le (tgt := 31) dJ6_stringSize_0f7a4_24 (by decide) (fun c_24_287 => ?_) (fun c_24_287 => ?_)
              · have hl3 : 1000 ≤ x.toInt.natAbs := by have := z_leI c_24_287 hi (show (-1000 : Int32).toInt = -1000 by decide); omega
                refine j_bipush (v := 10) dJ6_stringSize_0f7a4_31 (by decide) ?_
                refine j_iload_n dJ6_stringSize_0f7a4_33 rfl ?_
                refine j_imul dJ6_stringSize_0f7a4_34 ?_
                refine j_top (congrArg Value.int (show (10 : Int32) * (-1000) = (-10000) by decide)) ?_
                refine j_istore_n (lo' := [(2, _), (3, _), (0, _), (1, _)]) dJ6_stringSize_0f7a4_35 (by decide) rfl ?_
                refine j_iinc (v := 4) (lo' := [(3, _), (2, _), (0, _), (1, _)]) dJ6_stringSize_0f7a4_36 rfl (by decide) (by decide) rfl ?_
                refine j_goto (tgt := 16) dJ6_stringSize_0f7a4_39 (by decide) ?_
                refine j_iload_n dJ6_stringSize_0f7a4_16 rfl ?_
                refine j_bipush (v := 10) dJ6_stringSize_0f7a4_17 (by decide) ?_
                refine j_icmp_ge (tgt := 42) dJ6_stringSize_0f7a4_19 (by decide) (fun c_19_298 => ?_) (fun c_19_298 => ?_)
                · exact absurd c_19_298 (by decide)
                · refine j_iload_n dJ6_stringSize_0f7a4_22 rfl ?_
                  refine j_iload_n dJ6_stringSize_0f7a4_23 rfl ?_
                  refine j_icmp_le (tgt := 31) dJ6_stringSize_0f7a4_24 (by decide) (fun c_24_302 => ?_) (fun c_24_302 => ?_)
                  · have hl4 : 10000 ≤ x.toInt.natAbs := by have := z_leI c_24_302 hi (show (-10000 : Int32).toInt = -10000 by decide); omega
                    refine j_bipush (v := 10) dJ6_stringSize_0f7a4_31 (by decide) ?_
                    refine j_iload_n dJ6_stringSize_0f7a4_33 rfl ?_
                    refine j_imul dJ6_stringSize_0f7a4_34 ?_
                    refine j_top (congrArg Value.int (show (10 : Int32) * (-10000) = (-100000) by decide)) ?_
                    refine j_istore_n (lo' := [(2, _), (3, _), (0, _), (1, _)]) dJ6_stringSize_0f7a4_35 (by decide) rfl ?_
                    refine j_iinc (v := 5) (lo' := [(3, _), (2, _), (0, _), (1, _)]) dJ6_stringSize_0f7a4_36 rfl (by decide) (by decide) rfl ?_
                    refine j_goto (tgt := 16) dJ6_stringSize_0f7a4_39 (by decide) ?_
                    refine j_iload_n dJ6_stringSize_0f7a4_16 rfl ?_
                    refine j_bipush (v := 10) dJ6_stringSize_0f7a4_17 (by decide) ?_
                    refine j_icmp_ge (tgt := 42) dJ6_stringSize_0f7a4_19 (by decide) (fun c_19_313 => ?_) (fun c_19_313 => ?_)
                    · exact absurd c_19_313 (by decide)
                    · refine j_iload_n dJ6_stringSize_0f7a4_22 rfl ?_
                      refine j_iload_n dJ6_stringSize_0f7a4_23 rfl ?_
                      refine j_icmp_le (tgt := 31) dJ6_stringSize_0f7a4_24 (by decide) (fun c_24_317 => ?_) (fun c_24_317 => ?_)
                      · have hl5 : 100000 ≤ x.toInt.natAbs := by have := z_leI c_24_317 hi (show (-100000 : Int32).toInt = -100000 by decide); omega
                        refine j_bipush (v := 10) dJ6_stringSize_0f7a4_31 (by decide) ?_
                        refine j_iload_n dJ6_stringSize_0f7a4_33 rfl ?_
                        refine j_imul dJ6_stringSize_0f7a4_34 ?_
                        refine j_top (congrArg Value.int (show (10 : Int32) * (-100000) = (-1000000) by decide)) ?_
                        refine j_istore_n (lo' := [(2, _), (3, _), (0, _), (1, _)]) dJ6_stringSize_0f7a4_35 (by decide) rfl ?_
                        refine j_iinc (v := 6) (lo' := [(3, _), (2, _), (0, _), (1, _)]) dJ6_stringSize_0f7a4_36 rfl (by decide) (by decide) rfl ?_
                        refine j_goto (tgt := 16) dJ6_stringSize_0f7a4_39 (by decide) ?_
                        refine j_iload_n dJ6_stringSize_0f7a4_16 rfl ?_
                        refine j_bipush (v := 10) dJ6_stringSize_0f7a4_17 (by decide) ?_
                        refine j_icmp_ge (tgt := 42) dJ6_stringSize_0f7a4_19 (by decide) (fun c_19_328 => ?_) (fun c_19_328 => ?_)
                        · exact absurd c_19_328 (by decide)
                        · refine j_iload_n dJ6_stringSize_0f7a4_22 rfl ?_
                          refine j_iload_n dJ6_stringSize_0f7a4_23 rfl ?_
                          refine j_icmp_le (tgt := 31) dJ6_stringSize_0f7a4_24 (by decide) (fun c_24_332 => ?_) (fun c_24_332 => ?_)
                          · have hl6 : 1000000 ≤ x.toInt.natAbs := by have := z_leI c_24_332 hi (show (-1000000 : Int32).toInt = -1000000 by decide); omega
                            refine j_bipush (v := 10) dJ6_stringSize_0f7a4_31 (by decide) ?_
                            refine j_iload_n dJ6_stringSize_0f7a4_33 rfl ?_
                            refine j_imul dJ6_stringSize_0f7a4_34 ?_
                            refine j_top (congrArg Value.int (show (10 : Int32) * (-1000000) = (-10000000) by decide)) ?_
                            refine j_istore_n (lo' := [(2, _), (3, _), (0, _), (1, _)]) dJ6_stringSize_0f7a4_35 (by decide) rfl ?_
                            refine j_iinc (v := 7) (lo' := [(3, _), (2, _), (0, _), (1, _)]) dJ6_stringSize_0f7a4_36 rfl (by decide) (by decide) rfl ?_
                            refine j_goto (tgt := 16) dJ6_stringSize_0f7a4_39 (by decide) ?_
                            refine j_iload_n dJ6_stringSize_0f7a4_16 rfl ?_
                            refine j_bipush (v := 10) dJ6_stringSize_0f7a4_17 (by decide) ?_
                            refine j_icmp_ge (tgt := 42) dJ6_stringSize_0f7a4_19 (by decide) (fun c_19_343 => ?_) (fun c_19_343 => ?_)
                            · exact absurd c_19_343 (by decide)
                            · refine j_iload_n dJ6_stringSize_0f7a4_22 rfl ?_
                              refine j_iload_n dJ6_stringSize_0f7a4_23 rfl ?_
                              refine j_icmp_le (tgt := 31) dJ6_stringSize_0f7a4_24 (by decide) (fun c_24_347 => ?_) (fun c_24_347 => ?_)
                              · have hl7 : 10000000 ≤ x.toInt.natAbs := by have := z_leI c_24_347 hi (show (-10000000 : Int32).toInt = -10000000 by decide); omega
                                refine j_bipush (v := 10) dJ6_stringSize_0f7a4_31 (by decide) ?_
                                refine j_iload_n dJ6_stringSize_0f7a4_33 rfl ?_
                                refine j_imul dJ6_stringSize_0f7a4_34 ?_
                                refine j_top (congrArg Value.int (show (10 : Int32) * (-10000000) = (-100000000) by decide)) ?_
                                refine j_istore_n (lo' := [(2, _), (3, _), (0, _), (1, _)]) dJ6_stringSize_0f7a4_35 (by decide) rfl ?_
                                refine j_iinc (v := 8) (lo' := [(3, _), (2, _), (0, _), (1, _)]) dJ6_stringSize_0f7a4_36 rfl (by decide) (by decide) rfl ?_
                                refine j_goto (tgt := 16) dJ6_stringSize_0f7a4_39 (by decide) ?_
                                refine j_iload_n dJ6_stringSize_0f7a4_16 rfl ?_
                                refine j_bipush (v := 10) dJ6_stringSize_0f7a4_17 (by decide) ?_
                                refine j_icmp_ge (tgt := 42) dJ6_stringSize_0f7a4_19 (by decide) (fun c_19_358 => ?_) (fun c_19_358 => ?_)
                                · exact absurd c_19_358 (by decide)
                                · refine j_iload_n dJ6_stringSize_0f7a4_22 rfl ?_
                                  refine j_iload_n dJ6_stringSize_0f7a4_23 rfl ?_
                                  refine j_icmp_le (tgt := 31) dJ6_stringSize_0f7a4_24 (by decide) (fun c_24_362 => ?_) (fun c_24_362 => ?_)
                                  · have hl8 : 100000000 ≤ x.toInt.natAbs := by have := z_leI c_24_362 hi (show (-100000000 : Int32).toInt = -100000000 by decide); omega
                                    refine j_bipush (v := 10) dJ6_stringSize_0f7a4_31 (by decide) ?_
                                    refine j_iload_n dJ6_stringSize_0f7a4_33 rfl ?_
                                    refine j_imul dJ6_stringSize_0f7a4_34 ?_
                                    refine j_top (congrArg Value.int (show (10 : Int32) * (-100000000) = (-1000000000) by decide)) ?_
                                    refine j_istore_n (lo' := [(2, _), (3, _), (0, _), (1, _)]) dJ6_stringSize_0f7a4_35 (by decide) rfl ?_
                                    refine j_iinc (v := 9) (lo' := [(3, _), (2, _), (0, _), (1, _)]) dJ6_stringSize_0f7a4_36 rfl (by decide) (by decide) rfl ?_
                                    refine j_goto (tgt := 16) dJ6_stringSize_0f7a4_39 (by decide) ?_
                                    refine j_iload_n dJ6_stringSize_0f7a4_16 rfl ?_
                                    refine j_bipush (v := 10) dJ6_stringSize_0f7a4_17 (by decide) ?_
                                    refine j_icmp_ge (tgt := 42) dJ6_stringSize_0f7a4_19 (by decide) (fun c_19_373 => ?_) (fun c_19_373 => ?_)
                                    · exact absurd c_19_373 (by decide)
                                    · refine j_iload_n dJ6_stringSize_0f7a4_22 rfl ?_
                                      refine j_iload_n dJ6_stringSize_0f7a4_23 rfl ?_
                                      refine j_icmp_le (tgt := 31) dJ6_stringSize_0f7a4_24 (by decide) (fun c_24_377 => ?_) (fun c_24_377 => ?_)
                                      · have hl9 : 1000000000 ≤ x.toInt.natAbs := by have := z_leI c_24_377 hi (show (-1000000000 : Int32).toInt = -1000000000 by decide); omega
                                        refine j_bipush (v := 10) dJ6_stringSize_0f7a4_31 (by decide) ?_
                                        refine j_iload_n dJ6_stringSize_0f7a4_33 rfl ?_
                                        refine j_imul dJ6_stringSize_0f7a4_34 ?_
                                        refine j_top (congrArg Value.int (show (10 : Int32) * (-1000000000) = (-1410065408) by decide)) ?_
                                        refine j_istore_n (lo' := [(2, _), (3, _), (0, _), (1, _)]) dJ6_stringSize_0f7a4_35 (by decide) rfl ?_
                                        refine j_iinc (v := 10) (lo' := [(3, _), (2, _), (0, _), (1, _)]) dJ6_stringSize_0f7a4_36 rfl (by decide) (by decide) rfl ?_
                                        refine j_goto (tgt := 16) dJ6_stringSize_0f7a4_39 (by decide) ?_
                                        refine j_iload_n dJ6_stringSize_0f7a4_16 rfl ?_
                                        refine j_bipush (v := 10) dJ6_stringSize_0f7a4_17 (by decide) ?_
                                        refine j_icmp_ge (tgt := 42) dJ6_stringSize_0f7a4_19 (by decide) (fun c_19_388 => ?_) (fun c_19_388 => ?_)
                                        · refine j_bipush (v := 10) dJ6_stringSize_0f7a4_42 (by decide) ?_
                                          refine j_iload_n dJ6_stringSize_0f7a4_44 rfl ?_
                                          refine j_iadd dJ6_stringSize_0f7a4_45 ?_
                                          refine j_iret dJ6_stringSize_0f7a4_46 rfl rfl ?_ (Nat.le_of_ble_eq_true rfl) (Nat.le_of_ble_eq_true rfl)
                                          have hd : z_dg x.toInt.natAbs = 10 := by unfold z_dg; rw [if_neg (show ¬ x.toInt.natAbs < 10 by omega), if_neg (show ¬ x.toInt.natAbs < 100 by omega), if_neg (show ¬ x.toInt.natAbs < 1000 by omega), if_neg (show ¬ x.toInt.natAbs < 10000 by omega), if_neg (show ¬ x.toInt.natAbs < 100000 by omega), if_neg (show ¬ x.toInt.natAbs < 1000000 by omega), if_neg (show ¬ x.toInt.natAbs < 10000000 by omega), if_neg (show ¬ x.toInt.natAbs < 100000000 by omega), if_neg (show ¬ x.toInt.natAbs < 1000000000 by omega)]
                                          have hz : z_sz x = 10 := by unfold z_sz; rw [if_neg hx, hd]
                                          rw [hz]
                                          exact ⟨rfl, rfl⟩
                                        · exact absurd (by decide) c_19_388
                                      · have hu : x.toInt.natAbs < 1000000000 := by have := z_nleI c_24_377 hi (show (-1000000000 : Int32).toInt = -1000000000 by decide); omega
                                        refine j_iload_n dJ6_stringSize_0f7a4_27 rfl ?_
                                        refine j_iload_n dJ6_stringSize_0f7a4_28 rfl ?_
                                        refine j_iadd dJ6_stringSize_0f7a4_29 ?_
                                        refine j_iret dJ6_stringSize_0f7a4_30 rfl rfl ?_ (Nat.le_of_ble_eq_true rfl) (Nat.le_of_ble_eq_true rfl)
                                        have hd : z_dg x.toInt.natAbs = 9 := z_dgL (k := 9) ⟨Or.inr hl8, hu⟩ (by omega)
                                        have hz : z_sz x = 9 := by unfold z_sz; rw [if_neg hx, hd]
                                        rw [hz]
                                        exact ⟨rfl, rfl⟩
                                  · have hu : x.toInt.natAbs < 100000000 := by have := z_nleI c_24_362 hi (show (-100000000 : Int32).toInt = -100000000 by decide); omega
                                    refine j_iload_n dJ6_stringSize_0f7a4_27 rfl ?_
                                    refine j_iload_n dJ6_stringSize_0f7a4_28 rfl ?_
                                    refine j_iadd dJ6_stringSize_0f7a4_29 ?_
                                    refine j_iret dJ6_stringSize_0f7a4_30 rfl rfl ?_ (Nat.le_of_ble_eq_true rfl) (Nat.le_of_ble_eq_true rfl)
                                    have hd : z_dg x.toInt.natAbs = 8 := z_dgL (k := 8) ⟨Or.inr hl7, hu⟩ (by omega)
                                    have hz : z_sz x = 8 := by unfold z_sz; rw [if_neg hx, hd]
                                    rw [hz]
                                    exact ⟨rfl, rfl⟩
                              · have hu : x.toInt.natAbs < 10000000 := by have := z_nleI c_24_347 hi (show (-10000000 : Int32).toInt = -10000000 by decide); omega
                                refine j_iload_n dJ6_stringSize_0f7a4_27 rfl ?_
                                refine j_iload_n dJ6_stringSize_0f7a4_28 rfl ?_
                                refine j_iadd dJ6_stringSize_0f7a4_29 ?_
                                refine j_iret dJ6_stringSize_0f7a4_30 rfl rfl ?_ (Nat.le_of_ble_eq_true rfl) (Nat.le_of_ble_eq_true rfl)
                                have hd : z_dg x.toInt.natAbs = 7 := z_dgL (k := 7) ⟨Or.inr hl6, hu⟩ (by omega)
                                have hz : z_sz x = 7 := by unfold z_sz; rw [if_neg hx, hd]
                                rw [hz]
                                exact ⟨rfl, rfl⟩
                          · have hu : x.toInt.natAbs < 1000000 := by have := z_nleI c_24_332 hi (show (-1000000 : Int32).toInt = -1000000 by decide); omega
                            refine j_iload_n dJ6_stringSize_0f7a4_27 rfl ?_
                            refine j_iload_n dJ6_stringSize_0f7a4_28 rfl ?_
                            refine j_iadd dJ6_stringSize_0f7a4_29 ?_
                            refine j_iret dJ6_stringSize_0f7a4_30 rfl rfl ?_ (Nat.le_of_ble_eq_true rfl) (Nat.le_of_ble_eq_true rfl)
                            have hd : z_dg x.toInt.natAbs = 6 := z_dgL (k := 6) ⟨Or.inr hl5, hu⟩ (by omega)
                            have hz : z_sz x = 6 := by unfold z_sz; rw [if_neg hx, hd]
                            rw [hz]
                            exact ⟨rfl, rfl⟩
                      · have hu : x.toInt.natAbs < 100000 := by have := z_nleI c_24_317 hi (show (-100000 : Int32).toInt = -100000 by decide); omega
                        refine j_iload_n dJ6_stringSize_0f7a4_27 rfl ?_
                        refine j_iload_n dJ6_stringSize_0f7a4_28 rfl ?_
                        refine j_iadd dJ6_stringSize_0f7a4_29 ?_
                        refine j_iret dJ6_stringSize_0f7a4_30 rfl rfl ?_ (Nat.le_of_ble_eq_true rfl) (Nat.le_of_ble_eq_true rfl)
                        have hd : z_dg x.toInt.natAbs = 5 := z_dgL (k := 5) ⟨Or.inr hl4, hu⟩ (by omega)
                        have hz : z_sz x = 5 := by unfold z_sz; rw [if_neg hx, hd]
                        rw [hz]
                        exact ⟨rfl, rfl⟩
                  · have hu : x.toInt.natAbs < 10000 := by have := z_nleI c_24_302 hi (show (-10000 : Int32).toInt = -10000 by decide); omega
                    refine j_iload_n dJ6_stringSize_0f7a4_27 rfl ?_
                    refine j_iload_n dJ6_stringSize_0f7a4_28 rfl ?_
                    refine j_iadd dJ6_stringSize_0f7a4_29 ?_
                    refine j_iret dJ6_stringSize_0f7a4_30 rfl rfl ?_ (Nat.le_of_ble_eq_true rfl) (Nat.le_of_ble_eq_true rfl)
                    have hd : z_dg x.toInt.natAbs = 4 := z_dgL (k := 4) ⟨Or.inr hl3, hu⟩ (by omega)
                    have hz : z_sz x = 4 := by unfold z_sz; rw [if_neg hx, hd]
                    rw [hz]
                    exact ⟨rfl, rfl⟩
              · have hu : x.toInt.natAbs < 1000 := by have := z_nleI c_24_287 hi (show (-1000 : Int32).toInt = -1000 by decide); omega
                refine j_iload_n dJ6_stringSize_0f7a4_27 rfl ?_
                refine j_iload_n dJ6_stringSize_0f7a4_28 rfl ?_
                refine j_iadd dJ6_stringSize_0f7a4_29 ?_
                refine j_iret dJ6_stringSize_0f7a4_30 rfl rfl ?_ (Nat.le_of_ble_eq_true rfl) (Nat.le_of_ble_eq_true rfl)
                have hd : z_dg x.toInt.natAbs = 3 := z_dgL (k := 3) ⟨Or.inr hl2, hu⟩ (by omega)
                have hz : z_sz x = 3 := by unfold z_sz; rw [if_neg hx, hd]
                rw [hz]
                exact ⟨rfl, rfl⟩
          · have hu : x.toInt.natAbs < 100 := by have := z_nleI c_24_272 hi (show (-100 : Int32).toInt = -100 by decide); omega
            refine j_iload_n dJ6_stringSize_0f7a4_27 rfl ?_
            refine j_iload_n dJ6_stringSize_0f7a4_28 rfl ?_
            refine j_iadd dJ6_stringSize_0f7a4_29 ?_
            refine j_iret dJ6_stringSize_0f7a4_30 rfl rfl ?_ (Nat.le_of_ble_eq_true rfl) (Nat.le_of_ble_eq_true rfl)
            have hd : z_dg x.toInt.natAbs = 2 := z_dgL (k := 2) ⟨Or.inr hl1, hu⟩ (by omega)
            have hz : z_sz x = 2 := by unfold z_sz; rw [if_neg hx, hd]
            rw [hz]
            exact ⟨rfl, rfl⟩
      · have hu : x.toInt.natAbs < 10 := by have := z_nleI c_24_257 hi (show (-10 : Int32).toInt = -10 by decide); omega
        refine j_iload_n dJ6_stringSize_0f7a4_27 rfl ?_
        refine j_iload_n dJ6_stringSize_0f7a4_28 rfl ?_
        refine j_iadd dJ6_stringSize_0f7a4_29 ?_
        refine j_iret dJ6_stringSize_0f7a4_30 rfl rfl ?_ (Nat.le_of_ble_eq_true rfl) (Nat.le_of_ble_eq_true rfl)
        have hd : z_dg x.toInt.natAbs = 1 := z_dgL (k := 1) ⟨Or.inl rfl, hu⟩ (by omega)
        have hz : z_sz x = 1 := by unfold z_sz; rw [if_neg hx, hd]
        rw [hz]
        exact ⟨rfl, rfl⟩
set_option maxRecDepth 100000 in
set_option maxHeartbeats 8000000 in
theorem sb_getC (hl : l.stackTraces = false) (w : z_W) (ρ m N p b : Nat) (f : Nat → Value) (e : z_E) (x : Int32) (hm : 1000 ≤ m) (hm2 : m % 64 = ρ) (gm : z_g w m = some (.inl (2, N, f))) (hby : z_by f) (hb : b ≠ m) (gb : z_g w b = some e) (hp : z_sz x ≤ p) (hpN : p ≤ N) (hN : N ≤ 5000) : z_Con G l mJ6_getChars_ba4f3 10 0 0 w [.int x, .int (nI p), .ref m] (fun v w9 => ∃ (r : Int32) (g : Nat → Value), v = some (.int r) ∧ z_fw ρ w w9 ∧ z_g w9 m = some (.inl (2, N, g)) ∧ z_by g ∧ z_g w9 b = some e) (fun _ _ => False) := by
  refine z_body hl (by decide) rfl (Nat.le_of_ble_eq_true rfl) ?_
  show z_J G l mJ6_getChars_ba4f3 _ 0 [(0, _), (1, _), (2, _)] [] _ 0 0
  refine j_iload_n dJ6_getChars_ba4f3_0 rfl ?_
  refine j_istore (lo' := [(5, _), (0, _), (1, _), (2, _)]) dJ6_getChars_ba4f3_1 (by decide) rfl ?_
  refine j_iload_n dJ6_getChars_ba4f3_3 rfl ?_
  refine j_if_ge (tgt := 11) dJ6_getChars_ba4f3_4 (by decide) (fun c_4_5 => ?_) (fun c_4_5 => ?_)
  · have hx : ¬ x < 0 := Int32.not_lt.mpr c_4_5
    refine j_iconst (v := 0) dJ6_getChars_ba4f3_11 (by decide) ?_
    refine j_istore (lo' := [(6, _), (5, _), (0, _), (1, _), (2, _)]) dJ6_getChars_ba4f3_12 (by decide) rfl ?_
    refine j_iload dJ6_getChars_ba4f3_14 rfl ?_
    refine j_if_ne (tgt := 22) dJ6_getChars_ba4f3_16 (by decide) (fun c_16_10 => ?_) (fun c_16_10 => ?_)
    · exact absurd rfl c_16_10
    · refine j_iload_n dJ6_getChars_ba4f3_19 rfl ?_
      refine j_ineg dJ6_getChars_ba4f3_20 ?_
      refine j_istore_n (lo' := [(0, _), (6, _), (5, _), (1, _), (2, _)]) dJ6_getChars_ba4f3_21 (by decide) rfl ?_
      have hi : (-x).toInt = -(x.toInt.natAbs : Int) := z_ngI hx
      have hsz : z_sz x = 0 + z_dg x.toInt.natAbs := by unfold z_sz; rw [if_neg hx]
      have hna : x.toInt.natAbs ≤ 2147483648 := by have h7 := Int32.le_toInt x; have h8 := Int32.toInt_lt x; omega
      have loop22 : ∀ (n9 : Nat) (w1 : z_W) (i : Int32) (W p1 : Nat) (F : Nat → Value), (W < n9) → (i.toInt = -(W : Int)) → (W ≤ 2147483648) → (0 + z_dg W ≤ p1) → (p1 ≤ N) → (z_fw ρ w w1) → (z_g w1 m = some (.inl (2, N, F))) → (z_by F) → (z_g w1 b = some e) → z_J G l mJ6_getChars_ba4f3 (10, 0, 0, w, (fun v w9 => ∃ (r : Int32) (g : Nat → Value), v = some (.int r) ∧ z_fw ρ w w9 ∧ z_g w9 m = some (.inl (2, N, g)) ∧ z_by g ∧ z_g w9 b = some e), (fun _ _ => False)) 22 [(0, .int i), (1, .int (nI p)), (2, .ref m), (5, .int (nI p1)), (6, .int 0)] [] w1 0 0 := by
        intro n9
        induction n9 with
        | zero => intro w1 i W p1 F k0 k1 kw kp kN k2 k3 k4 k5; exact absurd k0 (Nat.not_lt_zero _)
        | succ n9 ih =>
          intro w1 i W p1 F k0 k1 kw kp kN k2 k3 k4 k5
          refine j_iload_n dJ6_getChars_ba4f3_22 rfl ?_
          refine j_bipush (v := (-100)) dJ6_getChars_ba4f3_23 (by decide) ?_
          refine j_icmp_gt (tgt := 72) dJ6_getChars_ba4f3_25 (by decide) (fun c_25_26 => ?_) (fun c_25_26 => ?_)
          · have hW1 : W < 100 := by have c9 := Int32.lt_iff_toInt_lt.mp c_25_26; rw [k1, show (-100 : Int32).toInt = -100 from rfl] at c9; omega
            have hdg := z_dg_in W
            refine j_aload_n dJ6_getChars_ba4f3_72 rfl rfl ?_
            refine j_iinc (lo' := [(5, _), (0, _), (1, _), (2, _), (6, _)]) dJ6_getChars_ba4f3_73 rfl (z_dcI (by omega)) (by decide) rfl ?_
            refine j_iload dJ6_getChars_ba4f3_76 rfl ?_
            refine j_gets dJ6_getChars_ba4f3_78 (List.mem_of_getElem? (i := 5) rfl) rfl (z_w 703 ((lwg_3 178).trans rfl) (by decide +kernel)) ?_
            refine j_iload_n dJ6_getChars_ba4f3_81 rfl ?_
            refine j_ineg dJ6_getChars_ba4f3_82 ?_
            refine j_baldK (k := 3) (N := 100) dJ6_getChars_ba4f3_83 (fun U q9 h hk9 => h.2.2.2.2.2.1 3 q9 (by decide) hk9) (z_vpin (z_negI k1 (by omega)) hW1) ?_
            intro y6
            refine j_bastW (w' := _) dJ6_getChars_ba4f3_84 k3 (vp_in_nI (by omega) (by omega)) rfl ?_
            refine j_seal hm ?_
            intro w2 u2
            have g2_b := (u2.2.1 _ hb).trans k5
            have g2_m := u2.1
            refine j_iload_n dJ6_getChars_ba4f3_85 rfl ?_
            refine j_bipush (v := (-9)) dJ6_getChars_ba4f3_86 (by decide) ?_
            refine j_icmp_ge (tgt := 104) dJ6_getChars_ba4f3_88 (by decide) (fun c_88_44 => ?_) (fun c_88_44 => ?_)
            · refine j_iload dJ6_getChars_ba4f3_104 rfl ?_
              refine j_if_eq (tgt := 118) dJ6_getChars_ba4f3_106 (by decide) (fun c_106_46 => ?_) (fun c_106_46 => ?_)
              · refine j_iload dJ6_getChars_ba4f3_118 rfl ?_
                refine j_iret dJ6_getChars_ba4f3_120 rfl rfl ?_ (Nat.le_of_ble_eq_true rfl) (Nat.le_of_ble_eq_true rfl)
                exact ⟨_, _, rfl, (k2.tr (u2.fw hm hm2)), g2_m, z_byU k4 (z_fB _), g2_b⟩
              · exact absurd rfl c_106_46
            · have hW2 : 10 ≤ W := by have c9 : ¬ (-9 : Int32).toInt ≤ i.toInt := fun z => c_88_44 (Int32.le_iff_toInt_le.mpr z); rw [k1, show (-9 : Int32).toInt = -9 from rfl] at c9; omega
              have hd2 : z_dg W = 2 := z_dgL (k := 2) ⟨Or.inr (by show 10 ≤ _; omega), by show _ < 100; omega⟩ (by omega)
              refine j_aload_n dJ6_getChars_ba4f3_91 rfl rfl ?_
              refine j_iinc (lo' := [(5, _), (0, _), (1, _), (2, _), (6, _)]) dJ6_getChars_ba4f3_92 rfl (z_dcI (by omega)) (by decide) rfl ?_
              refine j_iload dJ6_getChars_ba4f3_95 rfl ?_
              refine j_gets dJ6_getChars_ba4f3_97 (List.mem_of_getElem? (i := 6) rfl) rfl (z_w 705 ((lwg_3 180).trans rfl) (by decide +kernel)) ?_
              refine j_iload_n dJ6_getChars_ba4f3_100 rfl ?_
              refine j_ineg dJ6_getChars_ba4f3_101 ?_
              refine j_baldK (k := 4) (N := 100) dJ6_getChars_ba4f3_102 (fun U q9 h hk9 => h.2.2.2.2.2.1 4 q9 (by decide) hk9) (z_vpin (z_negI k1 (by omega)) hW1) ?_
              intro y7
              refine j_bastW (w' := _) dJ6_getChars_ba4f3_103 g2_m (vp_in_nI (by omega) (by omega)) rfl ?_
              refine j_seal hm ?_
              intro w3 u3
              have g3_b := (u3.2.1 _ hb).trans g2_b
              have g3_m := u3.1
              refine j_iload dJ6_getChars_ba4f3_104 rfl ?_
              refine j_if_eq (tgt := 118) dJ6_getChars_ba4f3_106 (by decide) (fun c_106_67 => ?_) (fun c_106_67 => ?_)
              · refine j_iload dJ6_getChars_ba4f3_118 rfl ?_
                refine j_iret dJ6_getChars_ba4f3_120 rfl rfl ?_ (Nat.le_of_ble_eq_true rfl) (Nat.le_of_ble_eq_true rfl)
                exact ⟨_, _, rfl, ((k2.tr (u2.fw hm hm2)).tr (u3.fw hm hm2)), g3_m, z_byU (z_byU k4 (z_fB _)) (z_fB _), g3_b⟩
              · exact absurd rfl c_106_67
          · have hW1 : 100 ≤ W := by have c9 : ¬ (-100 : Int32).toInt < i.toInt := fun z => c_25_26 (Int32.lt_iff_toInt_lt.mpr z); rw [k1, show (-100 : Int32).toInt = -100 from rfl] at c9; omega
            have hdg := z_dg100 (w := W) hW1 kw
            refine j_iload_n dJ6_getChars_ba4f3_28 rfl ?_
            refine j_bipush (v := 100) dJ6_getChars_ba4f3_29 (by decide) ?_
            refine j_idiv dJ6_getChars_ba4f3_31 (by decide) ?_
            refine j_istore_n (lo' := [(3, _), (0, _), (1, _), (2, _), (5, _), (6, _)]) dJ6_getChars_ba4f3_32 (by decide) rfl ?_
            refine j_iload_n dJ6_getChars_ba4f3_33 rfl ?_
            refine j_bipush (v := 100) dJ6_getChars_ba4f3_34 (by decide) ?_
            refine j_imul dJ6_getChars_ba4f3_36 ?_
            refine j_iload_n dJ6_getChars_ba4f3_37 rfl ?_
            refine j_isub dJ6_getChars_ba4f3_38 ?_
            refine j_istore (lo' := [(4, _), (3, _), (0, _), (1, _), (2, _), (5, _), (6, _)]) dJ6_getChars_ba4f3_39 (by decide) rfl ?_
            refine j_iload_n dJ6_getChars_ba4f3_41 rfl ?_
            refine j_istore_n (lo' := [(0, _), (4, _), (3, _), (1, _), (2, _), (5, _), (6, _)]) dJ6_getChars_ba4f3_42 (by decide) rfl ?_
            refine j_aload_n dJ6_getChars_ba4f3_43 rfl rfl ?_
            refine j_iinc (lo' := [(5, _), (0, _), (4, _), (3, _), (1, _), (2, _), (6, _)]) dJ6_getChars_ba4f3_44 rfl (z_dcI (by omega)) (by decide) rfl ?_
            refine j_iload dJ6_getChars_ba4f3_47 rfl ?_
            refine j_gets dJ6_getChars_ba4f3_49 (List.mem_of_getElem? (i := 5) rfl) rfl (z_w 703 ((lwg_3 178).trans rfl) (by decide +kernel)) ?_
            refine j_iload dJ6_getChars_ba4f3_52 rfl ?_
            refine j_baldK (k := 3) (N := 100) dJ6_getChars_ba4f3_54 (fun U q9 h hk9 => h.2.2.2.2.2.1 3 q9 (by decide) hk9) (z_vpin (z_remI k1 kw) (Nat.mod_lt _ (by decide))) ?_
            intro y8
            refine j_bastW (w' := _) dJ6_getChars_ba4f3_55 k3 (vp_in_nI (by omega) (by omega)) rfl ?_
            refine j_seal hm ?_
            intro w4 u4
            have g4_b := (u4.2.1 _ hb).trans k5
            have g4_m := u4.1
            refine j_aload_n dJ6_getChars_ba4f3_56 rfl rfl ?_
            refine j_iinc (lo' := [(5, _), (0, _), (4, _), (3, _), (1, _), (2, _), (6, _)]) dJ6_getChars_ba4f3_57 rfl (z_dcI (by omega)) (by decide) rfl ?_
            refine j_iload dJ6_getChars_ba4f3_60 rfl ?_
            refine j_gets dJ6_getChars_ba4f3_62 (List.mem_of_getElem? (i := 6) rfl) rfl (z_w 705 ((lwg_3 180).trans rfl) (by decide +kernel)) ?_
            refine j_iload dJ6_getChars_ba4f3_65 rfl ?_
            refine j_baldK (k := 4) (N := 100) dJ6_getChars_ba4f3_67 (fun U q9 h hk9 => h.2.2.2.2.2.1 4 q9 (by decide) hk9) (z_vpin (z_remI k1 kw) (Nat.mod_lt _ (by decide))) ?_
            intro y9
            refine j_bastW (w' := _) dJ6_getChars_ba4f3_68 g4_m (vp_in_nI (by omega) (by omega)) rfl ?_
            refine j_seal hm ?_
            intro w5 u5
            have g5_b := (u5.2.1 _ hb).trans g4_b
            have g5_m := u5.1
            refine j_goto (tgt := 22) dJ6_getChars_ba4f3_69 (by decide) ?_
            exact j_lo2 (ih w5 _ (W / 100) (p1 - 1 - 1) _ (by omega) (z_divI k1 kw) (by omega) (by have := z_dg100 (w := W) hW1 kw; omega) (by omega) ((k2.tr (u4.fw hm hm2)).tr (u5.fw hm hm2)) g5_m (z_byU (z_byU k4 (z_fB _)) (z_fB _)) g5_b) (z_q1 rfl (z_q1 rfl (z_q1 rfl (z_q1 rfl (z_q1 rfl z_q0)))))
      exact j_lo2 (loop22 (x.toInt.natAbs + 1) w _ x.toInt.natAbs p f (by omega) hi hna (by omega) hpN z_fw.rf gm hby gb) (z_q1 rfl (z_q1 rfl (z_q1 rfl (z_q1 rfl (z_q1 rfl z_q0)))))
  · have hx : x < 0 := Int32.not_le.mp c_4_5
    refine j_iconst (v := 1) dJ6_getChars_ba4f3_7 (by decide) ?_
    refine j_goto (tgt := 12) dJ6_getChars_ba4f3_8 (by decide) ?_
    refine j_istore (lo' := [(6, _), (5, _), (0, _), (1, _), (2, _)]) dJ6_getChars_ba4f3_12 (by decide) rfl ?_
    refine j_iload dJ6_getChars_ba4f3_14 rfl ?_
    refine j_if_ne (tgt := 22) dJ6_getChars_ba4f3_16 (by decide) (fun c_16_118 => ?_) (fun c_16_118 => ?_)
    · have hi : (x).toInt = -(x.toInt.natAbs : Int) := z_poI hx
      have hsz : z_sz x = 1 + z_dg x.toInt.natAbs := by unfold z_sz; rw [if_pos hx]
      have hna : x.toInt.natAbs ≤ 2147483648 := by have h7 := Int32.le_toInt x; have h8 := Int32.toInt_lt x; omega
      have loop22 : ∀ (n9 : Nat) (w6 : z_W) (i : Int32) (W p1 : Nat) (F : Nat → Value), (W < n9) → (i.toInt = -(W : Int)) → (W ≤ 2147483648) → (1 + z_dg W ≤ p1) → (p1 ≤ N) → (z_fw ρ w w6) → (z_g w6 m = some (.inl (2, N, F))) → (z_by F) → (z_g w6 b = some e) → z_J G l mJ6_getChars_ba4f3 (10, 0, 0, w, (fun v w9 => ∃ (r : Int32) (g : Nat → Value), v = some (.int r) ∧ z_fw ρ w w9 ∧ z_g w9 m = some (.inl (2, N, g)) ∧ z_by g ∧ z_g w9 b = some e), (fun _ _ => False)) 22 [(0, .int i), (1, .int (nI p)), (2, .ref m), (5, .int (nI p1)), (6, .int 1)] [] w6 0 0 := by
        intro n9
        induction n9 with
        | zero => intro w6 i W p1 F k0 k1 kw kp kN k2 k3 k4 k5; exact absurd k0 (Nat.not_lt_zero _)
        | succ n9 ih =>
          intro w6 i W p1 F k0 k1 kw kp kN k2 k3 k4 k5
          refine j_iload_n dJ6_getChars_ba4f3_22 rfl ?_
          refine j_bipush (v := (-100)) dJ6_getChars_ba4f3_23 (by decide) ?_
          refine j_icmp_gt (tgt := 72) dJ6_getChars_ba4f3_25 (by decide) (fun c_25_130 => ?_) (fun c_25_130 => ?_)
          · have hW1 : W < 100 := by have c9 := Int32.lt_iff_toInt_lt.mp c_25_130; rw [k1, show (-100 : Int32).toInt = -100 from rfl] at c9; omega
            have hdg := z_dg_in W
            refine j_aload_n dJ6_getChars_ba4f3_72 rfl rfl ?_
            refine j_iinc (lo' := [(5, _), (0, _), (1, _), (2, _), (6, _)]) dJ6_getChars_ba4f3_73 rfl (z_dcI (by omega)) (by decide) rfl ?_
            refine j_iload dJ6_getChars_ba4f3_76 rfl ?_
            refine j_gets dJ6_getChars_ba4f3_78 (List.mem_of_getElem? (i := 5) rfl) rfl (z_w 703 ((lwg_3 178).trans rfl) (by decide +kernel)) ?_
            refine j_iload_n dJ6_getChars_ba4f3_81 rfl ?_
            refine j_ineg dJ6_getChars_ba4f3_82 ?_
            refine j_baldK (k := 3) (N := 100) dJ6_getChars_ba4f3_83 (fun U q9 h hk9 => h.2.2.2.2.2.1 3 q9 (by decide) hk9) (z_vpin (z_negI k1 (by omega)) hW1) ?_
            intro y10
            refine j_bastW (w' := _) dJ6_getChars_ba4f3_84 k3 (vp_in_nI (by omega) (by omega)) rfl ?_
            refine j_seal hm ?_
            intro w7 u7
            have g7_b := (u7.2.1 _ hb).trans k5
            have g7_m := u7.1
            refine j_iload_n dJ6_getChars_ba4f3_85 rfl ?_
            refine j_bipush (v := (-9)) dJ6_getChars_ba4f3_86 (by decide) ?_
            refine j_icmp_ge (tgt := 104) dJ6_getChars_ba4f3_88 (by decide) (fun c_88_148 => ?_) (fun c_88_148 => ?_)
            · refine j_iload dJ6_getChars_ba4f3_104 rfl ?_
              refine j_if_eq (tgt := 118) dJ6_getChars_ba4f3_106 (by decide) (fun c_106_150 => ?_) (fun c_106_150 => ?_)
              · exact absurd c_106_150 (by decide)
              · refine j_aload_n dJ6_getChars_ba4f3_109 rfl rfl ?_
                refine j_iinc (lo' := [(5, _), (0, _), (1, _), (2, _), (6, _)]) dJ6_getChars_ba4f3_110 rfl (z_dcI (by omega)) (by decide) rfl ?_
                refine j_iload dJ6_getChars_ba4f3_113 rfl ?_
                refine j_bipush (v := 45) dJ6_getChars_ba4f3_115 (by decide) ?_
                refine j_bastW (w' := _) dJ6_getChars_ba4f3_117 g7_m (vp_in_nI (by omega) (by omega)) rfl ?_
                refine j_seal hm ?_
                intro w8 u8
                have g8_b := (u8.2.1 _ hb).trans g7_b
                have g8_m := u8.1
                refine j_iload dJ6_getChars_ba4f3_118 rfl ?_
                refine j_iret dJ6_getChars_ba4f3_120 rfl rfl ?_ (Nat.le_of_ble_eq_true rfl) (Nat.le_of_ble_eq_true rfl)
                exact ⟨_, _, rfl, ((k2.tr (u7.fw hm hm2)).tr (u8.fw hm hm2)), g8_m, z_byU (z_byU k4 (z_fB _)) (z_fB _), g8_b⟩
            · have hW2 : 10 ≤ W := by have c9 : ¬ (-9 : Int32).toInt ≤ i.toInt := fun z => c_88_148 (Int32.le_iff_toInt_le.mpr z); rw [k1, show (-9 : Int32).toInt = -9 from rfl] at c9; omega
              have hd2 : z_dg W = 2 := z_dgL (k := 2) ⟨Or.inr (by show 10 ≤ _; omega), by show _ < 100; omega⟩ (by omega)
              refine j_aload_n dJ6_getChars_ba4f3_91 rfl rfl ?_
              refine j_iinc (lo' := [(5, _), (0, _), (1, _), (2, _), (6, _)]) dJ6_getChars_ba4f3_92 rfl (z_dcI (by omega)) (by decide) rfl ?_
              refine j_iload dJ6_getChars_ba4f3_95 rfl ?_
              refine j_gets dJ6_getChars_ba4f3_97 (List.mem_of_getElem? (i := 6) rfl) rfl (z_w 705 ((lwg_3 180).trans rfl) (by decide +kernel)) ?_
              refine j_iload_n dJ6_getChars_ba4f3_100 rfl ?_
              refine j_ineg dJ6_getChars_ba4f3_101 ?_
              refine j_baldK (k := 4) (N := 100) dJ6_getChars_ba4f3_102 (fun U q9 h hk9 => h.2.2.2.2.2.1 4 q9 (by decide) hk9) (z_vpin (z_negI k1 (by omega)) hW1) ?_
              intro y11
              refine j_bastW (w' := _) dJ6_getChars_ba4f3_103 g7_m (vp_in_nI (by omega) (by omega)) rfl ?_
              refine j_seal hm ?_
              intro w9 u9
              have g9_b := (u9.2.1 _ hb).trans g7_b
              have g9_m := u9.1
              refine j_iload dJ6_getChars_ba4f3_104 rfl ?_
              refine j_if_eq (tgt := 118) dJ6_getChars_ba4f3_106 (by decide) (fun c_106_180 => ?_) (fun c_106_180 => ?_)
              · exact absurd c_106_180 (by decide)
              · refine j_aload_n dJ6_getChars_ba4f3_109 rfl rfl ?_
                refine j_iinc (lo' := [(5, _), (0, _), (1, _), (2, _), (6, _)]) dJ6_getChars_ba4f3_110 rfl (z_dcI (by omega)) (by decide) rfl ?_
                refine j_iload dJ6_getChars_ba4f3_113 rfl ?_
                refine j_bipush (v := 45) dJ6_getChars_ba4f3_115 (by decide) ?_
                refine j_bastW (w' := _) dJ6_getChars_ba4f3_117 g9_m (vp_in_nI (by omega) (by omega)) rfl ?_
                refine j_seal hm ?_
                intro w10 u10
                have g10_b := (u10.2.1 _ hb).trans g9_b
                have g10_m := u10.1
                refine j_iload dJ6_getChars_ba4f3_118 rfl ?_
                refine j_iret dJ6_getChars_ba4f3_120 rfl rfl ?_ (Nat.le_of_ble_eq_true rfl) (Nat.le_of_ble_eq_true rfl)
                exact ⟨_, _, rfl, (((k2.tr (u7.fw hm hm2)).tr (u9.fw hm hm2)).tr (u10.fw hm hm2)), g10_m, z_byU (z_byU (z_byU k4 (z_fB _)) (z_fB _)) (z_fB _), g10_b⟩
          · have hW1 : 100 ≤ W := by have c9 : ¬ (-100 : Int32).toInt < i.toInt := fun z => c_25_130 (Int32.lt_iff_toInt_lt.mpr z); rw [k1, show (-100 : Int32).toInt = -100 from rfl] at c9; omega
            have hdg := z_dg100 (w := W) hW1 kw
            refine j_iload_n dJ6_getChars_ba4f3_28 rfl ?_
            refine j_bipush (v := 100) dJ6_getChars_ba4f3_29 (by decide) ?_
            refine j_idiv dJ6_getChars_ba4f3_31 (by decide) ?_
            refine j_istore_n (lo' := [(3, _), (0, _), (1, _), (2, _), (5, _), (6, _)]) dJ6_getChars_ba4f3_32 (by decide) rfl ?_
            refine j_iload_n dJ6_getChars_ba4f3_33 rfl ?_
            refine j_bipush (v := 100) dJ6_getChars_ba4f3_34 (by decide) ?_
            refine j_imul dJ6_getChars_ba4f3_36 ?_
            refine j_iload_n dJ6_getChars_ba4f3_37 rfl ?_
            refine j_isub dJ6_getChars_ba4f3_38 ?_
            refine j_istore (lo' := [(4, _), (3, _), (0, _), (1, _), (2, _), (5, _), (6, _)]) dJ6_getChars_ba4f3_39 (by decide) rfl ?_
            refine j_iload_n dJ6_getChars_ba4f3_41 rfl ?_
            refine j_istore_n (lo' := [(0, _), (4, _), (3, _), (1, _), (2, _), (5, _), (6, _)]) dJ6_getChars_ba4f3_42 (by decide) rfl ?_
            refine j_aload_n dJ6_getChars_ba4f3_43 rfl rfl ?_
            refine j_iinc (lo' := [(5, _), (0, _), (4, _), (3, _), (1, _), (2, _), (6, _)]) dJ6_getChars_ba4f3_44 rfl (z_dcI (by omega)) (by decide) rfl ?_
            refine j_iload dJ6_getChars_ba4f3_47 rfl ?_
            refine j_gets dJ6_getChars_ba4f3_49 (List.mem_of_getElem? (i := 5) rfl) rfl (z_w 703 ((lwg_3 178).trans rfl) (by decide +kernel)) ?_
            refine j_iload dJ6_getChars_ba4f3_52 rfl ?_
            refine j_baldK (k := 3) (N := 100) dJ6_getChars_ba4f3_54 (fun U q9 h hk9 => h.2.2.2.2.2.1 3 q9 (by decide) hk9) (z_vpin (z_remI k1 kw) (Nat.mod_lt _ (by decide))) ?_
            intro y12
            refine j_bastW (w' := _) dJ6_getChars_ba4f3_55 k3 (vp_in_nI (by omega) (by omega)) rfl ?_
            refine j_seal hm ?_
            intro w11 u11
            have g11_b := (u11.2.1 _ hb).trans k5
            have g11_m := u11.1
            refine j_aload_n dJ6_getChars_ba4f3_56 rfl rfl ?_
            refine j_iinc (lo' := [(5, _), (0, _), (4, _), (3, _), (1, _), (2, _), (6, _)]) dJ6_getChars_ba4f3_57 rfl (z_dcI (by omega)) (by decide) rfl ?_
            refine j_iload dJ6_getChars_ba4f3_60 rfl ?_
            refine j_gets dJ6_getChars_ba4f3_62 (List.mem_of_getElem? (i := 6) rfl) rfl (z_w 705 ((lwg_3 180).trans rfl) (by decide +kernel)) ?_
            refine j_iload dJ6_getChars_ba4f3_65 rfl ?_
            refine j_baldK (k := 4) (N := 100) dJ6_getChars_ba4f3_67 (fun U q9 h hk9 => h.2.2.2.2.2.1 4 q9 (by decide) hk9) (z_vpin (z_remI k1 kw) (Nat.mod_lt _ (by decide))) ?_
            intro y13
            refine j_bastW (w' := _) dJ6_getChars_ba4f3_68 g11_m (vp_in_nI (by omega) (by omega)) rfl ?_
            refine j_seal hm ?_
            intro w12 u12
            have g12_b := (u12.2.1 _ hb).trans g11_b
            have g12_m := u12.1
            refine j_goto (tgt := 22) dJ6_getChars_ba4f3_69 (by decide) ?_
            exact j_lo2 (ih w12 _ (W / 100) (p1 - 1 - 1) _ (by omega) (z_divI k1 kw) (by omega) (by have := z_dg100 (w := W) hW1 kw; omega) (by omega) ((k2.tr (u11.fw hm hm2)).tr (u12.fw hm hm2)) g12_m (z_byU (z_byU k4 (z_fB _)) (z_fB _)) g12_b) (z_q1 rfl (z_q1 rfl (z_q1 rfl (z_q1 rfl (z_q1 rfl z_q0)))))
      exact j_lo2 (loop22 (x.toInt.natAbs + 1) w _ x.toInt.natAbs p f (by omega) hi hna (by omega) hpN z_fw.rf gm hby gb) (z_q1 rfl (z_q1 rfl (z_q1 rfl (z_q1 rfl (z_q1 rfl z_q0)))))
    · exact absurd c_16_118 (by decide)
set_option maxRecDepth 100000 in
set_option maxHeartbeats 8000000 in
theorem sb_apI0 (hl : l.stackTraces = false) (w : z_W) (ρ a n N : Nat) (x : Int32) (h : z_sb w ρ a n N) (hq : n + z_sz x ≤ 2 * N + 2) (hN : z_gr N (n + z_sz x) ≤ 5000) (hρ : ρ < 64) (hf : z_fn w) : z_Con G l mJ5_append_c97b9 16 (z_gr N (n + z_sz x) / 16 - N / 16) (2 * (z_gr N (n + z_sz x) - N)) w [.ref a, .int x] (fun v w9 => v = some (.ref a) ∧ z_fw ρ w w9 ∧ z_sb w9 ρ a (n + z_sz x) (z_gr N (n + z_sz x))) (fun _ _ => False) := by
  obtain ⟨h1, h2, h3, h4, h5, m, f, ml, a1, a2, a3, ga, gm, a6⟩ := id h
  have hge := z_gr_ge hq
  have hle := z_gr_le (N := N) (m := n + z_sz x)
  refine z_body hl (by decide) rfl (Nat.le_of_ble_eq_true rfl) ?_
  show z_J G l mJ5_append_c97b9 _ 0 [(0, _), (1, _)] [] _ 0 0
  refine j_aload_n dJ5_append_c97b9_0 rfl rfl ?_
  refine j_getf dJ5_append_c97b9_1 fJ5_79 ga rfl ?_
  refine j_istore_n (lo' := [(2, _), (0, _), (1, _)]) dJ5_append_c97b9_4 (by decide) rfl ?_
  refine j_iload_n dJ5_append_c97b9_5 rfl ?_
  refine j_iload_n dJ5_append_c97b9_6 rfl ?_
  refine j_callS dJ5_append_c97b9_7 kJ6_stringSize_0f7a4 lJ5_245 stJ6_stringSize_0f7a4 (sb_size hl w x) (Nat.le_of_ble_eq_true rfl) ⟨(by show _ ≤ z_gr N (n + z_sz x) / 16 - N / 16; omega), (by show _ ≤ 2 * (z_gr N (n + z_sz x) - N); omega)⟩ rfl (Nat.le_of_ble_eq_true rfl) rfl rfl (fun _ _ h => h.elim) ?_
  rintro _ _ ⟨rfl, hw14⟩
  refine j_w w hw14 ?_
  refine j_iadd dJ5_append_c97b9_10 ?_
  refine j_top (congrArg Value.int (nI_add n (z_sz x))) ?_
  refine j_istore_n (lo' := [(3, _), (2, _), (0, _), (1, _)]) dJ5_append_c97b9_11 (by decide) rfl ?_
  refine j_aload_n dJ5_append_c97b9_12 rfl rfl ?_
  refine j_iload_n dJ5_append_c97b9_13 rfl ?_
  refine j_callP (x := yJ5_isLatin1_aae02) (q := (RJ4, TJ4, 4)) dJ5_append_c97b9_14 kJ5_ensureCapacityInternal_d00df lJ5_100 inJ5_ensureCapacityInternal_d00df ⟨(z_w 640 ((lwg_3 115).trans rfl) (by decide +kernel)), rfl, (z_wn 603 ((lwg_3 78).trans rfl) (by decide +kernel))⟩ ga rfl (sb_ens hl w ρ a n N (n + z_sz x) h (by omega) (by omega) hρ hf) (Nat.le_of_ble_eq_true rfl) ⟨(by show _ ≤ z_gr N (n + z_sz x) / 16 - N / 16; omega), (by show _ ≤ 2 * (z_gr N (n + z_sz x) - N); omega)⟩ rfl (Nat.le_of_ble_eq_true rfl) rfl rfl (fun _ _ h => h.elim) ?_
  rintro _ w1 ⟨rfl, fw1, hs1⟩
  have hf1 := fw1.2.1 hf
  obtain ⟨-, -, h3_1, h4_1, h5_1, m_1, f_1, ml_1, a1_1, a2_1, a3_1, ga_1, gm_1, a6_1⟩ := id hs1
  refine j_aload_n dJ5_append_c97b9_17 rfl rfl ?_
  refine j_callU (q := (RJ4, TJ4, 4)) dJ5_append_c97b9_18 kJ5_isLatin1_aae02 cuJ5_83_J4 ga_1 rfl (sb_lat hl w1 _ _ _ _ ga_1) (Nat.le_of_ble_eq_true rfl) ⟨(by show _ ≤ z_gr N (n + z_sz x) / 16 - N / 16; omega), (by show _ ≤ 2 * (z_gr N (n + z_sz x) - N); omega)⟩ rfl (Nat.le_of_ble_eq_true rfl) rfl rfl (fun _ _ h => h.elim) ?_
  rintro _ _ ⟨rfl, hw15⟩
  refine j_w w1 hw15 ?_
  refine j_if_eq (tgt := 37) dJ5_append_c97b9_21 (by decide) (fun c_21_23 => ?_) (fun c_21_23 => ?_)
  · exact absurd c_21_23 (by decide)
  · refine j_iload_n dJ5_append_c97b9_24 rfl ?_
    refine j_iload_n dJ5_append_c97b9_25 rfl ?_
    refine j_aload_n dJ5_append_c97b9_26 rfl rfl ?_
    refine j_getf dJ5_append_c97b9_27 fJ5_15 ga_1 rfl ?_
    refine j_callS dJ5_append_c97b9_30 kJ6_getChars_ba4f3 lJ5_248 stJ6_getChars_ba4f3 (sb_getC hl w1 ρ m_1 (z_gr N (n + z_sz x)) (n + z_sz x) a f_1 _ x a1_1 a2_1 gm_1 a6_1 (Ne.symm a3_1) ga_1 (by omega) hge hN) (Nat.le_of_ble_eq_true rfl) ⟨(by show _ ≤ z_gr N (n + z_sz x) / 16 - N / 16; omega), (by show _ ≤ 2 * (z_gr N (n + z_sz x) - N); omega)⟩ rfl (Nat.le_of_ble_eq_true rfl) rfl rfl (fun _ _ h => h.elim) ?_
    rintro _ w2 ⟨r2, f9_2, rfl, fw2, gm9_2, by9_2, ga9_2⟩
    have hf2 := fw2.2.1 hf1
    refine j_pop dJ5_append_c97b9_33 rfl ?_
    refine j_goto (tgt := 48) dJ5_append_c97b9_34 (by decide) ?_
    refine j_aload_n dJ5_append_c97b9_48 rfl rfl ?_
    refine j_iload_n dJ5_append_c97b9_49 rfl ?_
    refine j_put (w' := _) dJ5_append_c97b9_50 fJ5_79 tJ4_3 ga9_2 ⟨rfl, rfl⟩ rfl ?_
    refine j_seal h1 ?_
    intro w3 u3
    have g3_m := (u3.2.1 _ a3_1).trans gm9_2
    have g3_a := u3.1
    have hf3 := u3.2.2.2 hf2
    refine j_aload_n dJ5_append_c97b9_53 rfl rfl ?_
    refine j_aret dJ5_append_c97b9_54 rfl (Or.inl ⟨_, rfl⟩) rfl ?_ (by show _ ≤ z_gr N (n + z_sz x) / 16 - N / 16; omega) (by show _ ≤ 2 * (z_gr N (n + z_sz x) - N); omega)
    exact ⟨rfl, ((fw1.tr fw2).tr (u3.fw h1 h2)), h1, h2, hge, by omega, hN, m_1, _, ml_1, a1_1, a2_1, a3_1, g3_a, g3_m, by9_2⟩
set_option maxRecDepth 100000 in
set_option maxHeartbeats 8000000 in
theorem sb_apI (hl : l.stackTraces = false) (w : z_W) (ρ a n N : Nat) (x : Int32) (h : z_sb w ρ a n N) (hq : n + z_sz x ≤ 2 * N + 2) (hN : z_gr N (n + z_sz x) ≤ 5000) (hρ : ρ < 64) (hf : z_fn w) : z_Con G l mJ4_append_bf812 17 (z_gr N (n + z_sz x) / 16 - N / 16) (2 * (z_gr N (n + z_sz x) - N)) w [.ref a, .int x] (fun v w9 => v = some (.ref a) ∧ z_fw ρ w w9 ∧ z_sb w9 ρ a (n + z_sz x) (z_gr N (n + z_sz x))) (fun _ _ => False) := by
  obtain ⟨h1, h2, h3, h4, h5, m, f, ml, a1, a2, a3, ga, gm, a6⟩ := id h
  refine z_body hl (by decide) rfl (Nat.le_of_ble_eq_true rfl) ?_
  show z_J G l mJ4_append_bf812 _ 0 [(0, _), (1, _)] [] _ 0 0
  refine j_aload_n dJ4_append_bf812_0 rfl rfl ?_
  refine j_iload_n dJ4_append_bf812_1 rfl ?_
  refine j_callSu (q := (RJ4, TJ4, 4)) dJ4_append_bf812_2 kJ5_append_c97b9 ⟨lJ4_53, (z_w 1970 ((lwg_9 5).trans rfl) (by decide +kernel)), (z_w 594 ((lwg_3 69).trans rfl) (by decide +kernel)), inJ5_append_c97b9, (by decide)⟩ ga rfl (sb_apI0 hl w ρ a n N x h hq hN hρ hf) (Nat.le_of_ble_eq_true rfl) ⟨(by show _ ≤ z_gr N (n + z_sz x) / 16 - N / 16; omega), (by show _ ≤ 2 * (z_gr N (n + z_sz x) - N); omega)⟩ rfl (Nat.le_of_ble_eq_true rfl) rfl rfl (fun _ _ h => h.elim) ?_
  rintro _ w1 ⟨rfl, fw1, hs1⟩
  have hf1 := fw1.2.1 hf
  refine j_pop dJ4_append_bf812_5 rfl ?_
  refine j_aload_n dJ4_append_bf812_6 rfl rfl ?_
  refine j_aret dJ4_append_bf812_7 rfl (Or.inl ⟨_, rfl⟩) rfl ?_ (by show _ ≤ z_gr N (n + z_sz x) / 16 - N / 16; omega) (by show _ ≤ 2 * (z_gr N (n + z_sz x) - N); omega)
  exact ⟨rfl, fw1, hs1⟩
theorem z_cst10 {U : State} {i q : Nat} {t : String × Nat × String} (h : z_cst G U) (hi : z_strs[i]? = some t) (hk : z_k G (50 + i) q) : ∃ f, z_vT G .byte q t.2.2.length f U ∧ ∀ j, j < t.2.2.length → ∃ x, f j = .int x ∧ fits .byte (.int x) = true := h.2.2.2.2.2.2.2.2.2.1 i q t hi hk
theorem z_strl {i : Nat} {t : String × Nat × String} (h : z_strs[i]? = some t) : t.2.2.length ≤ 30 := by
  have h1 := (List.all_eq_true.mp (show z_strs.all (fun t => decide (t.2.2.length ≤ 30)) = true by decide +kernel)) t (List.mem_of_getElem? h)
  simpa using h1
set_option maxRecDepth 100000 in
set_option maxHeartbeats 8000000 in
theorem sk_cod (hl : l.stackTraces = false) (w : z_W) (i : Nat) (t : String × Nat × String) (hi9 : z_strs[i]? = some t) (ht9 : t.1 = "LoopdefaultsModel" ∨ t.1 = "LoopdefaultsModel$Hearer") : z_Con G l mJ0_coder_7d493 10 0 0 w [.retAddr (10 + i)] (fun v w9 => v = some (.int 0) ∧ w9 = w) (fun _ _ => False) := by
  refine z_body hl (by decide) rfl (Nat.le_of_ble_eq_true rfl) ?_
  show z_J G l mJ0_coder_7d493 _ 0 [(0, _)] [] _ 0 0
  refine j_gets dJ0_coder_7d493_0 (List.mem_of_getElem? (i := 0) rfl) rfl (z_w 787 ((lwg_4 22).trans rfl) (by decide +kernel)) ?_
  refine j_if_eq (tgt := 13) dJ0_coder_7d493_3 (by decide) (fun c_3_3 => ?_) (fun c_3_3 => ?_)
  · exact absurd c_3_3 (by decide)
  · refine j_aload_n dJ0_coder_7d493_6 rfl rfl ?_
    refine j_getSK (k := 1) dJ0_coder_7d493_7 fJ0_15 hi9 ht9 (by decide) rfl ?_
    refine j_goto (tgt := 14) dJ0_coder_7d493_10 (by decide) ?_
    refine j_iret dJ0_coder_7d493_14 rfl rfl ?_ (Nat.le_of_ble_eq_true rfl) (Nat.le_of_ble_eq_true rfl)
    exact ⟨rfl, rfl⟩
set_option maxRecDepth 100000 in
set_option maxHeartbeats 8000000 in
theorem sk_len (hl : l.stackTraces = false) (w : z_W) (i : Nat) (t : String × Nat × String) (hi9 : z_strs[i]? = some t) (ht9 : t.1 = "LoopdefaultsModel" ∨ t.1 = "LoopdefaultsModel$Hearer") : z_Con G l mJ0_length_8abf5 11 0 0 w [.retAddr (10 + i)] (fun v w9 => v = some (.int (nI t.2.2.length)) ∧ w9 = w) (fun _ _ => False) := by
  refine z_body hl (by decide) rfl (Nat.le_of_ble_eq_true rfl) ?_
  show z_J G l mJ0_length_8abf5 _ 0 [(0, _)] [] _ 0 0
  refine j_aload_n dJ0_length_8abf5_0 rfl rfl ?_
  refine j_getSK (k := 0) dJ0_length_8abf5_1 fJ0_9 hi9 ht9 (by decide) rfl ?_
  refine j_alenK (k := 50 + i) (N := t.2.2.length) dJ0_length_8abf5_4 (fun U q9 h hk9 => by obtain ⟨f9, hf9, -⟩ := z_cst10 h hi9 hk9; exact ⟨f9, hf9⟩) ?_
  refine j_aload_n dJ0_length_8abf5_5 rfl rfl ?_
  refine j_callVK (i := i) dJ0_length_8abf5_6 kJ0_coder_7d493 lJ0_335 inJ0_coder_7d493 (z_w 785 ((lwg_4 20).trans rfl) (by decide +kernel)) hi9 ht9 (sk_cod hl w i t hi9 ht9) (Nat.le_of_ble_eq_true rfl) ⟨(Nat.le_of_ble_eq_true rfl), (Nat.le_of_ble_eq_true rfl)⟩ rfl (Nat.le_of_ble_eq_true rfl) rfl rfl (fun _ _ h => h.elim) ?_
  rintro _ _ ⟨rfl, hw16⟩
  refine j_w w hw16 ?_
  refine j_ishr dJ0_length_8abf5_9 ?_
  refine j_top (congrArg Value.int (sb_shr0 (nI t.2.2.length))) ?_
  refine j_iret dJ0_length_8abf5_10 rfl rfl ?_ (Nat.le_of_ble_eq_true rfl) (Nat.le_of_ble_eq_true rfl)
  exact ⟨rfl, rfl⟩
set_option maxRecDepth 100000 in
set_option maxHeartbeats 8000000 in
theorem sk_get (hl : l.stackTraces = false) (w : z_W) (ρ m N n b : Nat) (f : Nat → Value) (e : z_E) (i : Nat) (t : String × Nat × String) (hi9 : z_strs[i]? = some t) (ht9 : t.1 = "LoopdefaultsModel" ∨ t.1 = "LoopdefaultsModel$Hearer") (hm : 1000 ≤ m) (hm2 : m % 64 = ρ) (gm : z_g w m = some (.inl (2, N, f))) (hby : z_by f) (hb : b ≠ m) (gb : z_g w b = some e) (hp : n + t.2.2.length ≤ N) (hN : N ≤ 5000) : z_Con G l mJ0_getBytes_840e7 12 0 0 w [.retAddr (10 + i), .ref m, .int (nI n), .int 0] (fun v w9 => v = none ∧ z_fw ρ w w9 ∧ ∃ g, z_g w9 m = some (.inl (2, N, g)) ∧ z_by g ∧ z_g w9 b = some e) (fun _ _ => False) := by
  have hl9 := z_strl hi9
  have hlk : (Int32.ofNat t.2.2.length).toNatClampNeg = t.2.2.length := z_cla (n := t.2.2.length) (by omega)
  refine z_body hl (by decide) rfl (Nat.le_of_ble_eq_true rfl) ?_
  show z_J G l mJ0_getBytes_840e7 _ 0 [(0, _), (1, _), (2, _), (3, _)] [] _ 0 0
  refine j_aload_n dJ0_getBytes_840e7_0 rfl rfl ?_
  refine j_callVK (i := i) dJ0_getBytes_840e7_1 kJ0_coder_7d493 lJ0_335 inJ0_coder_7d493 (z_w 785 ((lwg_4 20).trans rfl) (by decide +kernel)) hi9 ht9 (sk_cod hl w i t hi9 ht9) (Nat.le_of_ble_eq_true rfl) ⟨(Nat.le_of_ble_eq_true rfl), (Nat.le_of_ble_eq_true rfl)⟩ rfl (Nat.le_of_ble_eq_true rfl) rfl rfl (fun _ _ h => h.elim) ?_
  rintro _ _ ⟨rfl, hw17⟩
  refine j_w w hw17 ?_
  refine j_iload_n dJ0_getBytes_840e7_4 rfl ?_
  refine j_icmp_ne (tgt := 28) dJ0_getBytes_840e7_5 (by decide) (fun c_5_7 => ?_) (fun c_5_7 => ?_)
  · exact absurd rfl c_5_7
  · refine j_aload_n dJ0_getBytes_840e7_8 rfl rfl ?_
    refine j_getSK (k := 0) dJ0_getBytes_840e7_9 fJ0_9 hi9 ht9 (by decide) rfl ?_
    refine j_iconst (v := 0) dJ0_getBytes_840e7_12 (by decide) ?_
    refine j_aload_n dJ0_getBytes_840e7_13 rfl rfl ?_
    refine j_iload_n dJ0_getBytes_840e7_14 rfl ?_
    refine j_iload_n dJ0_getBytes_840e7_15 rfl ?_
    refine j_ishl dJ0_getBytes_840e7_16 ?_
    refine j_top (congrArg Value.int (sb_shl0 (nI n))) ?_
    refine j_aload_n dJ0_getBytes_840e7_17 rfl rfl ?_
    refine j_getSK (k := 0) dJ0_getBytes_840e7_18 fJ0_9 hi9 ht9 (by decide) rfl ?_
    refine j_alenK (k := 50 + i) (N := t.2.2.length) dJ0_getBytes_840e7_21 (fun U q9 h hk9 => by obtain ⟨f9, hf9, -⟩ := z_cst10 h hi9 hk9; exact ⟨f9, hf9⟩) ?_
    refine j_acopyK (k := 50 + i) (n0 := t.2.2.length) (kd := 2) (ty := .byte) dJ0_getBytes_840e7_22 (z_w 801 ((lwg_4 36).trans rfl) (by decide +kernel)) ac_n ac_s ac_i (fun U q9 h hk9 => z_cst10 h hi9 hk9) gm rfl (by decide) (nI_pos (by omega)) (nI_pos (by omega)) (by rw [hlk]; show 0 + _ ≤ _; omega) (by rw [z_cla (by omega), hlk]; omega) (Nat.le_of_ble_eq_true rfl) (Nat.le_of_ble_eq_true rfl) ?_
    intro f9 hf9
    refine j_seal hm ?_
    intro w1 u1
    have g1_b := (u1.2.1 _ hb).trans gb
    have g1_m := u1.1
    refine j_goto (tgt := 43) dJ0_getBytes_840e7_25 (by decide) ?_
    refine j_vret dJ0_getBytes_840e7_43 rfl ?_ (Nat.le_of_ble_eq_true rfl) (Nat.le_of_ble_eq_true rfl)
    exact ⟨rfl, (u1.fw hm hm2), _, g1_m, z_byC (fun j _ h7 => hf9 j (by rw [hlk] at h7; have h8 : j < 0 + t.2.2.length := h7; omega)) hby, g1_b⟩
set_option maxRecDepth 100000 in
set_option maxHeartbeats 8000000 in
theorem sk_inf (hl : l.stackTraces = false) (w : z_W) (a : Nat) (v0 : Value) (ml c : Int32) (i : Nat) (t : String × Nat × String) (hi9 : z_strs[i]? = some t) (ht9 : t.1 = "LoopdefaultsModel" ∨ t.1 = "LoopdefaultsModel$Hearer") (ga : z_g w a = some (.inr (1, [v0, .int 0, .int ml, .int c]))) : z_Con G l mJ5_inflateIfNeededFor_a7421 12 0 0 w [.ref a, .retAddr (10 + i)] (fun v w9 => v = none ∧ w9 = w) (fun _ _ => False) := by
  refine z_body hl (by decide) rfl (Nat.le_of_ble_eq_true rfl) ?_
  show z_J G l mJ5_inflateIfNeededFor_a7421 _ 0 [(0, _), (1, _)] [] _ 0 0
  refine j_gets dJ5_inflateIfNeededFor_a7421_0 (List.mem_of_getElem? (i := 0) rfl) rfl (z_w 573 ((lwg_3 48).trans rfl) (by decide +kernel)) ?_
  refine j_if_eq (tgt := 21) dJ5_inflateIfNeededFor_a7421_3 (by decide) (fun c_3_3 => ?_) (fun c_3_3 => ?_)
  · exact absurd c_3_3 (by decide)
  · refine j_aload_n dJ5_inflateIfNeededFor_a7421_6 rfl rfl ?_
    refine j_getf dJ5_inflateIfNeededFor_a7421_7 fJ5_22 ga rfl ?_
    refine j_aload_n dJ5_inflateIfNeededFor_a7421_10 rfl rfl ?_
    refine j_callVK (i := i) dJ5_inflateIfNeededFor_a7421_11 kJ0_coder_7d493 lJ5_40 inJ0_coder_7d493 (z_w 785 ((lwg_4 20).trans rfl) (by decide +kernel)) hi9 ht9 (sk_cod hl w i t hi9 ht9) (Nat.le_of_ble_eq_true rfl) ⟨(Nat.le_of_ble_eq_true rfl), (Nat.le_of_ble_eq_true rfl)⟩ rfl (Nat.le_of_ble_eq_true rfl) rfl rfl (fun _ _ h => h.elim) ?_
    rintro _ _ ⟨rfl, hw18⟩
    refine j_w w hw18 ?_
    refine j_icmp_eq (tgt := 21) dJ5_inflateIfNeededFor_a7421_14 (by decide) (fun c_14_11 => ?_) (fun c_14_11 => ?_)
    · refine j_vret dJ5_inflateIfNeededFor_a7421_21 rfl ?_ (Nat.le_of_ble_eq_true rfl) (Nat.le_of_ble_eq_true rfl)
      exact ⟨rfl, rfl⟩
    · exact absurd rfl c_14_11
set_option maxRecDepth 100000 in
set_option maxHeartbeats 8000000 in
theorem sk_put (hl : l.stackTraces = false) (w : z_W) (ρ a m N n : Nat) (f : Nat → Value) (ml c : Int32) (i : Nat) (t : String × Nat × String) (hi9 : z_strs[i]? = some t) (ht9 : t.1 = "LoopdefaultsModel" ∨ t.1 = "LoopdefaultsModel$Hearer") (a1 : 1000 ≤ m) (a2 : m % 64 = ρ) (a3 : m ≠ a) (ga : z_g w a = some (.inr (1, [.ref m, .int 0, .int ml, .int c]))) (gm : z_g w m = some (.inl (2, N, f))) (hby : z_by f) (hp : n + t.2.2.length ≤ N) (hN : N ≤ 5000) : z_Con G l mJ5_putStringAt_47b60 14 0 0 w [.ref a, .int (nI n), .retAddr (10 + i)] (fun v w9 => v = none ∧ z_fw ρ w w9 ∧ ∃ g, z_g w9 m = some (.inl (2, N, g)) ∧ z_by g ∧ z_g w9 a = some (.inr (1, [.ref m, .int 0, .int ml, .int c]))) (fun _ _ => False) := by
  refine z_body hl (by decide) rfl (Nat.le_of_ble_eq_true rfl) ?_
  show z_J G l mJ5_putStringAt_47b60 _ 0 [(0, _), (1, _), (2, _)] [] _ 0 0
  refine j_aload_n dJ5_putStringAt_47b60_0 rfl rfl ?_
  refine j_aload_n dJ5_putStringAt_47b60_1 rfl rfl ?_
  refine j_callP (x := yJ5_isLatin1_aae02) (q := (RJ4, TJ4, 4)) dJ5_putStringAt_47b60_2 kJ5_inflateIfNeededFor_a7421 lJ5_397 inJ5_inflateIfNeededFor_a7421 ⟨(z_w 640 ((lwg_3 115).trans rfl) (by decide +kernel)), rfl, (z_wn 793 ((lwg_4 28).trans rfl) (by decide +kernel))⟩ ga rfl (sk_inf hl w a _ _ _ i t hi9 ht9 ga) (Nat.le_of_ble_eq_true rfl) ⟨(Nat.le_of_ble_eq_true rfl), (Nat.le_of_ble_eq_true rfl)⟩ rfl (Nat.le_of_ble_eq_true rfl) rfl rfl (fun _ _ h => h.elim) ?_
  rintro _ _ ⟨rfl, hw19⟩
  refine j_w w hw19 ?_
  refine j_aload_n dJ5_putStringAt_47b60_5 rfl rfl ?_
  refine j_aload_n dJ5_putStringAt_47b60_6 rfl rfl ?_
  refine j_getf dJ5_putStringAt_47b60_7 fJ5_15 ga rfl ?_
  refine j_iload_n dJ5_putStringAt_47b60_10 rfl ?_
  refine j_aload_n dJ5_putStringAt_47b60_11 rfl rfl ?_
  refine j_getf dJ5_putStringAt_47b60_12 fJ5_22 ga rfl ?_
  refine j_callVK (i := i) dJ5_putStringAt_47b60_15 kJ0_getBytes_840e7 lJ5_399 inJ0_getBytes_840e7 (z_w 799 ((lwg_4 34).trans rfl) (by decide +kernel)) hi9 ht9 (sk_get hl w ρ m N n a f _ i t hi9 ht9 a1 a2 gm hby (Ne.symm a3) ga hp hN) (Nat.le_of_ble_eq_true rfl) ⟨(Nat.le_of_ble_eq_true rfl), (Nat.le_of_ble_eq_true rfl)⟩ rfl (Nat.le_of_ble_eq_true rfl) rfl rfl (fun _ _ h => h.elim) ?_
  rintro _ w1 ⟨rfl, fw1, g9_1, gm9_1, by9_1, ga9_1⟩
  refine j_vret dJ5_putStringAt_47b60_18 rfl ?_ (Nat.le_of_ble_eq_true rfl) (Nat.le_of_ble_eq_true rfl)
  exact ⟨rfl, fw1, _, gm9_1, by9_1, ga9_1⟩
set_option maxRecDepth 100000 in
set_option maxHeartbeats 8000000 in
theorem sb_apS0 (hl : l.stackTraces = false) (w : z_W) (ρ a n N : Nat) (i : Nat) (t : String × Nat × String) (hi9 : z_strs[i]? = some t) (ht9 : t.1 = "LoopdefaultsModel" ∨ t.1 = "LoopdefaultsModel$Hearer") (h : z_sb w ρ a n N) (hq : n + t.2.2.length ≤ 2 * N + 2) (hN : z_gr N (n + t.2.2.length) ≤ 5000) (hρ : ρ < 64) (hf : z_fn w) : z_Con G l mJ5_append_cf1ce 16 (z_gr N (n + t.2.2.length) / 16 - N / 16) (2 * (z_gr N (n + t.2.2.length) - N)) w [.ref a, .retAddr (10 + i)] (fun v w9 => v = some (.ref a) ∧ z_fw ρ w w9 ∧ z_sb w9 ρ a (n + t.2.2.length) (z_gr N (n + t.2.2.length))) (fun _ _ => False) := by
  obtain ⟨h1, h2, h3, h4, h5, m, f, ml, a1, a2, a3, ga, gm, a6⟩ := id h
  have hge := z_gr_ge hq
  have hle := z_gr_le (N := N) (m := n + t.2.2.length)
  refine z_body hl (by decide) rfl (Nat.le_of_ble_eq_true rfl) ?_
  show z_J G l mJ5_append_cf1ce _ 0 [(0, _), (1, _)] [] _ 0 0
  refine j_aload_n dJ5_append_cf1ce_0 rfl rfl ?_
  refine j_ifnn (tgt := 9) dJ5_append_cf1ce_1 (by decide) rfl (by simp) ?_
  refine j_aload_n dJ5_append_cf1ce_9 rfl rfl ?_
  refine j_callVK (i := i) dJ5_append_cf1ce_10 kJ0_length_8abf5 lJ5_32 inJ0_length_8abf5 (z_w 781 ((lwg_4 16).trans rfl) (by decide +kernel)) hi9 ht9 (sk_len hl w i t hi9 ht9) (Nat.le_of_ble_eq_true rfl) ⟨(by show _ ≤ z_gr N (n + t.2.2.length) / 16 - N / 16; omega), (by show _ ≤ 2 * (z_gr N (n + t.2.2.length) - N); omega)⟩ rfl (Nat.le_of_ble_eq_true rfl) rfl rfl (fun _ _ h => h.elim) ?_
  rintro _ _ ⟨rfl, hw20⟩
  refine j_w w hw20 ?_
  refine j_istore_n (lo' := [(2, _), (0, _), (1, _)]) dJ5_append_cf1ce_13 (by decide) rfl ?_
  refine j_aload_n dJ5_append_cf1ce_14 rfl rfl ?_
  refine j_aload_n dJ5_append_cf1ce_15 rfl rfl ?_
  refine j_getf dJ5_append_cf1ce_16 fJ5_79 ga rfl ?_
  refine j_iload_n dJ5_append_cf1ce_19 rfl ?_
  refine j_iadd dJ5_append_cf1ce_20 ?_
  refine j_top (congrArg Value.int (nI_add n t.2.2.length)) ?_
  refine j_callP (x := yJ5_isLatin1_aae02) (q := (RJ4, TJ4, 4)) dJ5_append_cf1ce_21 kJ5_ensureCapacityInternal_d00df lJ5_100 inJ5_ensureCapacityInternal_d00df ⟨(z_w 640 ((lwg_3 115).trans rfl) (by decide +kernel)), rfl, (z_wn 603 ((lwg_3 78).trans rfl) (by decide +kernel))⟩ ga rfl (sb_ens hl w ρ a n N (n + t.2.2.length) h (by omega) (by omega) hρ hf) (Nat.le_of_ble_eq_true rfl) ⟨(by show _ ≤ z_gr N (n + t.2.2.length) / 16 - N / 16; omega), (by show _ ≤ 2 * (z_gr N (n + t.2.2.length) - N); omega)⟩ rfl (Nat.le_of_ble_eq_true rfl) rfl rfl (fun _ _ h => h.elim) ?_
  rintro _ w1 ⟨rfl, fw1, hs1⟩
  have hf1 := fw1.2.1 hf
  obtain ⟨-, -, h3_1, h4_1, h5_1, m_1, f_1, ml_1, a1_1, a2_1, a3_1, ga_1, gm_1, a6_1⟩ := id hs1
  refine j_aload_n dJ5_append_cf1ce_24 rfl rfl ?_
  refine j_aload_n dJ5_append_cf1ce_25 rfl rfl ?_
  refine j_getf dJ5_append_cf1ce_26 fJ5_79 ga_1 rfl ?_
  refine j_aload_n dJ5_append_cf1ce_29 rfl rfl ?_
  refine j_callP (x := yJ5_isLatin1_aae02) (q := (RJ4, TJ4, 4)) dJ5_append_cf1ce_30 kJ5_putStringAt_47b60 lJ5_208 inJ5_putStringAt_47b60 ⟨(z_w 640 ((lwg_3 115).trans rfl) (by decide +kernel)), rfl, (z_wn 789 ((lwg_4 24).trans rfl) (by decide +kernel))⟩ ga_1 rfl (sk_put hl w1 ρ a m_1 (z_gr N (n + t.2.2.length)) n f_1 ml_1 (nI n) i t hi9 ht9 a1_1 a2_1 a3_1 ga_1 gm_1 a6_1 hge hN) (Nat.le_of_ble_eq_true rfl) ⟨(by show _ ≤ z_gr N (n + t.2.2.length) / 16 - N / 16; omega), (by show _ ≤ 2 * (z_gr N (n + t.2.2.length) - N); omega)⟩ rfl (Nat.le_of_ble_eq_true rfl) rfl rfl (fun _ _ h => h.elim) ?_
  rintro _ w2 ⟨rfl, fw2, g9_2, gm9_2, by9_2, ga9_2⟩
  have hf2 := fw2.2.1 hf1
  refine j_aload_n dJ5_append_cf1ce_33 rfl rfl ?_
  refine j_dup dJ5_append_cf1ce_34 rfl ?_
  refine j_getf dJ5_append_cf1ce_35 fJ5_79 ga9_2 rfl ?_
  refine j_iload_n dJ5_append_cf1ce_38 rfl ?_
  refine j_iadd dJ5_append_cf1ce_39 ?_
  refine j_top (congrArg Value.int (nI_add n t.2.2.length)) ?_
  refine j_put (w' := _) dJ5_append_cf1ce_40 fJ5_79 tJ4_3 ga9_2 ⟨rfl, rfl⟩ rfl ?_
  refine j_seal h1 ?_
  intro w3 u3
  have g3_m := (u3.2.1 _ a3_1).trans gm9_2
  have g3_a := u3.1
  have hf3 := u3.2.2.2 hf2
  refine j_aload_n dJ5_append_cf1ce_43 rfl rfl ?_
  refine j_aret dJ5_append_cf1ce_44 rfl (Or.inl ⟨_, rfl⟩) rfl ?_ (by show _ ≤ z_gr N (n + t.2.2.length) / 16 - N / 16; omega) (by show _ ≤ 2 * (z_gr N (n + t.2.2.length) - N); omega)
  exact ⟨rfl, ((fw1.tr fw2).tr (u3.fw h1 h2)), h1, h2, hge, by omega, hN, m_1, _, ml_1, a1_1, a2_1, a3_1, g3_a, g3_m, by9_2⟩
set_option maxRecDepth 100000 in
set_option maxHeartbeats 8000000 in
theorem sb_apS (hl : l.stackTraces = false) (w : z_W) (ρ a n N : Nat) (i : Nat) (t : String × Nat × String) (hi9 : z_strs[i]? = some t) (ht9 : t.1 = "LoopdefaultsModel" ∨ t.1 = "LoopdefaultsModel$Hearer") (h : z_sb w ρ a n N) (hq : n + t.2.2.length ≤ 2 * N + 2) (hN : z_gr N (n + t.2.2.length) ≤ 5000) (hρ : ρ < 64) (hf : z_fn w) : z_Con G l mJ4_append_15ec4 17 (z_gr N (n + t.2.2.length) / 16 - N / 16) (2 * (z_gr N (n + t.2.2.length) - N)) w [.ref a, .retAddr (10 + i)] (fun v w9 => v = some (.ref a) ∧ z_fw ρ w w9 ∧ z_sb w9 ρ a (n + t.2.2.length) (z_gr N (n + t.2.2.length))) (fun _ _ => False) := by
  obtain ⟨h1, h2, h3, h4, h5, m, f, ml, a1, a2, a3, ga, gm, a6⟩ := id h
  refine z_body hl (by decide) rfl (Nat.le_of_ble_eq_true rfl) ?_
  show z_J G l mJ4_append_15ec4 _ 0 [(0, _), (1, _)] [] _ 0 0
  refine j_aload_n dJ4_append_15ec4_0 rfl rfl ?_
  refine j_aload_n dJ4_append_15ec4_1 rfl rfl ?_
  refine j_callSu (q := (RJ4, TJ4, 4)) dJ4_append_15ec4_2 kJ5_append_cf1ce ⟨lJ4_29, (z_w 1971 ((lwg_9 6).trans rfl) (by decide +kernel)), (z_w 594 ((lwg_3 69).trans rfl) (by decide +kernel)), inJ5_append_cf1ce, (by decide)⟩ ga rfl (sb_apS0 hl w ρ a n N i t hi9 ht9 h hq hN hρ hf) (Nat.le_of_ble_eq_true rfl) ⟨(by show _ ≤ z_gr N (n + t.2.2.length) / 16 - N / 16; omega), (by show _ ≤ 2 * (z_gr N (n + t.2.2.length) - N); omega)⟩ rfl (Nat.le_of_ble_eq_true rfl) rfl rfl (fun _ _ h => h.elim) ?_
  rintro _ w1 ⟨rfl, fw1, hs1⟩
  have hf1 := fw1.2.1 hf
  refine j_pop dJ4_append_15ec4_5 rfl ?_
  refine j_aload_n dJ4_append_15ec4_6 rfl rfl ?_
  refine j_aret dJ4_append_15ec4_7 rfl (Or.inl ⟨_, rfl⟩) rfl ?_ (by show _ ≤ z_gr N (n + t.2.2.length) / 16 - N / 16; omega) (by show _ ≤ 2 * (z_gr N (n + t.2.2.length) - N); omega)
  exact ⟨rfl, fw1, hs1⟩
def z_tx (w : z_W) (ρ r n : Nat) : Prop := 1000 ≤ r ∧ r % 64 = ρ ∧ ∃ b f, 1000 ≤ b ∧ b % 64 = ρ ∧ b ≠ r ∧ z_g w r = some (.inr (0, [.ref b, .int 0, .int 0, .int 0])) ∧ z_g w b = some (.inl (2, n, f))
set_option maxRecDepth 100000 in
set_option maxHeartbeats 8000000 in
theorem sb_val (hl : l.stackTraces = false) (w : z_W) (a m : Nat) (ml c : Int32) (ga : z_g w a = some (.inr (1, [.ref m, .int 0, .int ml, .int c]))) : z_Con G l mJ5_getValue_6d5f1 10 0 0 w [.ref a] (fun v w9 => v = some (.ref m) ∧ w9 = w) (fun _ _ => False) := by
  refine z_body hl (by decide) rfl (Nat.le_of_ble_eq_true rfl) ?_
  show z_J G l mJ5_getValue_6d5f1 _ 0 [(0, _)] [] _ 0 0
  refine j_aload_n dJ5_getValue_6d5f1_0 rfl rfl ?_
  refine j_getf dJ5_getValue_6d5f1_1 fJ5_15 ga rfl ?_
  refine j_aret dJ5_getValue_6d5f1_4 rfl (Or.inr ⟨_, rfl⟩) rfl ?_ (Nat.le_of_ble_eq_true rfl) (Nat.le_of_ble_eq_true rfl)
  exact ⟨rfl, rfl⟩
set_option maxRecDepth 100000 in
set_option maxHeartbeats 8000000 in
theorem sb_chkL (hl : l.stackTraces = false) (w : z_W) (x z : Int32) (hxz : x ≤ z) : z_Con G l mJ7_checkLength_df160 10 0 0 w [.int x, .int z] (fun v w9 => v = none ∧ w9 = w) (fun _ _ => False) := by
  refine z_body hl (by decide) rfl (Nat.le_of_ble_eq_true rfl) ?_
  show z_J G l mJ7_checkLength_df160 _ 0 [(0, _), (1, _)] [] _ 0 0
  refine j_iload_n dJ7_checkLength_df160_0 rfl ?_
  refine j_iload_n dJ7_checkLength_df160_1 rfl ?_
  refine j_icmp_ge (tgt := 37) dJ7_checkLength_df160_2 (by decide) (fun c_2_4 => ?_) (fun c_2_4 => ?_)
  · refine j_vret dJ7_checkLength_df160_37 rfl ?_ (Nat.le_of_ble_eq_true rfl) (Nat.le_of_ble_eq_true rfl)
    exact ⟨rfl, rfl⟩
  · exact absurd hxz c_2_4
set_option maxRecDepth 100000 in
set_option maxHeartbeats 8000000 in
theorem sb_cpRB (hl : l.stackTraces = false) (w : z_W) (ρ m N q : Nat) (f : Nat → Value) (hρ : ρ < 64) (hf : z_fn w) (gm : z_g w m = some (.inl (2, N, f))) (hby : z_by f) (hq : q ≤ N) (hN : N ≤ 5000) : z_Con G l mJ7_copyOfRangeByte_39247 11 1 q w [.ref m, .int 0, .int (nI q)] (fun v w9 => ∃ (m9 : Nat) (g : Nat → Value), v = some (.ref m9) ∧ z_fw ρ w w9 ∧ 1000 ≤ m9 ∧ m9 % 64 = ρ ∧ (∀ k e, z_g w k = some e → k ≠ m9) ∧ z_g w9 m9 = some (.inl (2, q, g)) ∧ (∀ k e, z_g w k = some e → z_g w9 k = some e)) (fun _ _ => False) := by
  refine z_body hl (by decide) rfl (Nat.le_of_ble_eq_true rfl) ?_
  show z_J G l mJ7_copyOfRangeByte_39247 _ 0 [(0, _), (1, _), (2, _)] [] _ 0 0
  refine j_iload_n dJ7_copyOfRangeByte_39247_0 rfl ?_
  refine j_iload_n dJ7_copyOfRangeByte_39247_1 rfl ?_
  refine j_callS dJ7_copyOfRangeByte_39247_2 kJ7_checkLength_df160 lJ7_343 stJ7_checkLength_df160 (sb_chkL hl w _ _ (nI_leI (a := 0) (b := q) (by omega) (by omega) |>.mpr (Nat.zero_le _))) (Nat.le_of_ble_eq_true rfl) ⟨(Nat.le_of_ble_eq_true rfl), (by show _ ≤ q; omega)⟩ rfl (Nat.le_of_ble_eq_true rfl) rfl rfl (fun _ _ h => h.elim) ?_
  rintro _ _ ⟨rfl, hw21⟩
  refine j_w w hw21 ?_
  refine j_iload_n dJ7_copyOfRangeByte_39247_5 rfl ?_
  refine j_iload_n dJ7_copyOfRangeByte_39247_6 rfl ?_
  refine j_isub dJ7_copyOfRangeByte_39247_7 ?_
  refine j_top (congrArg Value.int (show nI q - 0 = nI q from pk_sub (a := q) (b := 0) (Nat.zero_le _))) ?_
  refine j_istore_n (lo' := [(3, _), (0, _), (1, _), (2, _)]) dJ7_copyOfRangeByte_39247_8 (by decide) rfl ?_
  refine j_iload_n dJ7_copyOfRangeByte_39247_9 rfl ?_
  obtain ⟨x1, hx1a, hx1b, hx1c⟩ := z_fresh (ρ) hρ hf
  have n_m_x1 := z_neF hx1c gm
  refine j_newa (kd := 2) (N := q) (w' := _) (n := x1) dJ7_copyOfRangeByte_39247_10 rfl rfl arc_byte ⟨rfl, fun _ _ h => h⟩ (nI_pos (by omega)) (z_cla (by omega)) (by show q * 1 ≤ _; omega) rfl (z_alW hx1c hx1a) (Nat.le_of_ble_eq_true rfl) (by show _ ≤ q; omega) ?_
  refine j_seal hx1a ?_
  intro w1 u1
  have g1_m := (u1.2.1 _ n_m_x1).trans gm
  have g1_x1 := u1.1
  have hf1 := u1.2.2.2 hf
  refine j_astore (lo' := [(4, _), (3, _), (0, _), (1, _), (2, _)]) dJ7_copyOfRangeByte_39247_12 rfl (by decide) rfl ?_
  refine j_aload_n dJ7_copyOfRangeByte_39247_14 rfl rfl ?_
  refine j_iload_n dJ7_copyOfRangeByte_39247_15 rfl ?_
  refine j_aload dJ7_copyOfRangeByte_39247_16 rfl rfl ?_
  refine j_iconst (v := 0) dJ7_copyOfRangeByte_39247_18 (by decide) ?_
  refine j_aload_n dJ7_copyOfRangeByte_39247_19 rfl rfl ?_
  refine j_alen dJ7_copyOfRangeByte_39247_20 g1_m rfl rfl ?_
  refine j_iload_n dJ7_copyOfRangeByte_39247_21 rfl ?_
  refine j_isub dJ7_copyOfRangeByte_39247_22 ?_
  refine j_top (congrArg Value.int (show nI N - 0 = nI N from pk_sub (a := N) (b := 0) (Nat.zero_le _))) ?_
  refine j_iload_n dJ7_copyOfRangeByte_39247_23 rfl ?_
  refine j_mmin dJ7_copyOfRangeByte_39247_24 lJ7_304 (Nat.le_of_ble_eq_true rfl) (Nat.le_of_ble_eq_true rfl) (Nat.le_of_ble_eq_true rfl) (by show _ ≤ q; omega) ?_
  refine j_top (congrArg Value.int (nI_mn (a := N) (b := q) (by omega) (by omega))) ?_
  refine j_acopy (w' := _) dJ7_copyOfRangeByte_39247_27 lJ7_150 ac_n ac_s ac_i g1_m g1_x1 rfl (by decide) (by decide) (nI_pos (by omega)) (by rw [z_cla (by omega)]; show 0 + _ ≤ N; omega) (by rw [z_cla (by omega)]; show 0 + _ ≤ q; omega) (fun i _ => Or.inl (hby _)) (Nat.le_of_ble_eq_true rfl) (Nat.le_of_ble_eq_true rfl) rfl ?_
  refine j_seal hx1a ?_
  intro w2 u2
  have g2_m := (u2.2.1 _ n_m_x1).trans g1_m
  have g2_x1 := u2.1
  have hf2 := u2.2.2.2 hf1
  refine j_aload dJ7_copyOfRangeByte_39247_30 rfl rfl ?_
  refine j_aret dJ7_copyOfRangeByte_39247_32 rfl (Or.inr ⟨_, rfl⟩) rfl ?_ (Nat.le_of_ble_eq_true rfl) (by show _ ≤ q; omega)
  exact ⟨x1, _, rfl, ((u1.fw hx1a hx1b).tr (u2.fw hx1a hx1b)), hx1a, hx1b, fun k e hk => z_neF hx1c hk, g2_x1, fun k e hk => (u2.2.1 k (z_neF hx1c hk)).trans ((u1.2.1 k (z_neF hx1c hk)).trans hk)⟩
theorem z_isB {w : z_W} {p n : Nat} {f : Nat → Value} (h : z_g w p = some (.inl (2, n, f))) : z_is w (.ref p) "[B" := Or.inr ⟨_, _, h, rfl, rfl⟩
set_option maxRecDepth 100000 in
set_option maxHeartbeats 8000000 in
theorem sb_cpR (hl : l.stackTraces = false) (w : z_W) (ρ m N q : Nat) (f : Nat → Value) (hρ : ρ < 64) (hf : z_fn w) (gm : z_g w m = some (.inl (2, N, f))) (hby : z_by f) (hq : q ≤ N) (hN : N ≤ 5000) : z_Con G l mJ7_copyOfRange_39247 12 1 q w [.ref m, .int 0, .int (nI q)] (fun v w9 => ∃ (m9 : Nat) (g : Nat → Value), v = some (.ref m9) ∧ z_fw ρ w w9 ∧ 1000 ≤ m9 ∧ m9 % 64 = ρ ∧ (∀ k e, z_g w k = some e → k ≠ m9) ∧ z_g w9 m9 = some (.inl (2, q, g)) ∧ (∀ k e, z_g w k = some e → z_g w9 k = some e)) (fun _ _ => False) := by
  refine z_body hl (by decide) rfl (Nat.le_of_ble_eq_true rfl) ?_
  show z_J G l mJ7_copyOfRange_39247 _ 0 [(0, _), (1, _), (2, _)] [] _ 0 0
  refine j_iload_n dJ7_copyOfRange_39247_0 rfl ?_
  refine j_if_ne (tgt := 10) dJ7_copyOfRange_39247_1 (by decide) (fun c_1_3 => ?_) (fun c_1_3 => ?_)
  · exact absurd rfl c_1_3
  · refine j_iload_n dJ7_copyOfRange_39247_4 rfl ?_
    refine j_aload_n dJ7_copyOfRange_39247_5 rfl rfl ?_
    refine j_alen dJ7_copyOfRange_39247_6 gm rfl rfl ?_
    refine j_icmp_eq (tgt := 17) dJ7_copyOfRange_39247_7 (by decide) (fun c_7_8 => ?_) (fun c_7_8 => ?_)
    · have hqN : q = N := nI_inj c_7_8 (by omega) (by omega)
      refine j_aload_n dJ7_copyOfRange_39247_17 rfl rfl ?_
      obtain ⟨x1, hx1a, hx1b, hx1c⟩ := z_fresh (ρ) hρ hf
      have n_m_x1 := z_neF hx1c gm
      refine j_clone (w' := _) (n := x1) dJ7_copyOfRange_39247_18 (z_w 624 ((lwg_3 99).trans rfl) (by decide +kernel)) (z_w 625 ((lwg_3 100).trans rfl) (by decide +kernel)) (z_w 626 ((lwg_3 101).trans rfl) (by decide +kernel)) (z_w 627 ((lwg_3 102).trans rfl) (by decide +kernel)) (z_w 628 ((lwg_3 103).trans rfl) (by decide +kernel)) (z_wn 629 ((lwg_3 104).trans rfl) (by decide +kernel)) gm hby (z_alW hx1c hx1a) (Nat.le_of_ble_eq_true rfl) (Nat.le_of_ble_eq_true rfl) (Nat.le_of_ble_eq_true rfl) (by show _ ≤ q; omega) ?_
      refine j_seal hx1a ?_
      intro w1 u1
      have g1_m := (u1.2.1 _ n_m_x1).trans gm
      have g1_x1 := u1.1
      have hf1 := u1.2.2.2 hf
      refine j_castS dJ7_copyOfRange_39247_21 (z_w 630 ((lwg_3 105).trans rfl) (by decide +kernel)) (z_isB g1_x1) ?_
      refine j_aret dJ7_copyOfRange_39247_24 rfl (Or.inr ⟨_, rfl⟩) rfl ?_ (Nat.le_of_ble_eq_true rfl) (by show _ ≤ q; omega)
      exact ⟨x1, _, rfl, (u1.fw hx1a hx1b), hx1a, hx1b, fun k e hk => z_neF hx1c hk, hqN ▸ g1_x1, fun k e hk => (u1.2.1 k (z_neF hx1c hk)).trans hk⟩
    · refine j_aload_n dJ7_copyOfRange_39247_10 rfl rfl ?_
      refine j_iload_n dJ7_copyOfRange_39247_11 rfl ?_
      refine j_iload_n dJ7_copyOfRange_39247_12 rfl ?_
      refine j_callS dJ7_copyOfRange_39247_13 kJ7_copyOfRangeByte_39247 lJ7_339 stJ7_copyOfRangeByte_39247 (sb_cpRB hl w ρ m N q f hρ hf gm hby hq hN) (Nat.le_of_ble_eq_true rfl) ⟨(Nat.le_of_ble_eq_true rfl), (by show _ ≤ q; omega)⟩ rfl (Nat.le_of_ble_eq_true rfl) rfl rfl (fun _ _ h => h.elim) ?_
      rintro _ w2 ⟨m9, g9, rfl, fw2, c1, c2, c3, c4, c5⟩
      have hf2 := fw2.2.1 hf
      refine j_aret dJ7_copyOfRange_39247_16 rfl (Or.inr ⟨_, rfl⟩) rfl ?_ (Nat.le_of_ble_eq_true rfl) (by show _ ≤ q; omega)
      exact ⟨m9, g9, rfl, fw2, c1, c2, c3, c4, c5⟩
set_option maxRecDepth 100000 in
set_option maxHeartbeats 8000000 in
theorem sb_str0 (hl : l.stackTraces = false) (w : z_W) (ρ σ a n N r : Nat) (h : z_sb w σ a n N) (hσ : σ ≠ ρ) (r1 : 1000 ≤ r) (r2 : r % 64 = ρ) (gr : z_g w r = some (.inr (0, [.null, .int 0, .int 0, .int 0]))) (hρ : ρ < 64) (hf : z_fn w) : z_Con G l mJ0_init_db425 13 1 n w [.ref r, .ref a, .null] (fun v w9 => v = none ∧ z_fw ρ w w9 ∧ z_tx w9 ρ r n) (fun _ _ => False) := by
  obtain ⟨h1, h2, h3, h4, h5, m, f, ml, a1, a2, a3, ga, gm, a6⟩ := id h
  refine z_body hl (by decide) rfl (Nat.le_of_ble_eq_true rfl) ?_
  show z_J G l mJ0_init_db425 _ 0 [(0, _), (1, _), (2, _)] [] _ 0 0
  refine j_aload_n dJ0_init_db425_0 rfl rfl ?_
  refine j_objI dJ0_init_db425_1 oJ0_1 z_oi1 z_oi2 (Nat.le_of_ble_eq_true rfl) (Nat.le_of_ble_eq_true rfl) ?_
  refine j_aload_n dJ0_init_db425_4 rfl rfl ?_
  refine j_callU (q := (RJ4, TJ4, 4)) dJ0_init_db425_5 kJ5_getValue_6d5f1 cuJ0_552_J4 ga rfl (sb_val hl w a m ml _ ga) (Nat.le_of_ble_eq_true rfl) ⟨(Nat.le_of_ble_eq_true rfl), (by show _ ≤ n; omega)⟩ rfl (Nat.le_of_ble_eq_true rfl) rfl rfl (fun _ _ h => h.elim) ?_
  rintro _ _ ⟨rfl, hw22⟩
  refine j_w w hw22 ?_
  refine j_astore_n (lo' := [(3, _), (0, _), (1, _), (2, _)]) dJ0_init_db425_8 rfl (by decide) rfl ?_
  refine j_aload_n dJ0_init_db425_9 rfl rfl ?_
  refine j_callUd (y0 := mJ5_length_8abf5) (x := yJ5_length_8abf5) (q := (RJ4, TJ4, 4)) dJ0_init_db425_10 kJ4_length_8abf5 lJ0_549 (z_w 744 ((lwg_3 219).trans rfl) (by decide +kernel)) ⟨rfl, rfl, kJ5_length_8abf5.2.1, inJ5_length_8abf5⟩ (z_w 745 ((lwg_3 220).trans rfl) (by decide +kernel)) inJ4_length_8abf5 (by decide) rfl ga rfl (sb_len hl w σ a n N h) (Nat.le_of_ble_eq_true rfl) ⟨(Nat.le_of_ble_eq_true rfl), (by show _ ≤ n; omega)⟩ rfl (Nat.le_of_ble_eq_true rfl) rfl rfl (fun _ _ h => h.elim) ?_
  rintro _ _ ⟨rfl, hw23⟩
  refine j_w w hw23 ?_
  refine j_istore (lo' := [(4, _), (3, _), (0, _), (1, _), (2, _)]) dJ0_init_db425_13 (by decide) rfl ?_
  refine j_aload_n dJ0_init_db425_15 rfl rfl ?_
  refine j_callU (q := (RJ4, TJ4, 4)) dJ0_init_db425_16 kJ5_isLatin1_aae02 cuJ0_1047_J4 ga rfl (sb_lat hl w _ _ _ _ ga) (Nat.le_of_ble_eq_true rfl) ⟨(Nat.le_of_ble_eq_true rfl), (by show _ ≤ n; omega)⟩ rfl (Nat.le_of_ble_eq_true rfl) rfl rfl (fun _ _ h => h.elim) ?_
  rintro _ _ ⟨rfl, hw24⟩
  refine j_w w hw24 ?_
  refine j_if_eq (tgt := 41) dJ0_init_db425_19 (by decide) (fun c_19_18 => ?_) (fun c_19_18 => ?_)
  · exact absurd c_19_18 (by decide)
  · refine j_aload_n dJ0_init_db425_22 rfl rfl ?_
    refine j_iconst (v := 0) dJ0_init_db425_23 (by decide) ?_
    refine j_putF (w' := _) dJ0_init_db425_24 fJ0_15 tJ0_1 rfl (z_dc rfl rfl (z_w 819 ((lwg_4 54).trans rfl) (by decide +kernel))) gr ⟨rfl, rfl⟩ rfl ?_
    refine j_seal r1 ?_
    intro w1 u1
    have g1_a := (u1.2.1 _ (by omega)).trans ga
    have g1_m := (u1.2.1 _ (by omega)).trans gm
    have g1_r := u1.1
    have hf1 := u1.2.2.2 hf
    refine j_aload_n dJ0_init_db425_27 rfl rfl ?_
    refine j_aload_n dJ0_init_db425_28 rfl rfl ?_
    refine j_iconst (v := 0) dJ0_init_db425_29 (by decide) ?_
    refine j_iload dJ0_init_db425_30 rfl ?_
    refine j_callS dJ0_init_db425_32 kJ7_copyOfRange_39247 lJ0_54 stJ7_copyOfRange_39247 (sb_cpR hl w1 ρ m N n f hρ hf1 g1_m a6 h3 h5) (Nat.le_of_ble_eq_true rfl) ⟨(Nat.le_of_ble_eq_true rfl), (by show _ ≤ n; omega)⟩ rfl (Nat.le_of_ble_eq_true rfl) rfl rfl (fun _ _ h => h.elim) ?_
    rintro _ w2 ⟨m9, g9, rfl, fw2, c1, c2, c3, c4, c5⟩
    have hf2 := fw2.2.1 hf1
    have g2_r := c5 r _ g1_r
    refine j_putF (w' := _) dJ0_init_db425_35 fJ0_9 tJ0_0 rfl (z_dc rfl rfl (z_w 818 ((lwg_4 53).trans rfl) (by decide +kernel))) g2_r (Or.inr ⟨_, rfl⟩) rfl ?_
    refine j_seal r1 ?_
    intro w3 u3
    have g3_m2 := (u3.2.1 _ (Ne.symm (c3 r _ g1_r))).trans c4
    have g3_r := u3.1
    have hf3 := u3.2.2.2 hf2
    refine j_goto (tgt := 97) dJ0_init_db425_38 (by decide) ?_
    refine j_vret dJ0_init_db425_97 rfl ?_ (Nat.le_of_ble_eq_true rfl) (by show _ ≤ n; omega)
    exact ⟨rfl, (((u1.fw r1 r2).tr fw2).tr (u3.fw r1 r2)), r1, r2, m9, g9, c1, c2, Ne.symm (c3 r _ g1_r), g3_r, g3_m2⟩
set_option maxRecDepth 100000 in
set_option maxHeartbeats 8000000 in
theorem sb_str1 (hl : l.stackTraces = false) (w : z_W) (ρ σ a n N r : Nat) (h : z_sb w σ a n N) (hσ : σ ≠ ρ) (r1 : 1000 ≤ r) (r2 : r % 64 = ρ) (gr : z_g w r = some (.inr (0, [.null, .int 0, .int 0, .int 0]))) (hρ : ρ < 64) (hf : z_fn w) : z_Con G l mJ0_init_81219 14 1 n w [.ref r, .ref a] (fun v w9 => v = none ∧ z_fw ρ w w9 ∧ z_tx w9 ρ r n) (fun _ _ => False) := by
  obtain ⟨h1, h2, h3, h4, h5, m, f, ml, a1, a2, a3, ga, gm, a6⟩ := id h
  refine z_body hl (by decide) rfl (Nat.le_of_ble_eq_true rfl) ?_
  show z_J G l mJ0_init_81219 _ 0 [(0, _), (1, _)] [] _ 0 0
  refine j_aload_n dJ0_init_81219_0 rfl rfl ?_
  refine j_aload_n dJ0_init_81219_1 rfl rfl ?_
  refine j_null dJ0_init_81219_2 ?_
  refine j_callI dJ0_init_81219_3 kJ0_init_db425 rfl lJ0_489 inJ0_init_db425 rfl (sb_str0 hl w ρ σ a n N r h hσ r1 r2 gr hρ hf) (Nat.le_of_ble_eq_true rfl) ⟨(Nat.le_of_ble_eq_true rfl), (by show _ ≤ n; omega)⟩ rfl (Nat.le_of_ble_eq_true rfl) rfl rfl (fun _ _ h => h.elim) ?_
  rintro _ w1 ⟨rfl, fw1, ht1⟩
  have hf1 := fw1.2.1 hf
  refine j_vret dJ0_init_81219_6 rfl ?_ (Nat.le_of_ble_eq_true rfl) (by show _ ≤ n; omega)
  exact ⟨rfl, fw1, ht1⟩
set_option maxRecDepth 100000 in
set_option maxHeartbeats 8000000 in
theorem sb_toS (hl : l.stackTraces = false) (w : z_W) (ρ σ a n N : Nat) (h : z_sb w σ a n N) (hσ : σ ≠ ρ) (hρ : ρ < 64) (hf : z_fn w) : z_Con G l mJ4_toString_0e30d 15 2 (4 + n) w [.ref a] (fun v w9 => ∃ r, v = some (.ref r) ∧ z_fw ρ w w9 ∧ z_tx w9 ρ r n) (fun _ _ => False) := by
  obtain ⟨h1, h2, h3, h4, h5, m, f, ml, a1, a2, a3, ga, gm, a6⟩ := id h
  refine z_body hl (by decide) rfl (Nat.le_of_ble_eq_true rfl) ?_
  show z_J G l mJ4_toString_0e30d _ 0 [(0, _)] [] _ 0 0
  obtain ⟨x1, hx1a, hx1b, hx1c⟩ := z_fresh (ρ) hρ hf
  have n_a_x1 := z_neF hx1c ga
  refine j_new (N := 4) (w' := _) (n := x1) dJ4_toString_0e30d_0 nJ4_18 rfl (z_alW hx1c hx1a) (Nat.le_of_ble_eq_true rfl) (by show _ ≤ 4 + n; omega) ?_
  refine j_seal hx1a ?_
  intro w1 u1
  have g1_a := (u1.2.1 _ n_a_x1).trans ga
  have g1_x1 := u1.1
  have hf1 := u1.2.2.2 hf
  refine j_dup dJ4_toString_0e30d_3 rfl ?_
  refine j_aload_n dJ4_toString_0e30d_4 rfl rfl ?_
  refine j_callI dJ4_toString_0e30d_5 kJ0_init_81219 rfl lJ4_137 inJ0_init_81219 rfl (sb_str1 hl w1 ρ σ a n N x1 (h.fw (u1.fw hx1a hx1b) hσ) hσ hx1a hx1b g1_x1 hρ hf1) (Nat.le_of_ble_eq_true rfl) ⟨(Nat.le_of_ble_eq_true rfl), (by show _ ≤ 4 + n; omega)⟩ rfl (Nat.le_of_ble_eq_true rfl) rfl rfl (fun _ _ h => h.elim) ?_
  rintro _ w2 ⟨rfl, fw2, ht2⟩
  have hf2 := fw2.2.1 hf1
  refine j_aret dJ4_toString_0e30d_8 rfl (Or.inl ⟨_, rfl⟩) rfl ?_ (Nat.le_of_ble_eq_true rfl) (by show _ ≤ 4 + n; omega)
  exact ⟨x1, rfl, ((u1.fw hx1a hx1b).tr fw2), ht2⟩
set_option maxRecDepth 100000 in
set_option maxHeartbeats 8000000 in
theorem tx_cod (hl : l.stackTraces = false) (w : z_W) (ρ r n : Nat) (h : z_tx w ρ r n) : z_Con G l mJ0_coder_7d493 10 0 0 w [.ref r] (fun v w9 => v = some (.int 0) ∧ w9 = w) (fun _ _ => False) := by
  obtain ⟨r1, r2, b, f, b1, b2, b3, gr, gb⟩ := id h
  refine z_body hl (by decide) rfl (Nat.le_of_ble_eq_true rfl) ?_
  show z_J G l mJ0_coder_7d493 _ 0 [(0, _)] [] _ 0 0
  refine j_gets dJ0_coder_7d493_0 (List.mem_of_getElem? (i := 0) rfl) rfl (z_w 787 ((lwg_4 22).trans rfl) (by decide +kernel)) ?_
  refine j_if_eq (tgt := 13) dJ0_coder_7d493_3 (by decide) (fun c_3_3 => ?_) (fun c_3_3 => ?_)
  · exact absurd c_3_3 (by decide)
  · refine j_aload_n dJ0_coder_7d493_6 rfl rfl ?_
    refine j_getf dJ0_coder_7d493_7 fJ0_15 gr rfl ?_
    refine j_goto (tgt := 14) dJ0_coder_7d493_10 (by decide) ?_
    refine j_iret dJ0_coder_7d493_14 rfl rfl ?_ (Nat.le_of_ble_eq_true rfl) (Nat.le_of_ble_eq_true rfl)
    exact ⟨rfl, rfl⟩
set_option maxRecDepth 100000 in
set_option maxHeartbeats 8000000 in
theorem tx_len (hl : l.stackTraces = false) (w : z_W) (ρ r n : Nat) (h : z_tx w ρ r n) : z_Con G l mJ0_length_8abf5 11 0 0 w [.ref r] (fun v w9 => v = some (.int (nI n)) ∧ w9 = w) (fun _ _ => False) := by
  obtain ⟨r1, r2, b, f, b1, b2, b3, gr, gb⟩ := id h
  refine z_body hl (by decide) rfl (Nat.le_of_ble_eq_true rfl) ?_
  show z_J G l mJ0_length_8abf5 _ 0 [(0, _)] [] _ 0 0
  refine j_aload_n dJ0_length_8abf5_0 rfl rfl ?_
  refine j_getf dJ0_length_8abf5_1 fJ0_9 gr rfl ?_
  refine j_alen dJ0_length_8abf5_4 gb rfl rfl ?_
  refine j_aload_n dJ0_length_8abf5_5 rfl rfl ?_
  refine j_callV (q := (RJ0, TJ0, 4)) dJ0_length_8abf5_6 kJ0_coder_7d493 lJ0_335 inJ0_coder_7d493 seJ0_coder_7d493 gr rfl (tx_cod hl w ρ r n h) (Nat.le_of_ble_eq_true rfl) ⟨(Nat.le_of_ble_eq_true rfl), (Nat.le_of_ble_eq_true rfl)⟩ rfl (Nat.le_of_ble_eq_true rfl) rfl rfl (fun _ _ h => h.elim) ?_
  rintro _ _ ⟨rfl, hw25⟩
  refine j_w w hw25 ?_
  refine j_ishr dJ0_length_8abf5_9 ?_
  refine j_top (congrArg Value.int (sb_shr0 (nI n))) ?_
  refine j_iret dJ0_length_8abf5_10 rfl rfl ?_ (Nat.le_of_ble_eq_true rfl) (Nat.le_of_ble_eq_true rfl)
  exact ⟨rfl, rfl⟩
end ZSb2
end ZM8
