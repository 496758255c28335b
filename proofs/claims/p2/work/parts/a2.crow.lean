section ZCr
variable {G : z_G} {l : Launch}
set_option maxRecDepth 100000 in
set_option maxHeartbeats 8000000 in
theorem c_X6_add_e (hl : l.stackTraces = false) (c : Nat → Int32) (k : Nat) (hk : k < 7) : z_CF G l mX6_add 10 0 0 [.inr (11, [.ref 1]), z_ia 7 c] [.ref 0, .int (nI k)] (fun v L => v = none ∧ L = [.inr (11, [.ref 1]), z_ia 7 (z_bp c k)]) := by
  refine z_body hl (by decide) rfl (Nat.le_of_ble_eq_true rfl) ?_
  show z_J G l mX6_add (z_SF 10 0 0 [.inr (11, [.ref 1]), z_ia 7 c] (fun v L => v = none ∧ L = [.inr (11, [.ref 1]), z_ia 7 (z_bp c k)])) 0 [(0, _), (1, _)] [] _ 0 0
  refine j_iload_n dX6_add_0 rfl ?_
  refine j_if_lt (tgt := 23) dX6_add_1 (by decide) (fun c_1 => ?_) (fun c_1 => ?_)
  · exact absurd c_1 (nI_pos (n := k) (by omega))
  · have hb1 : ¬ k < 0 := fun z => c_1 ((nI_ltI (a := k) (b := 0) (by omega) (by omega)).mpr z)
    refine j_iload_n dX6_add_4 rfl ?_
    refine j_aload_n dX6_add_5 rfl rfl ?_
    refine j_getf dX6_add_6 fX6_9 rfl rfl ?_
    refine j_alen dX6_add_9 rfl rfl rfl ?_
    refine j_icmp_ge (tgt := 23) dX6_add_10 (by decide) (fun c_10 => ?_) (fun c_10 => ?_)
    · have hb10 : 7 ≤ k := (nI_leI (a := 7) (b := k) (by omega) (by omega)).mp c_10
      exact absurd hk (by omega)
    · have hb10 : k < 7 := Nat.not_le.mp (fun z => c_10 ((nI_leI (a := 7) (b := k) (by omega) (by omega)).mpr z))
      refine j_aload_n dX6_add_13 rfl rfl ?_
      refine j_getf dX6_add_14 fX6_9 rfl rfl ?_
      refine j_iload_n dX6_add_17 rfl ?_
      refine j_dup2 dX6_add_18 rfl rfl ?_
      refine j_ldN dX6_add_19 rfl (k := k) (by omega) (by omega) ?_
      refine j_iconst (v := 1) dX6_add_20 (by decide) ?_
      refine j_iadd dX6_add_21 ?_
      refine j_stoN (w' := ([.inr (11, [_]), z_ia 7 _], z_no)) dX6_add_22 rfl (k := k) (by omega) (by omega) rfl ?_
      refine j_vret dX6_add_23 rfl ?_ (Nat.le_of_ble_eq_true rfl) (Nat.le_of_ble_eq_true rfl)
      exact ⟨rfl, rfl, rfl, rfl⟩
set_option maxRecDepth 100000 in
set_option maxHeartbeats 8000000 in
theorem c_X6_of_e (hl : l.stackTraces = false) (c : Nat → Int32) (k : Nat) (hk : k < 7) : z_CF G l mX6_of 10 0 0 [.inr (11, [.ref 1]), z_ia 7 c] [.ref 0, .int (nI k)] (fun v L => v = some (.int (c k)) ∧ L = [.inr (11, [.ref 1]), z_ia 7 c]) := by
  refine z_body hl (by decide) rfl (Nat.le_of_ble_eq_true rfl) ?_
  show z_J G l mX6_of (z_SF 10 0 0 [.inr (11, [.ref 1]), z_ia 7 c] (fun v L => v = some (.int (c k)) ∧ L = [.inr (11, [.ref 1]), z_ia 7 c])) 0 [(0, _), (1, _)] [] _ 0 0
  refine j_iload_n dX6_of_0 rfl ?_
  refine j_if_lt (tgt := 22) dX6_of_1 (by decide) (fun c_1 => ?_) (fun c_1 => ?_)
  · exact absurd c_1 (nI_pos (n := k) (by omega))
  · have hb1 : ¬ k < 0 := fun z => c_1 ((nI_ltI (a := k) (b := 0) (by omega) (by omega)).mpr z)
    refine j_iload_n dX6_of_4 rfl ?_
    refine j_aload_n dX6_of_5 rfl rfl ?_
    refine j_getf dX6_of_6 fX6_9 rfl rfl ?_
    refine j_alen dX6_of_9 rfl rfl rfl ?_
    refine j_icmp_ge (tgt := 22) dX6_of_10 (by decide) (fun c_10 => ?_) (fun c_10 => ?_)
    · have hb10 : 7 ≤ k := (nI_leI (a := 7) (b := k) (by omega) (by omega)).mp c_10
      exact absurd hk (by omega)
    · have hb10 : k < 7 := Nat.not_le.mp (fun z => c_10 ((nI_leI (a := 7) (b := k) (by omega) (by omega)).mpr z))
      refine j_aload_n dX6_of_13 rfl rfl ?_
      refine j_getf dX6_of_14 fX6_9 rfl rfl ?_
      refine j_iload_n dX6_of_17 rfl ?_
      refine j_ldN dX6_of_18 rfl (k := k) (by omega) (by omega) ?_
      refine j_goto (tgt := 23) dX6_of_19 (by decide) ?_
      refine j_iret dX6_of_23 rfl rfl ?_ (Nat.le_of_ble_eq_true rfl) (Nat.le_of_ble_eq_true rfl)
      exact ⟨rfl, rfl, rfl, rfl⟩
set_option maxRecDepth 100000 in
set_option maxHeartbeats 8000000 in
theorem c_X6_startAnew_e (hl : l.stackTraces = false) (c : Nat → Int32)  : z_CF G l mX6_startAnew 10 0 0 [.inr (11, [.ref 1]), z_ia 7 c] [.ref 0] (fun v L => v = some (.int (q_sm c 7)) ∧ L = [.inr (11, [.ref 1]), z_ia 7 (q_zr c 7)]) := by
  refine z_body hl (by decide) rfl (Nat.le_of_ble_eq_true rfl) ?_
  show z_J G l mX6_startAnew (z_SF 10 0 0 [.inr (11, [.ref 1]), z_ia 7 c] (fun v L => v = some (.int (q_sm c 7)) ∧ L = [.inr (11, [.ref 1]), z_ia 7 (q_zr c 7)])) 0 [(0, _)] [] _ 0 0
  refine j_iconst (v := 0) dX6_startAnew_0 (by decide) ?_
  refine j_istore_n (lo' := [(1, _), (0, _)]) dX6_startAnew_1 (by decide) rfl ?_
  refine j_iconst (v := 0) dX6_startAnew_2 (by decide) ?_
  refine j_istore_n (lo' := [(2, _), (1, _), (0, _)]) dX6_startAnew_3 (by decide) rfl ?_
  have loop : ∀ (n9 : Nat) (j : Nat), (j ≤ 7) → (7 < j + n9) → z_J G l mX6_startAnew (z_SF 10 0 0 [.inr (11, [.ref 1]), z_ia 7 c] (fun v L => v = some (.int (q_sm c 7)) ∧ L = [.inr (11, [.ref 1]), z_ia 7 (q_zr c 7)])) 4 [(0, .ref 0), (1, .int (q_sm c j)), (2, .int (nI j))] [] ([.inr (11, [.ref 1]), z_ia 7 (q_zr c j)], z_no) 0 0 := by
    intro n9
    induction n9 with
    | zero => intro j hj hf9; exact absurd hf9 (by omega)
    | succ n9 ih =>
      intro j hj hf9
      refine j_iload_n dX6_startAnew_4 rfl ?_
      refine j_aload_n dX6_startAnew_5 rfl rfl ?_
      refine j_getf dX6_startAnew_6 fX6_9 rfl rfl ?_
      refine j_alen dX6_startAnew_9 rfl rfl rfl ?_
      refine j_icmp_ge (tgt := 35) dX6_startAnew_10 (by decide) (fun c_10 => ?_) (fun c_10 => ?_)
      · have hb10 : 7 ≤ j := (nI_leI (a := 7) (b := j) (by omega) (by omega)).mp c_10
        have hj7 : j = 7 := by omega
        subst hj7
        refine j_iload_n dX6_startAnew_35 rfl ?_
        refine j_iret dX6_startAnew_36 rfl rfl ?_ (Nat.le_of_ble_eq_true rfl) (Nat.le_of_ble_eq_true rfl)
        exact ⟨rfl, rfl, rfl, rfl⟩
      · have hb10 : j < 7 := Nat.not_le.mp (fun z => c_10 ((nI_leI (a := 7) (b := j) (by omega) (by omega)).mpr z))
        refine j_iload_n dX6_startAnew_13 rfl ?_
        refine j_aload_n dX6_startAnew_14 rfl rfl ?_
        refine j_getf dX6_startAnew_15 fX6_9 rfl rfl ?_
        refine j_iload_n dX6_startAnew_18 rfl ?_
        refine j_ldN dX6_startAnew_19 rfl (k := j) (by omega) (by omega) ?_
        refine j_iadd dX6_startAnew_20 ?_
        refine j_top (congrArg Value.int q_sms) ?_
        refine j_istore_n (lo' := [(1, _), (0, _), (2, _)]) dX6_startAnew_21 (by decide) rfl ?_
        refine j_aload_n dX6_startAnew_22 rfl rfl ?_
        refine j_getf dX6_startAnew_23 fX6_9 rfl rfl ?_
        refine j_iload_n dX6_startAnew_26 rfl ?_
        refine j_iconst (v := 0) dX6_startAnew_27 (by decide) ?_
        refine j_stoN (w' := ([.inr (11, [_]), z_ia 7 _], z_no)) dX6_startAnew_28 rfl (k := j) (by omega) (by omega) rfl ?_
        refine j_iinc (lo' := [(2, _), (1, _), (0, _)]) dX6_startAnew_29 rfl (z_inc _) (by decide) rfl ?_
        refine j_goto (tgt := 4) dX6_startAnew_32 (by decide) ?_
        exact j_lo2 (ih (j + 1) (by omega) (by omega)) (z_q1 rfl (z_q1 rfl (z_q1 rfl z_q0)))
  exact j_lo2 (loop 8 0 (by omega) (by omega)) (z_q1 rfl (z_q1 rfl (z_q1 rfl z_q0)))
set_option maxRecDepth 100000 in
set_option maxHeartbeats 8000000 in
theorem c_X8_takeOver_e (hl : l.stackTraces = false) (N : Nat) (f g : Nat → Int32) (hN : N < 1000) : z_CF G l mX8_takeOver 10 0 0 [z_ia N f, z_ia N g] [.ref 0, .ref 1] (fun v L => v = none ∧ ∃ f' : Nat → Int32, (∀ i, i < N → f' i = g i) ∧ L = [z_ia N f', z_ia N g]) := by
  refine z_body hl (by decide) rfl (Nat.le_of_ble_eq_true rfl) ?_
  show z_J G l mX8_takeOver (z_SF 10 0 0 [z_ia N f, z_ia N g] (fun v L => v = none ∧ ∃ f' : Nat → Int32, (∀ i, i < N → f' i = g i) ∧ L = [z_ia N f', z_ia N g])) 0 [(0, _), (1, _)] [] _ 0 0
  refine j_iconst (v := 0) dX8_takeOver_0 (by decide) ?_
  refine j_istore_n (lo' := [(2, _), (0, _), (1, _)]) dX8_takeOver_1 (by decide) rfl ?_
  have loop : ∀ (n9 : Nat) (f' : Nat → Int32) (j : Nat), (j ≤ N) → (∀ i, i < j → f' i = g i) → (N < j + n9) → z_J G l mX8_takeOver (z_SF 10 0 0 [z_ia N f, z_ia N g] (fun v L => v = none ∧ ∃ f' : Nat → Int32, (∀ i, i < N → f' i = g i) ∧ L = [z_ia N f', z_ia N g])) 2 [(0, .ref 0), (1, .ref 1), (2, .int (nI j))] [] ([z_ia N f', z_ia N g], z_no) 0 0 := by
    intro n9
    induction n9 with
    | zero => intro f' j hj hq hf9; exact absurd hf9 (by omega)
    | succ n9 ih =>
      intro f' j hj hq hf9
      refine j_iload_n dX8_takeOver_2 rfl ?_
      refine j_aload_n dX8_takeOver_3 rfl rfl ?_
      refine j_alen dX8_takeOver_4 rfl rfl rfl ?_
      refine j_icmp_ge (tgt := 26) dX8_takeOver_5 (by decide) (fun c_5 => ?_) (fun c_5 => ?_)
      · have hb5 : N ≤ j := (nI_leI (a := N) (b := j) (by omega) (by omega)).mp c_5
        refine j_vret dX8_takeOver_26 rfl ?_ (Nat.le_of_ble_eq_true rfl) (Nat.le_of_ble_eq_true rfl)
        exact ⟨rfl, rfl, rfl, _, fun i hi => hq i (by omega), rfl⟩
      · have hb5 : j < N := Nat.not_le.mp (fun z => c_5 ((nI_leI (a := N) (b := j) (by omega) (by omega)).mpr z))
        refine j_iload_n dX8_takeOver_8 rfl ?_
        refine j_aload_n dX8_takeOver_9 rfl rfl ?_
        refine j_alen dX8_takeOver_10 rfl rfl rfl ?_
        refine j_icmp_ge (tgt := 26) dX8_takeOver_11 (by decide) (fun c_11 => ?_) (fun c_11 => ?_)
        · have hb11 : N ≤ j := (nI_leI (a := N) (b := j) (by omega) (by omega)).mp c_11
          exact absurd hb5 (by omega)
        · have hb11 : j < N := Nat.not_le.mp (fun z => c_11 ((nI_leI (a := N) (b := j) (by omega) (by omega)).mpr z))
          refine j_aload_n dX8_takeOver_14 rfl rfl ?_
          refine j_iload_n dX8_takeOver_15 rfl ?_
          refine j_aload_n dX8_takeOver_16 rfl rfl ?_
          refine j_iload_n dX8_takeOver_17 rfl ?_
          refine j_ldN dX8_takeOver_18 rfl (k := j) (by omega) (by omega) ?_
          refine j_stoN (w' := ([z_ia _ _, z_ia _ _], z_no)) dX8_takeOver_19 rfl (k := j) (by omega) (by omega) rfl ?_
          refine j_iinc (lo' := [(2, _), (0, _), (1, _)]) dX8_takeOver_20 rfl (z_inc _) (by decide) rfl ?_
          refine j_goto (tgt := 2) dX8_takeOver_23 (by decide) ?_
          exact j_lo2 (ih _ (j + 1) (by omega) (sp_lt1 (fun i hi => (z_ui_ne (by omega)).trans (hq i hi)) z_ui_self) (by omega)) (z_q1 rfl (z_q1 rfl (z_q1 rfl z_q0)))
  exact j_lo2 (loop (N + 1) _ 0 (by omega) (fun i hi => absurd hi (Nat.not_lt_zero i)) (by omega)) (z_q1 rfl (z_q1 rfl (z_q1 rfl z_q0)))
set_option maxRecDepth 100000 in
set_option maxHeartbeats 8000000 in
theorem c_X1_isFull_e (hl : l.stackTraces = false) (x : Bool) (f c : Nat → Int32) (B : List Int32) (M : Nat) (hr : z_row 12 (nI M) f B) (hM : M = B.length) : z_CF G l mX1_isFull 10 0 0 [.inr (6, [.ref 1, .ref 2, .int (nI M), .int (z_bi x)]), z_ia 12 f, .inr (11, [.ref 3]), z_ia 7 c] [.ref 0] (fun v L => v = some (.int (z_bi (decide (12 ≤ M)))) ∧ L = [.inr (6, [.ref 1, .ref 2, .int (nI M), .int (z_bi x)]), z_ia 12 f, .inr (11, [.ref 3]), z_ia 7 c]) := by
  refine z_body hl (by decide) rfl (Nat.le_of_ble_eq_true rfl) ?_
  show z_J G l mX1_isFull (z_SF 10 0 0 [.inr (6, [.ref 1, .ref 2, .int (nI M), .int (z_bi x)]), z_ia 12 f, .inr (11, [.ref 3]), z_ia 7 c] (fun v L => v = some (.int (z_bi (decide (12 ≤ M)))) ∧ L = [.inr (6, [.ref 1, .ref 2, .int (nI M), .int (z_bi x)]), z_ia 12 f, .inr (11, [.ref 3]), z_ia 7 c])) 0 [(0, _)] [] _ 0 0
  have hln := hr.2.1
  refine j_aload_n dX1_isFull_0 rfl rfl ?_
  refine j_getf dX1_isFull_1 fX1_22 rfl rfl ?_
  refine j_aload_n dX1_isFull_4 rfl rfl ?_
  refine j_getf dX1_isFull_5 fX1_9 rfl rfl ?_
  refine j_alen dX1_isFull_8 rfl rfl rfl ?_
  refine j_icmp_lt (tgt := 16) dX1_isFull_9 (by decide) (fun c_9 => ?_) (fun c_9 => ?_)
  · have hb9 : M < 12 := (nI_ltI (a := M) (b := 12) (by omega) (by omega)).mp c_9
    refine j_iconst (v := 0) dX1_isFull_16 (by decide) ?_
    refine j_iret dX1_isFull_17 rfl rfl ?_ (Nat.le_of_ble_eq_true rfl) (Nat.le_of_ble_eq_true rfl)
    first | exact ⟨rfl, rfl, by rw [q_b1 (by omega)], rfl⟩ | exact ⟨rfl, rfl, by rw [q_b0 (by omega)], rfl⟩
  · have hb9 : ¬ M < 12 := fun z => c_9 ((nI_ltI (a := M) (b := 12) (by omega) (by omega)).mpr z)
    refine j_iconst (v := 1) dX1_isFull_12 (by decide) ?_
    refine j_goto (tgt := 17) dX1_isFull_13 (by decide) ?_
    refine j_iret dX1_isFull_17 rfl rfl ?_ (Nat.le_of_ble_eq_true rfl) (Nat.le_of_ble_eq_true rfl)
    first | exact ⟨rfl, rfl, by rw [q_b1 (by omega)], rfl⟩ | exact ⟨rfl, rfl, by rw [q_b0 (by omega)], rfl⟩
set_option maxRecDepth 100000 in
set_option maxHeartbeats 8000000 in
theorem c_X1_isPlace_e (hl : l.stackTraces = false) (x : Bool) (f c : Nat → Int32) (B : List Int32) (M : Nat) (j : Nat) (hr : z_row 12 (nI M) f B) (hM : M = B.length) (hj : j < 1000) : z_CF G l mX1_isPlace 10 0 0 [.inr (6, [.ref 1, .ref 2, .int (nI M), .int (z_bi x)]), z_ia 12 f, .inr (11, [.ref 3]), z_ia 7 c] [.ref 0, .int (nI j)] (fun v L => v = some (.int (z_bi (decide (j < M)))) ∧ L = [.inr (6, [.ref 1, .ref 2, .int (nI M), .int (z_bi x)]), z_ia 12 f, .inr (11, [.ref 3]), z_ia 7 c]) := by
  refine z_body hl (by decide) rfl (Nat.le_of_ble_eq_true rfl) ?_
  show z_J G l mX1_isPlace (z_SF 10 0 0 [.inr (6, [.ref 1, .ref 2, .int (nI M), .int (z_bi x)]), z_ia 12 f, .inr (11, [.ref 3]), z_ia 7 c] (fun v L => v = some (.int (z_bi (decide (j < M)))) ∧ L = [.inr (6, [.ref 1, .ref 2, .int (nI M), .int (z_bi x)]), z_ia 12 f, .inr (11, [.ref 3]), z_ia 7 c])) 0 [(0, _), (1, _)] [] _ 0 0
  have hln := hr.2.1
  refine j_iload_n dX1_isPlace_0 rfl ?_
  refine j_if_lt (tgt := 25) dX1_isPlace_1 (by decide) (fun c_1 => ?_) (fun c_1 => ?_)
  · exact absurd c_1 (nI_pos (n := j) (by omega))
  · have hb1 : ¬ j < 0 := fun z => c_1 ((nI_ltI (a := j) (b := 0) (by omega) (by omega)).mpr z)
    refine j_iload_n dX1_isPlace_4 rfl ?_
    refine j_aload_n dX1_isPlace_5 rfl rfl ?_
    refine j_getf dX1_isPlace_6 fX1_22 rfl rfl ?_
    refine j_icmp_ge (tgt := 25) dX1_isPlace_9 (by decide) (fun c_9 => ?_) (fun c_9 => ?_)
    · have hb9 : M ≤ j := (nI_leI (a := M) (b := j) (by omega) (by omega)).mp c_9
      refine j_iconst (v := 0) dX1_isPlace_25 (by decide) ?_
      refine j_iret dX1_isPlace_26 rfl rfl ?_ (Nat.le_of_ble_eq_true rfl) (Nat.le_of_ble_eq_true rfl)
      first | exact ⟨rfl, rfl, by rw [q_b1 (by omega)], rfl⟩ | exact ⟨rfl, rfl, by rw [q_b0 (by omega)], rfl⟩
    · have hb9 : j < M := Nat.not_le.mp (fun z => c_9 ((nI_leI (a := M) (b := j) (by omega) (by omega)).mpr z))
      refine j_iload_n dX1_isPlace_12 rfl ?_
      refine j_aload_n dX1_isPlace_13 rfl rfl ?_
      refine j_getf dX1_isPlace_14 fX1_9 rfl rfl ?_
      refine j_alen dX1_isPlace_17 rfl rfl rfl ?_
      refine j_icmp_ge (tgt := 25) dX1_isPlace_18 (by decide) (fun c_18 => ?_) (fun c_18 => ?_)
      · have hb18 : 12 ≤ j := (nI_leI (a := 12) (b := j) (by omega) (by omega)).mp c_18
        exact absurd hb18 (by omega)
      · have hb18 : j < 12 := Nat.not_le.mp (fun z => c_18 ((nI_leI (a := 12) (b := j) (by omega) (by omega)).mpr z))
        refine j_iconst (v := 1) dX1_isPlace_21 (by decide) ?_
        refine j_goto (tgt := 26) dX1_isPlace_22 (by decide) ?_
        refine j_iret dX1_isPlace_26 rfl rfl ?_ (Nat.le_of_ble_eq_true rfl) (Nat.le_of_ble_eq_true rfl)
        first | exact ⟨rfl, rfl, by rw [q_b1 (by omega)], rfl⟩ | exact ⟨rfl, rfl, by rw [q_b0 (by omega)], rfl⟩
set_option maxRecDepth 100000 in
set_option maxHeartbeats 8000000 in
theorem c_X1_valueAt_e (hl : l.stackTraces = false) (x : Bool) (f c : Nat → Int32) (B : List Int32) (M : Nat) (j : Nat) (hr : z_row 12 (nI M) f B) (hM : M = B.length) (hj : j < B.length) : z_CF G l mX1_valueAt 11 0 0 [.inr (6, [.ref 1, .ref 2, .int (nI M), .int (z_bi x)]), z_ia 12 f, .inr (11, [.ref 3]), z_ia 7 c] [.ref 0, .int (nI j)] (fun v L => v = some (.int (f j)) ∧ L = [.inr (6, [.ref 1, .ref 2, .int (nI M), .int (z_bi x)]), z_ia 12 f, .inr (11, [.ref 3]), z_ia 7 c]) := by
  refine z_body hl (by decide) rfl (Nat.le_of_ble_eq_true rfl) ?_
  show z_J G l mX1_valueAt (z_SF 11 0 0 [.inr (6, [.ref 1, .ref 2, .int (nI M), .int (z_bi x)]), z_ia 12 f, .inr (11, [.ref 3]), z_ia 7 c] (fun v L => v = some (.int (f j)) ∧ L = [.inr (6, [.ref 1, .ref 2, .int (nI M), .int (z_bi x)]), z_ia 12 f, .inr (11, [.ref 3]), z_ia 7 c])) 0 [(0, _), (1, _)] [] _ 0 0
  have hln := hr.2.1
  refine j_aload_n dX1_valueAt_0 rfl rfl ?_
  refine j_iload_n dX1_valueAt_1 rfl ?_
  refine j_callV (q := (RX1, TX1, 4)) dX1_valueAt_2 kX1_isPlace lX1_26 inX1_isPlace seX1_isPlace rfl rfl (z_frame [0, 1, 2, 3] rfl (by decide) (Nat.le_of_ble_eq_true rfl) (c_X1_isPlace_e hl _ _ _ B M j hr hM (by omega))) (Nat.le_of_ble_eq_true rfl) ⟨(Nat.le_of_ble_eq_true rfl), (Nat.le_of_ble_eq_true rfl)⟩ rfl (Nat.le_of_ble_eq_true rfl) rfl rfl (fun _ _ h => h.elim) ?_
  rintro _ _ ⟨_, _, ⟨rfl, rfl⟩, rfl, rfl⟩
  refine j_w ([.inr (6, [_, _, _, _]), z_ia 12 _, .inr (11, [_]), z_ia 7 _], z_no) rfl ?_
  refine j_if_eq (tgt := 17) dX1_valueAt_5 (by decide) (fun c_5 => ?_) (fun c_5 => ?_)
  · have hb5 := z_bF c_5
    exact absurd (show j < M by omega) (of_decide_eq_false hb5)
  · have hb5 := z_bt c_5
    refine j_aload_n dX1_valueAt_8 rfl rfl ?_
    refine j_getf dX1_valueAt_9 fX1_9 rfl rfl ?_
    refine j_iload_n dX1_valueAt_12 rfl ?_
    refine j_ldN dX1_valueAt_13 rfl (k := j) (by omega) (by omega) ?_
    refine j_goto (tgt := 18) dX1_valueAt_14 (by decide) ?_
    refine j_iret dX1_valueAt_18 rfl rfl ?_ (Nat.le_of_ble_eq_true rfl) (Nat.le_of_ble_eq_true rfl)
    exact ⟨rfl, rfl, rfl, rfl⟩
set_option maxRecDepth 100000 in
set_option maxHeartbeats 8000000 in
theorem c_X1_setAt_e (hl : l.stackTraces = false) (x : Bool) (f c : Nat → Int32) (B : List Int32) (M : Nat) (j : Nat) (y : Int32) (hr : z_row 12 (nI M) f B) (hM : M = B.length) (hj : j < B.length) : z_CF G l mX1_setAt 11 0 0 [.inr (6, [.ref 1, .ref 2, .int (nI M), .int (z_bi x)]), z_ia 12 f, .inr (11, [.ref 3]), z_ia 7 c] [.ref 0, .int (nI j), .int y] (fun v L => v = none ∧ L = [.inr (6, [.ref 1, .ref 2, .int (nI M), .int (z_bi x)]), z_ia 12 (z_ui f j y), .inr (11, [.ref 3]), z_ia 7 c]) := by
  refine z_body hl (by decide) rfl (Nat.le_of_ble_eq_true rfl) ?_
  show z_J G l mX1_setAt (z_SF 11 0 0 [.inr (6, [.ref 1, .ref 2, .int (nI M), .int (z_bi x)]), z_ia 12 f, .inr (11, [.ref 3]), z_ia 7 c] (fun v L => v = none ∧ L = [.inr (6, [.ref 1, .ref 2, .int (nI M), .int (z_bi x)]), z_ia 12 (z_ui f j y), .inr (11, [.ref 3]), z_ia 7 c])) 0 [(0, _), (1, _), (2, _)] [] _ 0 0
  have hln := hr.2.1
  refine j_aload_n dX1_setAt_0 rfl rfl ?_
  refine j_iload_n dX1_setAt_1 rfl ?_
  refine j_callV (q := (RX1, TX1, 4)) dX1_setAt_2 kX1_isPlace lX1_26 inX1_isPlace seX1_isPlace rfl rfl (z_frame [0, 1, 2, 3] rfl (by decide) (Nat.le_of_ble_eq_true rfl) (c_X1_isPlace_e hl _ _ _ B M j hr hM (by omega))) (Nat.le_of_ble_eq_true rfl) ⟨(Nat.le_of_ble_eq_true rfl), (Nat.le_of_ble_eq_true rfl)⟩ rfl (Nat.le_of_ble_eq_true rfl) rfl rfl (fun _ _ h => h.elim) ?_
  rintro _ _ ⟨_, _, ⟨rfl, rfl⟩, rfl, rfl⟩
  refine j_w ([.inr (6, [_, _, _, _]), z_ia 12 _, .inr (11, [_]), z_ia 7 _], z_no) rfl ?_
  refine j_if_eq (tgt := 15) dX1_setAt_5 (by decide) (fun c_5 => ?_) (fun c_5 => ?_)
  · have hb5 := z_bF c_5
    exact absurd (show j < M by omega) (of_decide_eq_false hb5)
  · have hb5 := z_bt c_5
    refine j_aload_n dX1_setAt_8 rfl rfl ?_
    refine j_getf dX1_setAt_9 fX1_9 rfl rfl ?_
    refine j_iload_n dX1_setAt_12 rfl ?_
    refine j_iload_n dX1_setAt_13 rfl ?_
    refine j_stoN (w' := ([.inr (6, [_, _, _, _]), z_ia 12 _, .inr (11, [_]), z_ia 7 _], z_no)) dX1_setAt_14 rfl (k := j) (by omega) (by omega) rfl ?_
    refine j_vret dX1_setAt_15 rfl ?_ (Nat.le_of_ble_eq_true rfl) (Nat.le_of_ble_eq_true rfl)
    exact ⟨rfl, rfl, rfl, rfl⟩
set_option maxRecDepth 100000 in
set_option maxHeartbeats 8000000 in
theorem c_X1_append_e (hl : l.stackTraces = false) (x : Bool) (f c : Nat → Int32) (B : List Int32) (M : Nat) (y : Int32) (hr : z_row 12 (nI M) f B) (hM : M = B.length) (hj : M < 12) : z_CF G l mX1_append 10 0 0 [.inr (6, [.ref 1, .ref 2, .int (nI M), .int (z_bi x)]), z_ia 12 f, .inr (11, [.ref 3]), z_ia 7 c] [.ref 0, .int y] (fun v L => v = none ∧ L = [.inr (6, [.ref 1, .ref 2, .int (nI (B ++ [y]).length), .int (z_bi x)]), z_ia 12 (z_ui f M y), .inr (11, [.ref 3]), z_ia 7 c]) := by
  refine z_body hl (by decide) rfl (Nat.le_of_ble_eq_true rfl) ?_
  show z_J G l mX1_append (z_SF 10 0 0 [.inr (6, [.ref 1, .ref 2, .int (nI M), .int (z_bi x)]), z_ia 12 f, .inr (11, [.ref 3]), z_ia 7 c] (fun v L => v = none ∧ L = [.inr (6, [.ref 1, .ref 2, .int (nI (B ++ [y]).length), .int (z_bi x)]), z_ia 12 (z_ui f M y), .inr (11, [.ref 3]), z_ia 7 c])) 0 [(0, _), (1, _)] [] _ 0 0
  have hln := hr.2.1
  have hl2 : (B ++ [y]).length = M + 1 := by rw [List.length_append, hM]; rfl
  refine j_aload_n dX1_append_0 rfl rfl ?_
  refine j_getf dX1_append_1 fX1_22 rfl rfl ?_
  refine j_if_lt (tgt := 39) dX1_append_4 (by decide) (fun c_4 => ?_) (fun c_4 => ?_)
  · exact absurd c_4 (nI_pos (n := M) (by omega))
  · have hb4 : ¬ M < 0 := fun z => c_4 ((nI_ltI (a := M) (b := 0) (by omega) (by omega)).mpr z)
    refine j_aload_n dX1_append_7 rfl rfl ?_
    refine j_getf dX1_append_8 fX1_22 rfl rfl ?_
    refine j_aload_n dX1_append_11 rfl rfl ?_
    refine j_getf dX1_append_12 fX1_9 rfl rfl ?_
    refine j_alen dX1_append_15 rfl rfl rfl ?_
    refine j_icmp_ge (tgt := 39) dX1_append_16 (by decide) (fun c_16 => ?_) (fun c_16 => ?_)
    · have hb16 : 12 ≤ M := (nI_leI (a := 12) (b := M) (by omega) (by omega)).mp c_16
      exact absurd hb16 (by omega)
    · have hb16 : M < 12 := Nat.not_le.mp (fun z => c_16 ((nI_leI (a := 12) (b := M) (by omega) (by omega)).mpr z))
      refine j_aload_n dX1_append_19 rfl rfl ?_
      refine j_getf dX1_append_20 fX1_9 rfl rfl ?_
      refine j_aload_n dX1_append_23 rfl rfl ?_
      refine j_getf dX1_append_24 fX1_22 rfl rfl ?_
      refine j_iload_n dX1_append_27 rfl ?_
      refine j_stoN (w' := ([.inr (6, [_, _, _, _]), z_ia 12 _, .inr (11, [_]), z_ia 7 _], z_no)) dX1_append_28 rfl (k := M) (by omega) (by omega) rfl ?_
      refine j_aload_n dX1_append_29 rfl rfl ?_
      refine j_dup dX1_append_30 rfl ?_
      refine j_getf dX1_append_31 fX1_22 rfl rfl ?_
      refine j_iconst (v := 1) dX1_append_34 (by decide) ?_
      refine j_iadd dX1_append_35 ?_
      refine j_top (congrArg Value.int (show nI (M) + nI (1) = nI (M + 1) from nI_add _ _)) ?_
      refine j_put (w' := ([.inr (6, [_, _, _, _]), z_ia 12 _, .inr (11, [_]), z_ia 7 _], z_no)) dX1_append_36 fX1_22 tX1_2 rfl ⟨rfl, rfl⟩ rfl ?_
      refine j_vret dX1_append_39 rfl ?_ (Nat.le_of_ble_eq_true rfl) (Nat.le_of_ble_eq_true rfl)
      exact ⟨rfl, rfl, rfl, (by rw [hl2])⟩
set_option maxRecDepth 100000 in
set_option maxHeartbeats 8000000 in
theorem c_X1_shorten_e (hl : l.stackTraces = false) (x : Bool) (f c : Nat → Int32) (B : List Int32) (M : Nat) (k : Nat) (hr : z_row 12 (nI M) f B) (hM : M = B.length) (hk : k ≤ M) : z_CF G l mX1_shorten 10 0 0 [.inr (6, [.ref 1, .ref 2, .int (nI M), .int (z_bi x)]), z_ia 12 f, .inr (11, [.ref 3]), z_ia 7 c] [.ref 0, .int (nI k)] (fun v L => v = none ∧ L = [.inr (6, [.ref 1, .ref 2, .int (nI (B.take (M - k)).length), .int (z_bi x)]), z_ia 12 f, .inr (11, [.ref 3]), z_ia 7 c]) := by
  refine z_body hl (by decide) rfl (Nat.le_of_ble_eq_true rfl) ?_
  show z_J G l mX1_shorten (z_SF 10 0 0 [.inr (6, [.ref 1, .ref 2, .int (nI M), .int (z_bi x)]), z_ia 12 f, .inr (11, [.ref 3]), z_ia 7 c] (fun v L => v = none ∧ L = [.inr (6, [.ref 1, .ref 2, .int (nI (B.take (M - k)).length), .int (z_bi x)]), z_ia 12 f, .inr (11, [.ref 3]), z_ia 7 c])) 0 [(0, _), (1, _)] [] _ 0 0
  have hln := hr.2.1
  have hl2 : (B.take (M - k)).length = M - k := by rw [List.length_take]; omega
  refine j_iload_n dX1_shorten_0 rfl ?_
  refine j_if_lt (tgt := 22) dX1_shorten_1 (by decide) (fun c_1 => ?_) (fun c_1 => ?_)
  · exact absurd c_1 (nI_pos (n := k) (by omega))
  · have hb1 : ¬ k < 0 := fun z => c_1 ((nI_ltI (a := k) (b := 0) (by omega) (by omega)).mpr z)
    refine j_iload_n dX1_shorten_4 rfl ?_
    refine j_aload_n dX1_shorten_5 rfl rfl ?_
    refine j_getf dX1_shorten_6 fX1_22 rfl rfl ?_
    refine j_icmp_gt (tgt := 22) dX1_shorten_9 (by decide) (fun c_9 => ?_) (fun c_9 => ?_)
    · have hb9 : M < k := (nI_ltI (a := M) (b := k) (by omega) (by omega)).mp c_9
      exact absurd hb9 (by omega)
    · have hb9 : ¬ M < k := fun z => c_9 ((nI_ltI (a := M) (b := k) (by omega) (by omega)).mpr z)
      refine j_aload_n dX1_shorten_12 rfl rfl ?_
      refine j_dup dX1_shorten_13 rfl ?_
      refine j_getf dX1_shorten_14 fX1_22 rfl rfl ?_
      refine j_iload_n dX1_shorten_17 rfl ?_
      refine j_isub dX1_shorten_18 ?_
      refine j_top (congrArg Value.int (q_nsub (a := M) (b := k) (by omega))) ?_
      refine j_put (w' := ([.inr (6, [_, _, _, _]), z_ia 12 _, .inr (11, [_]), z_ia 7 _], z_no)) dX1_shorten_19 fX1_22 tX1_2 rfl ⟨rfl, rfl⟩ rfl ?_
      refine j_vret dX1_shorten_22 rfl ?_ (Nat.le_of_ble_eq_true rfl) (Nat.le_of_ble_eq_true rfl)
      exact ⟨rfl, rfl, rfl, (by rw [hl2])⟩
set_option maxRecDepth 100000 in
set_option maxHeartbeats 8000000 in
theorem c_X1_takeOut_e (hl : l.stackTraces = false) (x : Bool) (f c : Nat → Int32) (A D : List Int32) (y : Int32) (M : Nat) (hr : z_row 12 (nI M) f (A ++ y :: D)) (hM : M = (A ++ y :: D).length) : z_CF G l mX1_takeOut 12 0 0 [.inr (6, [.ref 1, .ref 2, .int (nI M), .int (z_bi x)]), z_ia 12 f, .inr (11, [.ref 3]), z_ia 7 c] [.ref 0, .int (nI A.length)] (fun v L => v = none ∧ ∃ f' : Nat → Int32, z_row 12 (nI (M - 1)) f' (A ++ D) ∧ L = [.inr (6, [.ref 1, .ref 2, .int (nI (M - 1)), .int (z_bi x)]), z_ia 12 f', .inr (11, [.ref 3]), z_ia 7 c]) := by
  refine z_body hl (by decide) rfl (Nat.le_of_ble_eq_true rfl) ?_
  show z_J G l mX1_takeOut (z_SF 12 0 0 [.inr (6, [.ref 1, .ref 2, .int (nI M), .int (z_bi x)]), z_ia 12 f, .inr (11, [.ref 3]), z_ia 7 c] (fun v L => v = none ∧ ∃ f' : Nat → Int32, z_row 12 (nI (M - 1)) f' (A ++ D) ∧ L = [.inr (6, [.ref 1, .ref 2, .int (nI (M - 1)), .int (z_bi x)]), z_ia 12 f', .inr (11, [.ref 3]), z_ia 7 c])) 0 [(0, _), (1, _)] [] _ 0 0
  have hln := hr.2.1
  have hL : (A ++ y :: D).length = A.length + (D.length + 1) := sp_lmid
  refine j_aload_n dX1_takeOut_0 rfl rfl ?_
  refine j_iload_n dX1_takeOut_1 rfl ?_
  refine j_callV (q := (RX1, TX1, 4)) dX1_takeOut_2 kX1_isPlace lX1_26 inX1_isPlace seX1_isPlace rfl rfl (z_frame [0, 1, 2, 3] rfl (by decide) (Nat.le_of_ble_eq_true rfl) (c_X1_isPlace_e hl _ _ _ (A ++ y :: D) M A.length hr hM (by omega))) (Nat.le_of_ble_eq_true rfl) ⟨(Nat.le_of_ble_eq_true rfl), (Nat.le_of_ble_eq_true rfl)⟩ rfl (Nat.le_of_ble_eq_true rfl) rfl rfl (fun _ _ h => h.elim) ?_
  rintro _ _ ⟨_, _, ⟨rfl, rfl⟩, rfl, rfl⟩
  refine j_w ([.inr (6, [_, _, _, _]), z_ia 12 _, .inr (11, [_]), z_ia 7 _], z_no) rfl ?_
  refine j_if_ne (tgt := 9) dX1_takeOut_5 (by decide) (fun c_5 => ?_) (fun c_5 => ?_)
  · have hb5 := z_bt c_5
    refine j_iload_n dX1_takeOut_9 rfl ?_
    refine j_iconst (v := 1) dX1_takeOut_10 (by decide) ?_
    refine j_iadd dX1_takeOut_11 ?_
    refine j_top (congrArg Value.int (show nI (A.length) + nI (1) = nI (A.length + 1) from nI_add _ _)) ?_
    refine j_istore_n (lo' := [(2, _), (0, _), (1, _)]) dX1_takeOut_12 (by decide) rfl ?_
    have loop : ∀ (n9 : Nat) (f' : Nat → Int32) (k : Nat), (z_mv f f' A.length k) → (k ≤ D.length) → (D.length < k + n9) → z_J G l mX1_takeOut (z_SF 12 0 0 [.inr (6, [.ref 1, .ref 2, .int (nI M), .int (z_bi x)]), z_ia 12 f, .inr (11, [.ref 3]), z_ia 7 c] (fun v L => v = none ∧ ∃ f' : Nat → Int32, z_row 12 (nI (M - 1)) f' (A ++ D) ∧ L = [.inr (6, [.ref 1, .ref 2, .int (nI (M - 1)), .int (z_bi x)]), z_ia 12 f', .inr (11, [.ref 3]), z_ia 7 c])) 13 [(0, .ref 0), (2, .int (nI (A.length + 1 + k)))] [] ([.inr (6, [.ref 1, .ref 2, .int (nI M), .int (z_bi x)]), z_ia 12 f', .inr (11, [.ref 3]), z_ia 7 c], z_no) 0 0 := by
      intro n9
      induction n9 with
      | zero => intro f' k hm hk hf9; exact absurd hf9 (by omega)
      | succ n9 ih =>
        intro f' k hm hk hf9
        refine j_iload_n dX1_takeOut_13 rfl ?_
        refine j_aload_n dX1_takeOut_14 rfl rfl ?_
        refine j_getf dX1_takeOut_15 fX1_22 rfl rfl ?_
        refine j_icmp_ge (tgt := 50) dX1_takeOut_18 (by decide) (fun c_18 => ?_) (fun c_18 => ?_)
        · have hb18 : M ≤ (A.length + 1 + k) := (nI_leI (a := M) (b := (A.length + 1 + k)) (by omega) (by omega)).mp c_18
          have hkD : k = D.length := by omega
          subst hkD
          refine j_aload_n dX1_takeOut_50 rfl rfl ?_
          refine j_dup dX1_takeOut_51 rfl ?_
          refine j_getf dX1_takeOut_52 fX1_22 rfl rfl ?_
          refine j_iconst (v := 1) dX1_takeOut_55 (by decide) ?_
          refine j_isub dX1_takeOut_56 ?_
          refine j_top (congrArg Value.int (q_nsub (a := M) (b := 1) (by omega))) ?_
          refine j_put (w' := ([.inr (6, [_, _, _, _]), z_ia 12 _, .inr (11, [_]), z_ia 7 _], z_no)) dX1_takeOut_57 fX1_22 tX1_2 rfl ⟨rfl, rfl⟩ rfl ?_
          refine j_vret dX1_takeOut_60 rfl ?_ (Nat.le_of_ble_eq_true rfl) (Nat.le_of_ble_eq_true rfl)
          exact ⟨rfl, rfl, rfl, _, (by rw [hM] at hr ⊢; exact hm.row hr), rfl⟩
        · have hb18 : (A.length + 1 + k) < M := Nat.not_le.mp (fun z => c_18 ((nI_leI (a := M) (b := (A.length + 1 + k)) (by omega) (by omega)).mpr z))
          refine j_iload_n dX1_takeOut_21 rfl ?_
          refine j_aload_n dX1_takeOut_22 rfl rfl ?_
          refine j_getf dX1_takeOut_23 fX1_9 rfl rfl ?_
          refine j_alen dX1_takeOut_26 rfl rfl rfl ?_
          refine j_icmp_ge (tgt := 50) dX1_takeOut_27 (by decide) (fun c_27 => ?_) (fun c_27 => ?_)
          · have hb27 : 12 ≤ (A.length + 1 + k) := (nI_leI (a := 12) (b := (A.length + 1 + k)) (by omega) (by omega)).mp c_27
            exact absurd hb27 (by omega)
          · have hb27 : (A.length + 1 + k) < 12 := Nat.not_le.mp (fun z => c_27 ((nI_leI (a := 12) (b := (A.length + 1 + k)) (by omega) (by omega)).mpr z))
            refine j_aload_n dX1_takeOut_30 rfl rfl ?_
            refine j_getf dX1_takeOut_31 fX1_9 rfl rfl ?_
            refine j_iload_n dX1_takeOut_34 rfl ?_
            refine j_iconst (v := 1) dX1_takeOut_35 (by decide) ?_
            refine j_isub dX1_takeOut_36 ?_
            refine j_top (congrArg Value.int (q_nsub (a := (A.length + 1 + k)) (b := 1) (by omega))) ?_
            refine j_aload_n dX1_takeOut_37 rfl rfl ?_
            refine j_getf dX1_takeOut_38 fX1_9 rfl rfl ?_
            refine j_iload_n dX1_takeOut_41 rfl ?_
            refine j_ldN dX1_takeOut_42 rfl (k := (A.length + 1 + k)) (by omega) (by omega) ?_
            refine j_stoN (w' := ([.inr (6, [_, _, _, _]), z_ia 12 _, .inr (11, [_]), z_ia 7 _], z_no)) dX1_takeOut_43 rfl (k := ((A.length + 1 + k) - 1)) (by omega) (by omega) rfl ?_
            refine j_iinc (lo' := [(2, _), (0, _)]) dX1_takeOut_44 rfl (z_inc _) (by decide) rfl ?_
            refine j_goto (tgt := 13) dX1_takeOut_47 (by decide) ?_
            exact j_lo2 (ih _ (k + 1) (by have z := hm.step; rw [show A.length + k = A.length + 1 + k - 1 by omega, show A.length + 1 + k - 1 + 1 = A.length + 1 + k by omega] at z; exact z) (by omega) (by omega)) (z_q1 rfl (z_q1 rfl z_q0))
    exact j_lo2 (loop (D.length + 1) f 0 z_mv.rf (by omega) (by omega)) (z_q1 rfl (z_q1 rfl z_q0))
  · have hb5 := z_bF c_5
    exact absurd (show A.length < M by omega) (of_decide_eq_false hb5)
set_option maxRecDepth 100000 in
set_option maxHeartbeats 8000000 in
theorem c_X1_become_e (hl : l.stackTraces = false) (m : Int32) (x : Bool) (f c : Nat → Int32) (m2 : Int32) (x2 : Bool) (f2 c2 : Nat → Int32)  : z_CF G l mX1_become 12 0 0 [.inr (6, [.ref 1, .ref 2, .int m, .int (z_bi x)]), z_ia 12 f, .inr (11, [.ref 3]), z_ia 7 c, .inr (6, [.ref 5, .ref 6, .int m2, .int (z_bi x2)]), z_ia 12 f2, .inr (11, [.ref 7]), z_ia 7 c2] [.ref 0, .ref 4] (fun v L => v = none ∧ ∃ f' : Nat → Int32, (∀ i, i < 12 → f' i = f2 i) ∧ L = [.inr (6, [.ref 1, .ref 2, .int m2, .int (z_bi x)]), z_ia 12 f', .inr (11, [.ref 3]), z_ia 7 c, .inr (6, [.ref 5, .ref 6, .int m2, .int (z_bi x2)]), z_ia 12 f2, .inr (11, [.ref 7]), z_ia 7 c2]) := by
  refine z_body hl (by decide) rfl (Nat.le_of_ble_eq_true rfl) ?_
  show z_J G l mX1_become (z_SF 12 0 0 [.inr (6, [.ref 1, .ref 2, .int m, .int (z_bi x)]), z_ia 12 f, .inr (11, [.ref 3]), z_ia 7 c, .inr (6, [.ref 5, .ref 6, .int m2, .int (z_bi x2)]), z_ia 12 f2, .inr (11, [.ref 7]), z_ia 7 c2] (fun v L => v = none ∧ ∃ f' : Nat → Int32, (∀ i, i < 12 → f' i = f2 i) ∧ L = [.inr (6, [.ref 1, .ref 2, .int m2, .int (z_bi x)]), z_ia 12 f', .inr (11, [.ref 3]), z_ia 7 c, .inr (6, [.ref 5, .ref 6, .int m2, .int (z_bi x2)]), z_ia 12 f2, .inr (11, [.ref 7]), z_ia 7 c2])) 0 [(0, _), (1, _)] [] _ 0 0
  refine j_aload_n dX1_become_0 rfl rfl ?_
  refine j_getf dX1_become_1 fX1_9 rfl rfl ?_
  refine j_aload_n dX1_become_4 rfl rfl ?_
  refine j_getf dX1_become_5 fX1_9 rfl rfl ?_
  refine j_callSN dX1_become_8 kX8_takeOver lX1_30 stX8_takeOver (z_frame [1, 5] rfl (by decide) (Nat.le_of_ble_eq_true rfl) (c_X8_takeOver_e hl 12 f f2 (by decide))) (Nat.le_of_ble_eq_true rfl) ⟨(Nat.le_of_ble_eq_true rfl), (Nat.le_of_ble_eq_true rfl)⟩ rfl (Nat.le_of_ble_eq_true rfl) rfl rfl (fun _ _ h => h.elim) ?_
  rintro _ _ ⟨_, _, ⟨rfl, f9, hf9, rfl⟩, rfl, rfl⟩
  refine j_w ([.inr (6, [_, _, _, _]), z_ia 12 _, .inr (11, [_]), z_ia 7 _, .inr (6, [_, _, _, _]), z_ia 12 _, .inr (11, [_]), z_ia 7 _], z_no) rfl ?_
  refine j_aload_n dX1_become_11 rfl rfl ?_
  refine j_aload_n dX1_become_12 rfl rfl ?_
  refine j_getf dX1_become_13 fX1_22 rfl rfl ?_
  refine j_put (w' := ([.inr (6, [_, _, _, _]), z_ia 12 _, .inr (11, [_]), z_ia 7 _, .inr (6, [_, _, _, _]), z_ia 12 _, .inr (11, [_]), z_ia 7 _], z_no)) dX1_become_16 fX1_22 tX1_2 rfl ⟨rfl, rfl⟩ rfl ?_
  refine j_vret dX1_become_19 rfl ?_ (Nat.le_of_ble_eq_true rfl) (Nat.le_of_ble_eq_true rfl)
  exact ⟨rfl, rfl, rfl, _, hf9, rfl⟩
set_option maxRecDepth 100000 in
set_option maxHeartbeats 8000000 in
theorem c_X2_isMore_e (hl : l.stackTraces = false) (k u : Int32) (j : Nat) (x : Bool) (f c : Nat → Int32) (B : List Int32) (M : Nat) (hr : z_row 12 (nI M) f B) (hM : M = B.length) (hj : j < 1000) : z_CF G l mX2_isMore 10 0 0 [.inr (7, [.ref 3, .int k, .int u, .ref 1, .int (nI j)]), .inr (6, [.ref 2, .ref 3, .int (nI M), .int (z_bi x)]), z_ia 12 f, .inr (11, [.ref 4]), z_ia 7 c] [.ref 0] (fun v L => v = some (.int (z_bi (decide (j < M)))) ∧ L = [.inr (7, [.ref 3, .int k, .int u, .ref 1, .int (nI j)]), .inr (6, [.ref 2, .ref 3, .int (nI M), .int (z_bi x)]), z_ia 12 f, .inr (11, [.ref 4]), z_ia 7 c]) := by
  refine z_body hl (by decide) rfl (Nat.le_of_ble_eq_true rfl) ?_
  show z_J G l mX2_isMore (z_SF 10 0 0 [.inr (7, [.ref 3, .int k, .int u, .ref 1, .int (nI j)]), .inr (6, [.ref 2, .ref 3, .int (nI M), .int (z_bi x)]), z_ia 12 f, .inr (11, [.ref 4]), z_ia 7 c] (fun v L => v = some (.int (z_bi (decide (j < M)))) ∧ L = [.inr (7, [.ref 3, .int k, .int u, .ref 1, .int (nI j)]), .inr (6, [.ref 2, .ref 3, .int (nI M), .int (z_bi x)]), z_ia 12 f, .inr (11, [.ref 4]), z_ia 7 c])) 0 [(0, _)] [] _ 0 0
  have hln := hr.2.1
  refine j_aload_n dX2_isMore_0 rfl rfl ?_
  refine j_getf dX2_isMore_1 fX2_21 rfl rfl ?_
  refine j_aload_n dX2_isMore_4 rfl rfl ?_
  refine j_getf dX2_isMore_5 fX2_15 rfl rfl ?_
  refine j_getf dX2_isMore_8 fX2_25 rfl rfl ?_
  refine j_icmp_ge (tgt := 18) dX2_isMore_11 (by decide) (fun c_11 => ?_) (fun c_11 => ?_)
  · have hb11 : M ≤ j := (nI_leI (a := M) (b := j) (by omega) (by omega)).mp c_11
    refine j_iconst (v := 0) dX2_isMore_18 (by decide) ?_
    refine j_iret dX2_isMore_19 rfl rfl ?_ (Nat.le_of_ble_eq_true rfl) (Nat.le_of_ble_eq_true rfl)
    first | exact ⟨rfl, rfl, by rw [q_b1 (by omega)], rfl⟩ | exact ⟨rfl, rfl, by rw [q_b0 (by omega)], rfl⟩
  · have hb11 : j < M := Nat.not_le.mp (fun z => c_11 ((nI_leI (a := M) (b := j) (by omega) (by omega)).mpr z))
    refine j_iconst (v := 1) dX2_isMore_14 (by decide) ?_
    refine j_goto (tgt := 19) dX2_isMore_15 (by decide) ?_
    refine j_iret dX2_isMore_19 rfl rfl ?_ (Nat.le_of_ble_eq_true rfl) (Nat.le_of_ble_eq_true rfl)
    first | exact ⟨rfl, rfl, by rw [q_b1 (by omega)], rfl⟩ | exact ⟨rfl, rfl, by rw [q_b0 (by omega)], rfl⟩
set_option maxRecDepth 100000 in
set_option maxHeartbeats 8000000 in
theorem c_X2_next_e (hl : l.stackTraces = false) (k u : Int32) (j : Nat) (x : Bool) (f c : Nat → Int32) (B : List Int32) (M : Nat) (hr : z_row 12 (nI M) f B) (hM : M = B.length) (hj : j < B.length) : z_CF G l mX2_next 12 0 0 [.inr (7, [.ref 3, .int k, .int u, .ref 1, .int (nI j)]), .inr (6, [.ref 2, .ref 3, .int (nI M), .int (z_bi x)]), z_ia 12 f, .inr (11, [.ref 4]), z_ia 7 c] [.ref 0] (fun v L => v = some (.int (f j)) ∧ L = [.inr (7, [.ref 3, .int k, .int (f j), .ref 1, .int (nI (j + 1))]), .inr (6, [.ref 2, .ref 3, .int (nI M), .int (z_bi x)]), z_ia 12 f, .inr (11, [.ref 4]), z_ia 7 c]) := by
  refine z_body hl (by decide) rfl (Nat.le_of_ble_eq_true rfl) ?_
  show z_J G l mX2_next (z_SF 12 0 0 [.inr (7, [.ref 3, .int k, .int u, .ref 1, .int (nI j)]), .inr (6, [.ref 2, .ref 3, .int (nI M), .int (z_bi x)]), z_ia 12 f, .inr (11, [.ref 4]), z_ia 7 c] (fun v L => v = some (.int (f j)) ∧ L = [.inr (7, [.ref 3, .int k, .int (f j), .ref 1, .int (nI (j + 1))]), .inr (6, [.ref 2, .ref 3, .int (nI M), .int (z_bi x)]), z_ia 12 f, .inr (11, [.ref 4]), z_ia 7 c])) 0 [(0, _)] [] _ 0 0
  have hln := hr.2.1
  refine j_aload_n dX2_next_0 rfl rfl ?_
  refine j_aload_n dX2_next_1 rfl rfl ?_
  refine j_getf dX2_next_2 fX2_15 rfl rfl ?_
  refine j_aload_n dX2_next_5 rfl rfl ?_
  refine j_getf dX2_next_6 fX2_21 rfl rfl ?_
  refine j_callV (q := (RX1, TX1, 4)) dX2_next_9 kX1_valueAt lX2_28 inX1_valueAt seX1_valueAt rfl rfl (z_frame [1, 2, 3, 4] rfl (by decide) (Nat.le_of_ble_eq_true rfl) (c_X1_valueAt_e hl _ _ _ B M j hr hM hj)) (Nat.le_of_ble_eq_true rfl) ⟨(Nat.le_of_ble_eq_true rfl), (Nat.le_of_ble_eq_true rfl)⟩ rfl (Nat.le_of_ble_eq_true rfl) rfl rfl (fun _ _ h => h.elim) ?_
  rintro _ _ ⟨_, _, ⟨rfl, rfl⟩, rfl, rfl⟩
  refine j_w ([.inr (7, [_, _, _, _, _]), .inr (6, [_, _, _, _]), z_ia 12 _, .inr (11, [_]), z_ia 7 _], z_no) rfl ?_
  refine j_put (w' := ([.inr (7, [_, _, _, _, _]), .inr (6, [_, _, _, _]), z_ia 12 _, .inr (11, [_]), z_ia 7 _], z_no)) dX2_next_12 fX2_32 tX2_2 rfl ⟨rfl, rfl⟩ rfl ?_
  refine j_aload_n dX2_next_15 rfl rfl ?_
  refine j_dup dX2_next_16 rfl ?_
  refine j_getf dX2_next_17 fX2_21 rfl rfl ?_
  refine j_iconst (v := 1) dX2_next_20 (by decide) ?_
  refine j_iadd dX2_next_21 ?_
  refine j_top (congrArg Value.int (show nI (j) + nI (1) = nI (j + 1) from nI_add _ _)) ?_
  refine j_put (w' := ([.inr (7, [_, _, _, _, _]), .inr (6, [_, _, _, _]), z_ia 12 _, .inr (11, [_]), z_ia 7 _], z_no)) dX2_next_22 fX2_21 tX2_4 rfl ⟨rfl, rfl⟩ rfl ?_
  refine j_aload_n dX2_next_25 rfl rfl ?_
  refine j_getf dX2_next_26 fX2_32 rfl rfl ?_
  refine j_iret dX2_next_29 rfl rfl ?_ (Nat.le_of_ble_eq_true rfl) (Nat.le_of_ble_eq_true rfl)
  exact ⟨rfl, rfl, rfl, rfl⟩
set_option maxRecDepth 100000 in
set_option maxHeartbeats 8000000 in
theorem c_X7_ask_X2_e (hl : l.stackTraces = false) (k u : Int32) (j : Nat) (x : Bool) (f c : Nat → Int32) (B : List Int32) (M : Nat) (hr : z_row 12 (nI M) f B) (hM : M = B.length) (hj : j < 1000) : z_CF G l mX7_ask 13 0 0 [.inr (7, [.ref 3, .int k, .int u, .ref 1, .int (nI j)]), .inr (6, [.ref 2, .ref 3, .int (nI M), .int (z_bi x)]), z_ia 12 f, .inr (11, [.ref 4]), z_ia 7 c] [.ref 0] (fun v L => v = some (.int (z_bi (decide (j < M)))) ∧ L = [.inr (7, [.ref 3, .int k, .int u, .ref 1, .int (nI j)]), .inr (6, [.ref 2, .ref 3, .int (nI M), .int (z_bi x)]), z_ia 12 f, .inr (11, [.ref 4]), z_ia 7 (z_bp c 1)]) := by
  refine z_body hl (by decide) rfl (Nat.le_of_ble_eq_true rfl) ?_
  show z_J G l mX7_ask (z_SF 13 0 0 [.inr (7, [.ref 3, .int k, .int u, .ref 1, .int (nI j)]), .inr (6, [.ref 2, .ref 3, .int (nI M), .int (z_bi x)]), z_ia 12 f, .inr (11, [.ref 4]), z_ia 7 c] (fun v L => v = some (.int (z_bi (decide (j < M)))) ∧ L = [.inr (7, [.ref 3, .int k, .int u, .ref 1, .int (nI j)]), .inr (6, [.ref 2, .ref 3, .int (nI M), .int (z_bi x)]), z_ia 12 f, .inr (11, [.ref 4]), z_ia 7 (z_bp c 1)])) 0 [(0, _)] [] _ 0 0
  refine j_aload_n dX7_ask_0 rfl rfl ?_
  refine j_getf dX7_ask_1 fX7_9_X2 rfl rfl ?_
  refine j_iconst (v := 1) dX7_ask_4 (by decide) ?_
  refine j_callV (q := (RX6, TX6, 1)) dX7_ask_5 kX6_add lX7_15 inX6_add seX6_add rfl rfl (z_frame [3, 4] rfl (by decide) (Nat.le_of_ble_eq_true rfl) (c_X6_add_e hl _ 1 (by decide))) (Nat.le_of_ble_eq_true rfl) ⟨(Nat.le_of_ble_eq_true rfl), (Nat.le_of_ble_eq_true rfl)⟩ rfl (Nat.le_of_ble_eq_true rfl) rfl rfl (fun _ _ h => h.elim) ?_
  rintro _ _ ⟨_, _, ⟨rfl, rfl⟩, rfl, rfl⟩
  refine j_w ([.inr (7, [_, _, _, _, _]), .inr (6, [_, _, _, _]), z_ia 12 _, .inr (11, [_]), z_ia 7 _], z_no) rfl ?_
  refine j_aload_n dX7_ask_8 rfl rfl ?_
  refine j_callU (q := (RX2, TX2, 5)) dX7_ask_9 kX2_isMore cuX7_21_X2 rfl rfl (z_frame [0, 1, 2, 3, 4] rfl (by decide) (Nat.le_of_ble_eq_true rfl) (c_X2_isMore_e hl _ _ j _ _ _ B M hr hM hj)) (Nat.le_of_ble_eq_true rfl) ⟨(Nat.le_of_ble_eq_true rfl), (Nat.le_of_ble_eq_true rfl)⟩ rfl (Nat.le_of_ble_eq_true rfl) rfl rfl (fun _ _ h => h.elim) ?_
  rintro _ _ ⟨_, _, ⟨rfl, rfl⟩, rfl, rfl⟩
  refine j_w ([.inr (7, [_, _, _, _, _]), .inr (6, [_, _, _, _]), z_ia 12 _, .inr (11, [_]), z_ia 7 _], z_no) rfl ?_
  refine j_iret dX7_ask_12 rfl (z_bn _) ?_ (Nat.le_of_ble_eq_true rfl) (Nat.le_of_ble_eq_true rfl)
  exact ⟨rfl, rfl, rfl, rfl⟩
set_option maxRecDepth 100000 in
set_option maxHeartbeats 8000000 in
theorem c_X7_give_X2_e (hl : l.stackTraces = false) (k u : Int32) (j : Nat) (x : Bool) (f c : Nat → Int32) (B : List Int32) (M : Nat) (hr : z_row 12 (nI M) f B) (hM : M = B.length) (hj : j < B.length) : z_CF G l mX7_give 13 0 0 [.inr (7, [.ref 3, .int k, .int u, .ref 1, .int (nI j)]), .inr (6, [.ref 2, .ref 3, .int (nI M), .int (z_bi x)]), z_ia 12 f, .inr (11, [.ref 4]), z_ia 7 c] [.ref 0] (fun v L => v = some (.int (f j)) ∧ L = [.inr (7, [.ref 3, .int k, .int (f j), .ref 1, .int (nI (j + 1))]), .inr (6, [.ref 2, .ref 3, .int (nI M), .int (z_bi x)]), z_ia 12 f, .inr (11, [.ref 4]), z_ia 7 (z_bp c 2)]) := by
  refine z_body hl (by decide) rfl (Nat.le_of_ble_eq_true rfl) ?_
  show z_J G l mX7_give (z_SF 13 0 0 [.inr (7, [.ref 3, .int k, .int u, .ref 1, .int (nI j)]), .inr (6, [.ref 2, .ref 3, .int (nI M), .int (z_bi x)]), z_ia 12 f, .inr (11, [.ref 4]), z_ia 7 c] (fun v L => v = some (.int (f j)) ∧ L = [.inr (7, [.ref 3, .int k, .int (f j), .ref 1, .int (nI (j + 1))]), .inr (6, [.ref 2, .ref 3, .int (nI M), .int (z_bi x)]), z_ia 12 f, .inr (11, [.ref 4]), z_ia 7 (z_bp c 2)])) 0 [(0, _)] [] _ 0 0
  refine j_aload_n dX7_give_0 rfl rfl ?_
  refine j_getf dX7_give_1 fX7_9_X2 rfl rfl ?_
  refine j_iconst (v := 2) dX7_give_4 (by decide) ?_
  refine j_callV (q := (RX6, TX6, 1)) dX7_give_5 kX6_add lX7_15 inX6_add seX6_add rfl rfl (z_frame [3, 4] rfl (by decide) (Nat.le_of_ble_eq_true rfl) (c_X6_add_e hl _ 2 (by decide))) (Nat.le_of_ble_eq_true rfl) ⟨(Nat.le_of_ble_eq_true rfl), (Nat.le_of_ble_eq_true rfl)⟩ rfl (Nat.le_of_ble_eq_true rfl) rfl rfl (fun _ _ h => h.elim) ?_
  rintro _ _ ⟨_, _, ⟨rfl, rfl⟩, rfl, rfl⟩
  refine j_w ([.inr (7, [_, _, _, _, _]), .inr (6, [_, _, _, _]), z_ia 12 _, .inr (11, [_]), z_ia 7 _], z_no) rfl ?_
  refine j_aload_n dX7_give_8 rfl rfl ?_
  refine j_callU (q := (RX2, TX2, 5)) dX7_give_9 kX2_next cuX7_25_X2 rfl rfl (z_frame [0, 1, 2, 3, 4] rfl (by decide) (Nat.le_of_ble_eq_true rfl) (c_X2_next_e hl _ _ j _ _ _ B M hr hM hj)) (Nat.le_of_ble_eq_true rfl) ⟨(Nat.le_of_ble_eq_true rfl), (Nat.le_of_ble_eq_true rfl)⟩ rfl (Nat.le_of_ble_eq_true rfl) rfl rfl (fun _ _ h => h.elim) ?_
  rintro _ _ ⟨_, _, ⟨rfl, rfl⟩, rfl, rfl⟩
  refine j_w ([.inr (7, [_, _, _, _, _]), .inr (6, [_, _, _, _]), z_ia 12 _, .inr (11, [_]), z_ia 7 _], z_no) rfl ?_
  refine j_iret dX7_give_12 rfl rfl ?_ (Nat.le_of_ble_eq_true rfl) (Nat.le_of_ble_eq_true rfl)
  exact ⟨rfl, rfl, rfl, rfl⟩
set_option maxRecDepth 100000 in
set_option maxHeartbeats 8000000 in
theorem c_X2_putInPlace_t_e (hl : l.stackTraces = false) (k u : Int32) (j : Nat) (f c : Nat → Int32) (M : Nat) (y : Int32)  : z_CF G l mX2_putInPlace 12 0 0 [.inr (7, [.ref 3, .int k, .int u, .ref 1, .int (nI j)]), .inr (6, [.ref 2, .ref 3, .int (nI M), .int (z_bi true)]), z_ia 12 f, .inr (11, [.ref 4]), z_ia 7 c] [.ref 0, .int y] (fun v L => v = some (.int (z_bi false)) ∧ L = [.inr (7, [.ref 3, .int k, .int u, .ref 1, .int (nI j)]), .inr (6, [.ref 2, .ref 3, .int (nI M), .int (z_bi true)]), z_ia 12 f, .inr (11, [.ref 4]), z_ia 7 c]) := by
  refine z_body hl (by decide) rfl (Nat.le_of_ble_eq_true rfl) ?_
  show z_J G l mX2_putInPlace (z_SF 12 0 0 [.inr (7, [.ref 3, .int k, .int u, .ref 1, .int (nI j)]), .inr (6, [.ref 2, .ref 3, .int (nI M), .int (z_bi true)]), z_ia 12 f, .inr (11, [.ref 4]), z_ia 7 c] (fun v L => v = some (.int (z_bi false)) ∧ L = [.inr (7, [.ref 3, .int k, .int u, .ref 1, .int (nI j)]), .inr (6, [.ref 2, .ref 3, .int (nI M), .int (z_bi true)]), z_ia 12 f, .inr (11, [.ref 4]), z_ia 7 c])) 0 [(0, _), (1, _)] [] _ 0 0
  refine j_aload_n dX2_putInPlace_0 rfl rfl ?_
  refine j_getf dX2_putInPlace_1 fX2_15 rfl rfl ?_
  refine j_getf dX2_putInPlace_4 fX2_35 rfl rfl ?_
  refine j_if_eq (tgt := 12) dX2_putInPlace_7 (by decide) (fun c_7 => ?_) (fun c_7 => ?_)
  · have hb7 := z_bF c_7
    cases hb7
  · have hb7 := z_bt c_7
    refine j_iconst (v := 0) dX2_putInPlace_10 (by decide) ?_
    refine j_iret dX2_putInPlace_11 rfl rfl ?_ (Nat.le_of_ble_eq_true rfl) (Nat.le_of_ble_eq_true rfl)
    exact ⟨rfl, rfl, rfl, rfl⟩
set_option maxRecDepth 100000 in
set_option maxHeartbeats 8000000 in
theorem c_X2_takeAway_t_e (hl : l.stackTraces = false) (k u : Int32) (j : Nat) (f c : Nat → Int32) (M : Nat)  : z_CF G l mX2_takeAway 13 0 0 [.inr (7, [.ref 3, .int k, .int u, .ref 1, .int (nI j)]), .inr (6, [.ref 2, .ref 3, .int (nI M), .int (z_bi true)]), z_ia 12 f, .inr (11, [.ref 4]), z_ia 7 c] [.ref 0] (fun v L => v = some (.int (z_bi false)) ∧ L = [.inr (7, [.ref 3, .int k, .int u, .ref 1, .int (nI j)]), .inr (6, [.ref 2, .ref 3, .int (nI M), .int (z_bi true)]), z_ia 12 f, .inr (11, [.ref 4]), z_ia 7 c]) := by
  refine z_body hl (by decide) rfl (Nat.le_of_ble_eq_true rfl) ?_
  show z_J G l mX2_takeAway (z_SF 13 0 0 [.inr (7, [.ref 3, .int k, .int u, .ref 1, .int (nI j)]), .inr (6, [.ref 2, .ref 3, .int (nI M), .int (z_bi true)]), z_ia 12 f, .inr (11, [.ref 4]), z_ia 7 c] (fun v L => v = some (.int (z_bi false)) ∧ L = [.inr (7, [.ref 3, .int k, .int u, .ref 1, .int (nI j)]), .inr (6, [.ref 2, .ref 3, .int (nI M), .int (z_bi true)]), z_ia 12 f, .inr (11, [.ref 4]), z_ia 7 c])) 0 [(0, _)] [] _ 0 0
  refine j_aload_n dX2_takeAway_0 rfl rfl ?_
  refine j_getf dX2_takeAway_1 fX2_15 rfl rfl ?_
  refine j_getf dX2_takeAway_4 fX2_35 rfl rfl ?_
  refine j_if_eq (tgt := 12) dX2_takeAway_7 (by decide) (fun c_7 => ?_) (fun c_7 => ?_)
  · have hb7 := z_bF c_7
    cases hb7
  · have hb7 := z_bt c_7
    refine j_iconst (v := 0) dX2_takeAway_10 (by decide) ?_
    refine j_iret dX2_takeAway_11 rfl rfl ?_ (Nat.le_of_ble_eq_true rfl) (Nat.le_of_ble_eq_true rfl)
    exact ⟨rfl, rfl, rfl, rfl⟩
set_option maxRecDepth 100000 in
set_option maxHeartbeats 8000000 in
theorem c_X2_putInPlace_f_e (hl : l.stackTraces = false) (k u : Int32) (j : Nat) (f c : Nat → Int32) (B : List Int32) (M : Nat) (y : Int32) (hr : z_row 12 (nI M) f B) (hM : M = B.length) (hj : j ≤ B.length) (hj0 : 1 ≤ j) : z_CF G l mX2_putInPlace 12 0 0 [.inr (7, [.ref 3, .int k, .int u, .ref 1, .int (nI j)]), .inr (6, [.ref 2, .ref 3, .int (nI M), .int (z_bi false)]), z_ia 12 f, .inr (11, [.ref 4]), z_ia 7 c] [.ref 0, .int y] (fun v L => v = some (.int (z_bi true)) ∧ L = [.inr (7, [.ref 3, .int k, .int u, .ref 1, .int (nI j)]), .inr (6, [.ref 2, .ref 3, .int (nI M), .int (z_bi false)]), z_ia 12 (z_ui f (j - 1) y), .inr (11, [.ref 4]), z_ia 7 (z_bp c 3)]) := by
  refine z_body hl (by decide) rfl (Nat.le_of_ble_eq_true rfl) ?_
  show z_J G l mX2_putInPlace (z_SF 12 0 0 [.inr (7, [.ref 3, .int k, .int u, .ref 1, .int (nI j)]), .inr (6, [.ref 2, .ref 3, .int (nI M), .int (z_bi false)]), z_ia 12 f, .inr (11, [.ref 4]), z_ia 7 c] (fun v L => v = some (.int (z_bi true)) ∧ L = [.inr (7, [.ref 3, .int k, .int u, .ref 1, .int (nI j)]), .inr (6, [.ref 2, .ref 3, .int (nI M), .int (z_bi false)]), z_ia 12 (z_ui f (j - 1) y), .inr (11, [.ref 4]), z_ia 7 (z_bp c 3)])) 0 [(0, _), (1, _)] [] _ 0 0
  have hln := hr.2.1
  refine j_aload_n dX2_putInPlace_0 rfl rfl ?_
  refine j_getf dX2_putInPlace_1 fX2_15 rfl rfl ?_
  refine j_getf dX2_putInPlace_4 fX2_35 rfl rfl ?_
  refine j_if_eq (tgt := 12) dX2_putInPlace_7 (by decide) (fun c_7 => ?_) (fun c_7 => ?_)
  · have hb7 := z_bF c_7
    refine j_aload_n dX2_putInPlace_12 rfl rfl ?_
    refine j_getf dX2_putInPlace_13 fX2_39 rfl rfl ?_
    refine j_iconst (v := 3) dX2_putInPlace_16 (by decide) ?_
    refine j_callV (q := (RX6, TX6, 1)) dX2_putInPlace_17 kX6_add lX2_40 inX6_add seX6_add rfl rfl (z_frame [3, 4] rfl (by decide) (Nat.le_of_ble_eq_true rfl) (c_X6_add_e hl _ 3 (by decide))) (Nat.le_of_ble_eq_true rfl) ⟨(Nat.le_of_ble_eq_true rfl), (Nat.le_of_ble_eq_true rfl)⟩ rfl (Nat.le_of_ble_eq_true rfl) rfl rfl (fun _ _ h => h.elim) ?_
    rintro _ _ ⟨_, _, ⟨rfl, rfl⟩, rfl, rfl⟩
    refine j_w ([.inr (7, [_, _, _, _, _]), .inr (6, [_, _, _, _]), z_ia 12 _, .inr (11, [_]), z_ia 7 _], z_no) rfl ?_
    refine j_aload_n dX2_putInPlace_20 rfl rfl ?_
    refine j_getf dX2_putInPlace_21 fX2_15 rfl rfl ?_
    refine j_aload_n dX2_putInPlace_24 rfl rfl ?_
    refine j_getf dX2_putInPlace_25 fX2_21 rfl rfl ?_
    refine j_iconst (v := 1) dX2_putInPlace_28 (by decide) ?_
    refine j_isub dX2_putInPlace_29 ?_
    refine j_top (congrArg Value.int (q_nsub (a := j) (b := 1) (by omega))) ?_
    refine j_iload_n dX2_putInPlace_30 rfl ?_
    refine j_callV (q := (RX1, TX1, 4)) dX2_putInPlace_31 kX1_setAt lX2_46 inX1_setAt seX1_setAt rfl rfl (z_frame [1, 2, 3, 4] rfl (by decide) (Nat.le_of_ble_eq_true rfl) (c_X1_setAt_e hl _ _ _ B M (j - 1) _ hr hM (by omega))) (Nat.le_of_ble_eq_true rfl) ⟨(Nat.le_of_ble_eq_true rfl), (Nat.le_of_ble_eq_true rfl)⟩ rfl (Nat.le_of_ble_eq_true rfl) rfl rfl (fun _ _ h => h.elim) ?_
    rintro _ _ ⟨_, _, ⟨rfl, rfl⟩, rfl, rfl⟩
    refine j_w ([.inr (7, [_, _, _, _, _]), .inr (6, [_, _, _, _]), z_ia 12 _, .inr (11, [_]), z_ia 7 _], z_no) rfl ?_
    refine j_iconst (v := 1) dX2_putInPlace_34 (by decide) ?_
    refine j_iret dX2_putInPlace_35 rfl rfl ?_ (Nat.le_of_ble_eq_true rfl) (Nat.le_of_ble_eq_true rfl)
    exact ⟨rfl, rfl, rfl, rfl⟩
  · have hb7 := z_bt c_7
    cases hb7
set_option maxRecDepth 100000 in
set_option maxHeartbeats 8000000 in
theorem c_X2_takeAway_f_e (hl : l.stackTraces = false) (k u : Int32) (f c : Nat → Int32) (A D : List Int32) (y : Int32) (M : Nat) (hr : z_row 12 (nI M) f (A ++ y :: D)) (hM : M = (A ++ y :: D).length) : z_CF G l mX2_takeAway 13 0 0 [.inr (7, [.ref 3, .int k, .int u, .ref 1, .int (nI (A.length + 1))]), .inr (6, [.ref 2, .ref 3, .int (nI M), .int (z_bi false)]), z_ia 12 f, .inr (11, [.ref 4]), z_ia 7 c] [.ref 0] (fun v L => v = some (.int (z_bi true)) ∧ ∃ f' : Nat → Int32, z_row 12 (nI (M - 1)) f' (A ++ D) ∧ L = [.inr (7, [.ref 3, .int k, .int u, .ref 1, .int (nI A.length)]), .inr (6, [.ref 2, .ref 3, .int (nI (M - 1)), .int (z_bi false)]), z_ia 12 f', .inr (11, [.ref 4]), z_ia 7 (z_bp c 4)]) := by
  refine z_body hl (by decide) rfl (Nat.le_of_ble_eq_true rfl) ?_
  show z_J G l mX2_takeAway (z_SF 13 0 0 [.inr (7, [.ref 3, .int k, .int u, .ref 1, .int (nI (A.length + 1))]), .inr (6, [.ref 2, .ref 3, .int (nI M), .int (z_bi false)]), z_ia 12 f, .inr (11, [.ref 4]), z_ia 7 c] (fun v L => v = some (.int (z_bi true)) ∧ ∃ f' : Nat → Int32, z_row 12 (nI (M - 1)) f' (A ++ D) ∧ L = [.inr (7, [.ref 3, .int k, .int u, .ref 1, .int (nI A.length)]), .inr (6, [.ref 2, .ref 3, .int (nI (M - 1)), .int (z_bi false)]), z_ia 12 f', .inr (11, [.ref 4]), z_ia 7 (z_bp c 4)])) 0 [(0, _)] [] _ 0 0
  have hln := hr.2.1
  have hL : (A ++ y :: D).length = A.length + (D.length + 1) := sp_lmid
  refine j_aload_n dX2_takeAway_0 rfl rfl ?_
  refine j_getf dX2_takeAway_1 fX2_15 rfl rfl ?_
  refine j_getf dX2_takeAway_4 fX2_35 rfl rfl ?_
  refine j_if_eq (tgt := 12) dX2_takeAway_7 (by decide) (fun c_7 => ?_) (fun c_7 => ?_)
  · have hb7 := z_bF c_7
    refine j_aload_n dX2_takeAway_12 rfl rfl ?_
    refine j_getf dX2_takeAway_13 fX2_39 rfl rfl ?_
    refine j_iconst (v := 4) dX2_takeAway_16 (by decide) ?_
    refine j_callV (q := (RX6, TX6, 1)) dX2_takeAway_17 kX6_add lX2_40 inX6_add seX6_add rfl rfl (z_frame [3, 4] rfl (by decide) (Nat.le_of_ble_eq_true rfl) (c_X6_add_e hl _ 4 (by decide))) (Nat.le_of_ble_eq_true rfl) ⟨(Nat.le_of_ble_eq_true rfl), (Nat.le_of_ble_eq_true rfl)⟩ rfl (Nat.le_of_ble_eq_true rfl) rfl rfl (fun _ _ h => h.elim) ?_
    rintro _ _ ⟨_, _, ⟨rfl, rfl⟩, rfl, rfl⟩
    refine j_w ([.inr (7, [_, _, _, _, _]), .inr (6, [_, _, _, _]), z_ia 12 _, .inr (11, [_]), z_ia 7 _], z_no) rfl ?_
    refine j_aload_n dX2_takeAway_20 rfl rfl ?_
    refine j_dup dX2_takeAway_21 rfl ?_
    refine j_getf dX2_takeAway_22 fX2_21 rfl rfl ?_
    refine j_iconst (v := 1) dX2_takeAway_25 (by decide) ?_
    refine j_isub dX2_takeAway_26 ?_
    refine j_top (congrArg Value.int (q_nsub (a := (A.length + 1)) (b := 1) (by omega))) ?_
    refine j_top (congrArg Value.int (show nI (A.length + 1 - 1) = nI A.length by rw [Nat.add_sub_cancel])) ?_
    refine j_put (w' := ([.inr (7, [_, _, _, _, _]), .inr (6, [_, _, _, _]), z_ia 12 _, .inr (11, [_]), z_ia 7 _], z_no)) dX2_takeAway_27 fX2_21 tX2_4 rfl ⟨rfl, rfl⟩ rfl ?_
    refine j_aload_n dX2_takeAway_30 rfl rfl ?_
    refine j_getf dX2_takeAway_31 fX2_15 rfl rfl ?_
    refine j_aload_n dX2_takeAway_34 rfl rfl ?_
    refine j_getf dX2_takeAway_35 fX2_21 rfl rfl ?_
    refine j_callV (q := (RX1, TX1, 4)) dX2_takeAway_38 kX1_takeOut lX2_50 inX1_takeOut seX1_takeOut rfl rfl (z_frame [1, 2, 3, 4] rfl (by decide) (Nat.le_of_ble_eq_true rfl) (c_X1_takeOut_e hl _ _ _ A D y M hr hM)) (Nat.le_of_ble_eq_true rfl) ⟨(Nat.le_of_ble_eq_true rfl), (Nat.le_of_ble_eq_true rfl)⟩ rfl (Nat.le_of_ble_eq_true rfl) rfl rfl (fun _ _ h => h.elim) ?_
    rintro _ _ ⟨_, _, ⟨rfl, f9, hf9, rfl⟩, rfl, rfl⟩
    refine j_w ([.inr (7, [_, _, _, _, _]), .inr (6, [_, _, _, _]), z_ia 12 _, .inr (11, [_]), z_ia 7 _], z_no) rfl ?_
    refine j_iconst (v := 1) dX2_takeAway_41 (by decide) ?_
    refine j_iret dX2_takeAway_42 rfl rfl ?_ (Nat.le_of_ble_eq_true rfl) (Nat.le_of_ble_eq_true rfl)
    exact ⟨rfl, rfl, rfl, _, hf9, rfl⟩
  · have hb7 := z_bt c_7
    cases hb7
end ZCr
