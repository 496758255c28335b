section ZL1
variable {G : z_G} {l : Launch}
set_option maxRecDepth 100000 in
set_option maxHeartbeats 4000000 in
theorem c_X6_add (hl : l.stackTraces = false) (f : Nat → Int32) (p : Int32) : z_CF G l mX6_add 10 0 0 [.inr (11, [.ref 1]), z_ia 7 f] [.ref 0, .int p] (fun v L => v = none ∧ ∃ f' : Nat → Int32, L = [.inr (11, [.ref 1]), z_ia 7 f']) := by
  refine z_body hl (by decide) rfl (Nat.le_of_ble_eq_true rfl) ?_
  show z_J G l mX6_add (z_SF 10 0 0 [.inr (11, [.ref 1]), z_ia 7 f] (fun v L => v = none ∧ ∃ f' : Nat → Int32, L = [.inr (11, [.ref 1]), z_ia 7 f'])) 0 [(0, _), (1, _)] [] _ 0 0
  refine j_iload_n dX6_add_0 rfl ?_
  refine j_if_lt (tgt := 23) dX6_add_1 (by decide) (fun c_1 => ?_) (fun c_1 => ?_)
  · refine j_vret dX6_add_23 rfl ?_ (Nat.le_of_ble_eq_true rfl) (Nat.le_of_ble_eq_true rfl)
    exact ⟨rfl, rfl, rfl, _, rfl⟩
  · refine j_iload_n dX6_add_4 rfl ?_
    refine j_aload_n dX6_add_5 rfl rfl ?_
    refine j_getf dX6_add_6 fX6_9 rfl rfl ?_
    refine j_alen dX6_add_9 rfl rfl rfl ?_
    refine j_icmp_ge (tgt := 23) dX6_add_10 (by decide) (fun c_10 => ?_) (fun c_10 => ?_)
    · refine j_vret dX6_add_23 rfl ?_ (Nat.le_of_ble_eq_true rfl) (Nat.le_of_ble_eq_true rfl)
      exact ⟨rfl, rfl, rfl, _, rfl⟩
    · refine j_aload_n dX6_add_13 rfl rfl ?_
      refine j_getf dX6_add_14 fX6_9 rfl rfl ?_
      refine j_iload_n dX6_add_17 rfl ?_
      refine j_dup2 dX6_add_18 rfl rfl ?_
      refine j_ld dX6_add_19 rfl (z_in c_1 c_10 (by decide)) ?_
      refine j_iconst (v := 1) dX6_add_20 (by decide) ?_
      refine j_iadd dX6_add_21 ?_
      refine j_sto (w' := ([.inr (11, [_]), z_ia 7 _], z_no)) dX6_add_22 rfl (z_in c_1 c_10 (by decide)) rfl ?_
      refine j_vret dX6_add_23 rfl ?_ (Nat.le_of_ble_eq_true rfl) (Nat.le_of_ble_eq_true rfl)
      exact ⟨rfl, rfl, rfl, _, rfl⟩
set_option maxRecDepth 100000 in
set_option maxHeartbeats 4000000 in
theorem c_X6_of (hl : l.stackTraces = false) (f : Nat → Int32) (p : Int32) : z_CF G l mX6_of 10 0 0 [.inr (11, [.ref 1]), z_ia 7 f] [.ref 0, .int p] (fun v L => ∃ x : Int32, v = some (.int x) ∧ L = [.inr (11, [.ref 1]), z_ia 7 f]) := by
  refine z_body hl (by decide) rfl (Nat.le_of_ble_eq_true rfl) ?_
  show z_J G l mX6_of (z_SF 10 0 0 [.inr (11, [.ref 1]), z_ia 7 f] (fun v L => ∃ x : Int32, v = some (.int x) ∧ L = [.inr (11, [.ref 1]), z_ia 7 f])) 0 [(0, _), (1, _)] [] _ 0 0
  refine j_iload_n dX6_of_0 rfl ?_
  refine j_if_lt (tgt := 22) dX6_of_1 (by decide) (fun c_1 => ?_) (fun c_1 => ?_)
  · refine j_iconst (v := 0) dX6_of_22 (by decide) ?_
    refine j_iret dX6_of_23 rfl rfl ?_ (Nat.le_of_ble_eq_true rfl) (Nat.le_of_ble_eq_true rfl)
    exact ⟨rfl, rfl, _, rfl, rfl⟩
  · refine j_iload_n dX6_of_4 rfl ?_
    refine j_aload_n dX6_of_5 rfl rfl ?_
    refine j_getf dX6_of_6 fX6_9 rfl rfl ?_
    refine j_alen dX6_of_9 rfl rfl rfl ?_
    refine j_icmp_ge (tgt := 22) dX6_of_10 (by decide) (fun c_10 => ?_) (fun c_10 => ?_)
    · refine j_iconst (v := 0) dX6_of_22 (by decide) ?_
      refine j_iret dX6_of_23 rfl rfl ?_ (Nat.le_of_ble_eq_true rfl) (Nat.le_of_ble_eq_true rfl)
      exact ⟨rfl, rfl, _, rfl, rfl⟩
    · refine j_aload_n dX6_of_13 rfl rfl ?_
      refine j_getf dX6_of_14 fX6_9 rfl rfl ?_
      refine j_iload_n dX6_of_17 rfl ?_
      refine j_ld dX6_of_18 rfl (z_in c_1 c_10 (by decide)) ?_
      refine j_goto (tgt := 23) dX6_of_19 (by decide) ?_
      refine j_iret dX6_of_23 rfl rfl ?_ (Nat.le_of_ble_eq_true rfl) (Nat.le_of_ble_eq_true rfl)
      exact ⟨rfl, rfl, _, rfl, rfl⟩
set_option maxRecDepth 100000 in
set_option maxHeartbeats 4000000 in
theorem c_X6_startAnew (hl : l.stackTraces = false) (f : Nat → Int32) : z_CF G l mX6_startAnew 10 0 0 [.inr (11, [.ref 1]), z_ia 7 f] [.ref 0] (fun v L => ∃ x : Int32, v = some (.int x) ∧ ∃ f' : Nat → Int32, L = [.inr (11, [.ref 1]), z_ia 7 f']) := by
  refine z_body hl (by decide) rfl (Nat.le_of_ble_eq_true rfl) ?_
  show z_J G l mX6_startAnew (z_SF 10 0 0 [.inr (11, [.ref 1]), z_ia 7 f] (fun v L => ∃ x : Int32, v = some (.int x) ∧ ∃ f' : Nat → Int32, L = [.inr (11, [.ref 1]), z_ia 7 f'])) 0 [(0, _)] [] _ 0 0
  refine j_iconst (v := 0) dX6_startAnew_0 (by decide) ?_
  refine j_istore_n (lo' := [(1, _), (0, _)]) dX6_startAnew_1 (by decide) rfl ?_
  refine j_iconst (v := 0) dX6_startAnew_2 (by decide) ?_
  refine j_istore_n (lo' := [(2, _), (1, _), (0, _)]) dX6_startAnew_3 (by decide) rfl ?_
  have loop : ∀ (n j : Nat) (s : Int32) (f' : Nat → Int32), j ≤ 7 → 7 < j + n → z_J G l mX6_startAnew (z_SF 10 0 0 [.inr (11, [.ref 1]), z_ia 7 f] (fun v L => ∃ x : Int32, v = some (.int x) ∧ ∃ f' : Nat → Int32, L = [.inr (11, [.ref 1]), z_ia 7 f'])) 4 [(0, .ref 0), (1, .int s), (2, .int (nI j))] [] ([.inr (11, [.ref 1]), z_ia 7 f'], z_no) 0 0 := by
    intro n
    induction n with
    | zero => intro j s f' h1 h2 ; exact absurd h2 (by omega)
    | succ n ih =>
      intro j s f' h1 h2
      refine j_iload_n dX6_startAnew_4 rfl ?_
      refine j_aload_n dX6_startAnew_5 rfl rfl ?_
      refine j_getf dX6_startAnew_6 fX6_9 rfl rfl ?_
      refine j_alen dX6_startAnew_9 rfl rfl rfl ?_
      refine j_icmp_ge (tgt := 35) dX6_startAnew_10 (by decide) (fun c_10 => ?_) (fun c_10 => ?_)
      · refine j_iload_n dX6_startAnew_35 rfl ?_
        refine j_iret dX6_startAnew_36 rfl rfl ?_ (Nat.le_of_ble_eq_true rfl) (Nat.le_of_ble_eq_true rfl)
        exact ⟨rfl, rfl, _, rfl, _, rfl⟩
      · have hj : j < 7 := z_ltI c_10 (by omega) (by decide)
        refine j_iload_n dX6_startAnew_13 rfl ?_
        refine j_aload_n dX6_startAnew_14 rfl rfl ?_
        refine j_getf dX6_startAnew_15 fX6_9 rfl rfl ?_
        refine j_iload_n dX6_startAnew_18 rfl ?_
        refine j_ld dX6_startAnew_19 rfl (vp_in_nI hj (by decide)) ?_
        refine j_iadd dX6_startAnew_20 ?_
        refine j_istore_n (lo' := [(1, _), (0, _), (2, _)]) dX6_startAnew_21 (by decide) rfl ?_
        refine j_aload_n dX6_startAnew_22 rfl rfl ?_
        refine j_getf dX6_startAnew_23 fX6_9 rfl rfl ?_
        refine j_iload_n dX6_startAnew_26 rfl ?_
        refine j_iconst (v := 0) dX6_startAnew_27 (by decide) ?_
        refine j_sto (w' := ([.inr (11, [_]), z_ia 7 _], z_no)) dX6_startAnew_28 rfl (vp_in_nI hj (by decide)) rfl ?_
        refine j_iinc (lo' := [(2, _), (1, _), (0, _)]) dX6_startAnew_29 rfl (z_inc _) (by decide) rfl ?_
        refine j_goto (tgt := 4) dX6_startAnew_32 (by decide) ?_
        exact j_lo2 (ih (j + 1) _ _ (by omega) (by omega)) (z_q1 rfl (z_q1 rfl (z_q1 rfl z_q0)))
  exact j_lo2 (loop (7 + 1) 0 _ _ (by omega) (by omega)) (z_q1 rfl (z_q1 rfl (z_q1 rfl z_q0)))
set_option maxRecDepth 100000 in
set_option maxHeartbeats 4000000 in
theorem c_X8_takeOver (hl : l.stackTraces = false) (N : Nat) (f g : Nat → Int32) (hN : N < 1000) : z_CF G l mX8_takeOver 10 0 0 [z_ia N f, z_ia N g] [.ref 0, .ref 1] (fun v L => v = none ∧ ∃ f' : Nat → Int32, L = [z_ia N f', z_ia N g]) := by
  refine z_body hl (by decide) rfl (Nat.le_of_ble_eq_true rfl) ?_
  show z_J G l mX8_takeOver (z_SF 10 0 0 [z_ia N f, z_ia N g] (fun v L => v = none ∧ ∃ f' : Nat → Int32, L = [z_ia N f', z_ia N g])) 0 [(0, _), (1, _)] [] _ 0 0
  refine j_iconst (v := 0) dX8_takeOver_0 (by decide) ?_
  refine j_istore_n (lo' := [(2, _), (0, _), (1, _)]) dX8_takeOver_1 (by decide) rfl ?_
  have loop : ∀ (n j : Nat) (f' : Nat → Int32), j ≤ N → N < j + n → z_J G l mX8_takeOver (z_SF 10 0 0 [z_ia N f, z_ia N g] (fun v L => v = none ∧ ∃ f' : Nat → Int32, L = [z_ia N f', z_ia N g])) 2 [(0, .ref 0), (1, .ref 1), (2, .int (nI j))] [] ([z_ia N f', z_ia N g], z_no) 0 0 := by
    intro n
    induction n with
    | zero => intro j f' h1 h2 ; exact absurd h2 (by omega)
    | succ n ih =>
      intro j f' h1 h2
      refine j_iload_n dX8_takeOver_2 rfl ?_
      refine j_aload_n dX8_takeOver_3 rfl rfl ?_
      refine j_alen dX8_takeOver_4 rfl rfl rfl ?_
      refine j_icmp_ge (tgt := 26) dX8_takeOver_5 (by decide) (fun c_5 => ?_) (fun c_5 => ?_)
      · refine j_vret dX8_takeOver_26 rfl ?_ (Nat.le_of_ble_eq_true rfl) (Nat.le_of_ble_eq_true rfl)
        exact ⟨rfl, rfl, rfl, _, rfl⟩
      · have hj : j < N := z_ltI c_5 (by omega) (by omega)
        refine j_iload_n dX8_takeOver_8 rfl ?_
        refine j_aload_n dX8_takeOver_9 rfl rfl ?_
        refine j_alen dX8_takeOver_10 rfl rfl rfl ?_
        refine j_icmp_ge (tgt := 26) dX8_takeOver_11 (by decide) (fun c_11 => ?_) (fun c_11 => ?_)
        · refine j_vret dX8_takeOver_26 rfl ?_ (Nat.le_of_ble_eq_true rfl) (Nat.le_of_ble_eq_true rfl)
          exact ⟨rfl, rfl, rfl, _, rfl⟩
        · refine j_aload_n dX8_takeOver_14 rfl rfl ?_
          refine j_iload_n dX8_takeOver_15 rfl ?_
          refine j_aload_n dX8_takeOver_16 rfl rfl ?_
          refine j_iload_n dX8_takeOver_17 rfl ?_
          refine j_ld dX8_takeOver_18 rfl (vp_in_nI hj (by omega)) ?_
          refine j_sto (w' := ([z_ia _ _, z_ia _ _], z_no)) dX8_takeOver_19 rfl (vp_in_nI hj (by omega)) rfl ?_
          refine j_iinc (lo' := [(2, _), (0, _), (1, _)]) dX8_takeOver_20 rfl (z_inc _) (by decide) rfl ?_
          refine j_goto (tgt := 2) dX8_takeOver_23 (by decide) ?_
          exact j_lo2 (ih (j + 1) _ (by omega) (by omega)) (z_q1 rfl (z_q1 rfl (z_q1 rfl z_q0)))
  exact j_lo2 (loop (N + 1) 0 _ (by omega) (by omega)) (z_q1 rfl (z_q1 rfl (z_q1 rfl z_q0)))
set_option maxRecDepth 100000 in
set_option maxHeartbeats 4000000 in
theorem c_X1_isFull (hl : l.stackTraces = false) (m fx : Int32) (f c : Nat → Int32) : z_CF G l mX1_isFull 10 0 0 [.inr (6, [.ref 1, .ref 2, .int m, .int fx]), z_ia 12 f, .inr (11, [.ref 3]), z_ia 7 c] [.ref 0] (fun v L => ∃ b : Bool, v = some (.int (z_bi b)) ∧ L = [.inr (6, [.ref 1, .ref 2, .int m, .int fx]), z_ia 12 f, .inr (11, [.ref 3]), z_ia 7 c]) := by
  refine z_body hl (by decide) rfl (Nat.le_of_ble_eq_true rfl) ?_
  show z_J G l mX1_isFull (z_SF 10 0 0 [.inr (6, [.ref 1, .ref 2, .int m, .int fx]), z_ia 12 f, .inr (11, [.ref 3]), z_ia 7 c] (fun v L => ∃ b : Bool, v = some (.int (z_bi b)) ∧ L = [.inr (6, [.ref 1, .ref 2, .int m, .int fx]), z_ia 12 f, .inr (11, [.ref 3]), z_ia 7 c])) 0 [(0, _)] [] _ 0 0
  refine j_aload_n dX1_isFull_0 rfl rfl ?_
  refine j_getf dX1_isFull_1 fX1_22 rfl rfl ?_
  refine j_aload_n dX1_isFull_4 rfl rfl ?_
  refine j_getf dX1_isFull_5 fX1_9 rfl rfl ?_
  refine j_alen dX1_isFull_8 rfl rfl rfl ?_
  refine j_icmp_lt (tgt := 16) dX1_isFull_9 (by decide) (fun c_9 => ?_) (fun c_9 => ?_)
  · refine j_iconst (v := 0) dX1_isFull_16 (by decide) ?_
    refine j_iret dX1_isFull_17 rfl rfl ?_ (Nat.le_of_ble_eq_true rfl) (Nat.le_of_ble_eq_true rfl)
    first | exact ⟨rfl, rfl, true, rfl, rfl⟩ | exact ⟨rfl, rfl, false, rfl, rfl⟩
  · refine j_iconst (v := 1) dX1_isFull_12 (by decide) ?_
    refine j_goto (tgt := 17) dX1_isFull_13 (by decide) ?_
    refine j_iret dX1_isFull_17 rfl rfl ?_ (Nat.le_of_ble_eq_true rfl) (Nat.le_of_ble_eq_true rfl)
    first | exact ⟨rfl, rfl, true, rfl, rfl⟩ | exact ⟨rfl, rfl, false, rfl, rfl⟩
set_option maxRecDepth 100000 in
set_option maxHeartbeats 4000000 in
theorem c_X1_isPlace (hl : l.stackTraces = false) (m fx : Int32) (f c : Nat → Int32) (p : Int32) : z_CF G l mX1_isPlace 10 0 0 [.inr (6, [.ref 1, .ref 2, .int m, .int fx]), z_ia 12 f, .inr (11, [.ref 3]), z_ia 7 c] [.ref 0, .int p] (fun v L => ∃ b : Bool, v = some (.int (z_bi b)) ∧ L = [.inr (6, [.ref 1, .ref 2, .int m, .int fx]), z_ia 12 f, .inr (11, [.ref 3]), z_ia 7 c] ∧ (b = true → vp_in p 12)) := by
  refine z_body hl (by decide) rfl (Nat.le_of_ble_eq_true rfl) ?_
  show z_J G l mX1_isPlace (z_SF 10 0 0 [.inr (6, [.ref 1, .ref 2, .int m, .int fx]), z_ia 12 f, .inr (11, [.ref 3]), z_ia 7 c] (fun v L => ∃ b : Bool, v = some (.int (z_bi b)) ∧ L = [.inr (6, [.ref 1, .ref 2, .int m, .int fx]), z_ia 12 f, .inr (11, [.ref 3]), z_ia 7 c] ∧ (b = true → vp_in p 12))) 0 [(0, _), (1, _)] [] _ 0 0
  refine j_iload_n dX1_isPlace_0 rfl ?_
  refine j_if_lt (tgt := 25) dX1_isPlace_1 (by decide) (fun c_1 => ?_) (fun c_1 => ?_)
  · refine j_iconst (v := 0) dX1_isPlace_25 (by decide) ?_
    refine j_iret dX1_isPlace_26 rfl rfl ?_ (Nat.le_of_ble_eq_true rfl) (Nat.le_of_ble_eq_true rfl)
    first | exact ⟨rfl, rfl, true, rfl, rfl, fun _ => z_in c_1 c_18 (by decide)⟩ | exact ⟨rfl, rfl, false, rfl, rfl, fun z => Bool.noConfusion z⟩
  · refine j_iload_n dX1_isPlace_4 rfl ?_
    refine j_aload_n dX1_isPlace_5 rfl rfl ?_
    refine j_getf dX1_isPlace_6 fX1_22 rfl rfl ?_
    refine j_icmp_ge (tgt := 25) dX1_isPlace_9 (by decide) (fun c_9 => ?_) (fun c_9 => ?_)
    · refine j_iconst (v := 0) dX1_isPlace_25 (by decide) ?_
      refine j_iret dX1_isPlace_26 rfl rfl ?_ (Nat.le_of_ble_eq_true rfl) (Nat.le_of_ble_eq_true rfl)
      first | exact ⟨rfl, rfl, true, rfl, rfl, fun _ => z_in c_1 c_18 (by decide)⟩ | exact ⟨rfl, rfl, false, rfl, rfl, fun z => Bool.noConfusion z⟩
    · refine j_iload_n dX1_isPlace_12 rfl ?_
      refine j_aload_n dX1_isPlace_13 rfl rfl ?_
      refine j_getf dX1_isPlace_14 fX1_9 rfl rfl ?_
      refine j_alen dX1_isPlace_17 rfl rfl rfl ?_
      refine j_icmp_ge (tgt := 25) dX1_isPlace_18 (by decide) (fun c_18 => ?_) (fun c_18 => ?_)
      · refine j_iconst (v := 0) dX1_isPlace_25 (by decide) ?_
        refine j_iret dX1_isPlace_26 rfl rfl ?_ (Nat.le_of_ble_eq_true rfl) (Nat.le_of_ble_eq_true rfl)
        first | exact ⟨rfl, rfl, true, rfl, rfl, fun _ => z_in c_1 c_18 (by decide)⟩ | exact ⟨rfl, rfl, false, rfl, rfl, fun z => Bool.noConfusion z⟩
      · refine j_iconst (v := 1) dX1_isPlace_21 (by decide) ?_
        refine j_goto (tgt := 26) dX1_isPlace_22 (by decide) ?_
        refine j_iret dX1_isPlace_26 rfl rfl ?_ (Nat.le_of_ble_eq_true rfl) (Nat.le_of_ble_eq_true rfl)
        first | exact ⟨rfl, rfl, true, rfl, rfl, fun _ => z_in c_1 c_18 (by decide)⟩ | exact ⟨rfl, rfl, false, rfl, rfl, fun z => Bool.noConfusion z⟩
set_option maxRecDepth 100000 in
set_option maxHeartbeats 4000000 in
theorem c_X1_valueAt (hl : l.stackTraces = false) (m fx : Int32) (f c : Nat → Int32) (p : Int32) : z_CF G l mX1_valueAt 11 0 0 [.inr (6, [.ref 1, .ref 2, .int m, .int fx]), z_ia 12 f, .inr (11, [.ref 3]), z_ia 7 c] [.ref 0, .int p] (fun v L => ∃ x : Int32, v = some (.int x) ∧ L = [.inr (6, [.ref 1, .ref 2, .int m, .int fx]), z_ia 12 f, .inr (11, [.ref 3]), z_ia 7 c]) := by
  refine z_body hl (by decide) rfl (Nat.le_of_ble_eq_true rfl) ?_
  show z_J G l mX1_valueAt (z_SF 11 0 0 [.inr (6, [.ref 1, .ref 2, .int m, .int fx]), z_ia 12 f, .inr (11, [.ref 3]), z_ia 7 c] (fun v L => ∃ x : Int32, v = some (.int x) ∧ L = [.inr (6, [.ref 1, .ref 2, .int m, .int fx]), z_ia 12 f, .inr (11, [.ref 3]), z_ia 7 c])) 0 [(0, _), (1, _)] [] _ 0 0
  refine j_aload_n dX1_valueAt_0 rfl rfl ?_
  refine j_iload_n dX1_valueAt_1 rfl ?_
  refine j_callV (q := (RX1, TX1, 4)) dX1_valueAt_2 kX1_isPlace lX1_26 inX1_isPlace seX1_isPlace rfl rfl (z_frame [0, 1, 2, 3] rfl (by decide) (Nat.le_of_ble_eq_true rfl) (c_X1_isPlace hl _ _ _ _ _)) (Nat.le_of_ble_eq_true rfl) ⟨(Nat.le_of_ble_eq_true rfl), (Nat.le_of_ble_eq_true rfl)⟩ rfl (Nat.le_of_ble_eq_true rfl) rfl rfl (fun _ _ h => h.elim) ?_
  rintro _ _ ⟨_, _, ⟨b, rfl, rfl, hb⟩, rfl, rfl⟩
  refine j_w ([.inr (6, [_, _, _, _]), z_ia 12 _, .inr (11, [_]), z_ia 7 _], z_no) rfl ?_
  refine j_if_eq (tgt := 17) dX1_valueAt_5 (by decide) (fun c_5 => ?_) (fun c_5 => ?_)
  · refine j_iconst (v := 0) dX1_valueAt_17 (by decide) ?_
    refine j_iret dX1_valueAt_18 rfl rfl ?_ (Nat.le_of_ble_eq_true rfl) (Nat.le_of_ble_eq_true rfl)
    exact ⟨rfl, rfl, _, rfl, rfl⟩
  · refine j_aload_n dX1_valueAt_8 rfl rfl ?_
    refine j_getf dX1_valueAt_9 fX1_9 rfl rfl ?_
    refine j_iload_n dX1_valueAt_12 rfl ?_
    refine j_ld dX1_valueAt_13 rfl (hb (z_bt c_5)) ?_
    refine j_goto (tgt := 18) dX1_valueAt_14 (by decide) ?_
    refine j_iret dX1_valueAt_18 rfl rfl ?_ (Nat.le_of_ble_eq_true rfl) (Nat.le_of_ble_eq_true rfl)
    exact ⟨rfl, rfl, _, rfl, rfl⟩
set_option maxRecDepth 100000 in
set_option maxHeartbeats 4000000 in
theorem c_X1_setAt (hl : l.stackTraces = false) (m fx : Int32) (f c : Nat → Int32) (p x : Int32) : z_CF G l mX1_setAt 11 0 0 [.inr (6, [.ref 1, .ref 2, .int m, .int fx]), z_ia 12 f, .inr (11, [.ref 3]), z_ia 7 c] [.ref 0, .int p, .int x] (fun v L => v = none ∧ ∃ f' : Nat → Int32, L = [.inr (6, [.ref 1, .ref 2, .int m, .int fx]), z_ia 12 f', .inr (11, [.ref 3]), z_ia 7 c]) := by
  refine z_body hl (by decide) rfl (Nat.le_of_ble_eq_true rfl) ?_
  show z_J G l mX1_setAt (z_SF 11 0 0 [.inr (6, [.ref 1, .ref 2, .int m, .int fx]), z_ia 12 f, .inr (11, [.ref 3]), z_ia 7 c] (fun v L => v = none ∧ ∃ f' : Nat → Int32, L = [.inr (6, [.ref 1, .ref 2, .int m, .int fx]), z_ia 12 f', .inr (11, [.ref 3]), z_ia 7 c])) 0 [(0, _), (1, _), (2, _)] [] _ 0 0
  refine j_aload_n dX1_setAt_0 rfl rfl ?_
  refine j_iload_n dX1_setAt_1 rfl ?_
  refine j_callV (q := (RX1, TX1, 4)) dX1_setAt_2 kX1_isPlace lX1_26 inX1_isPlace seX1_isPlace rfl rfl (z_frame [0, 1, 2, 3] rfl (by decide) (Nat.le_of_ble_eq_true rfl) (c_X1_isPlace hl _ _ _ _ _)) (Nat.le_of_ble_eq_true rfl) ⟨(Nat.le_of_ble_eq_true rfl), (Nat.le_of_ble_eq_true rfl)⟩ rfl (Nat.le_of_ble_eq_true rfl) rfl rfl (fun _ _ h => h.elim) ?_
  rintro _ _ ⟨_, _, ⟨b, rfl, rfl, hb⟩, rfl, rfl⟩
  refine j_w ([.inr (6, [_, _, _, _]), z_ia 12 _, .inr (11, [_]), z_ia 7 _], z_no) rfl ?_
  refine j_if_eq (tgt := 15) dX1_setAt_5 (by decide) (fun c_5 => ?_) (fun c_5 => ?_)
  · refine j_vret dX1_setAt_15 rfl ?_ (Nat.le_of_ble_eq_true rfl) (Nat.le_of_ble_eq_true rfl)
    exact ⟨rfl, rfl, rfl, _, rfl⟩
  · refine j_aload_n dX1_setAt_8 rfl rfl ?_
    refine j_getf dX1_setAt_9 fX1_9 rfl rfl ?_
    refine j_iload_n dX1_setAt_12 rfl ?_
    refine j_iload_n dX1_setAt_13 rfl ?_
    refine j_sto (w' := ([.inr (6, [_, _, _, _]), z_ia 12 _, .inr (11, [_]), z_ia 7 _], z_no)) dX1_setAt_14 rfl (hb (z_bt c_5)) rfl ?_
    refine j_vret dX1_setAt_15 rfl ?_ (Nat.le_of_ble_eq_true rfl) (Nat.le_of_ble_eq_true rfl)
    exact ⟨rfl, rfl, rfl, _, rfl⟩
set_option maxRecDepth 100000 in
set_option maxHeartbeats 4000000 in
theorem c_X1_append (hl : l.stackTraces = false) (m fx : Int32) (f c : Nat → Int32) (p : Int32) : z_CF G l mX1_append 10 0 0 [.inr (6, [.ref 1, .ref 2, .int m, .int fx]), z_ia 12 f, .inr (11, [.ref 3]), z_ia 7 c] [.ref 0, .int p] (fun v L => v = none ∧ ∃ (m' : Int32) (f' : Nat → Int32), L = [.inr (6, [.ref 1, .ref 2, .int m', .int fx]), z_ia 12 f', .inr (11, [.ref 3]), z_ia 7 c]) := by
  refine z_body hl (by decide) rfl (Nat.le_of_ble_eq_true rfl) ?_
  show z_J G l mX1_append (z_SF 10 0 0 [.inr (6, [.ref 1, .ref 2, .int m, .int fx]), z_ia 12 f, .inr (11, [.ref 3]), z_ia 7 c] (fun v L => v = none ∧ ∃ (m' : Int32) (f' : Nat → Int32), L = [.inr (6, [.ref 1, .ref 2, .int m', .int fx]), z_ia 12 f', .inr (11, [.ref 3]), z_ia 7 c])) 0 [(0, _), (1, _)] [] _ 0 0
  refine j_aload_n dX1_append_0 rfl rfl ?_
  refine j_getf dX1_append_1 fX1_22 rfl rfl ?_
  refine j_if_lt (tgt := 39) dX1_append_4 (by decide) (fun c_4 => ?_) (fun c_4 => ?_)
  · refine j_vret dX1_append_39 rfl ?_ (Nat.le_of_ble_eq_true rfl) (Nat.le_of_ble_eq_true rfl)
    exact ⟨rfl, rfl, rfl, _, _, rfl⟩
  · refine j_aload_n dX1_append_7 rfl rfl ?_
    refine j_getf dX1_append_8 fX1_22 rfl rfl ?_
    refine j_aload_n dX1_append_11 rfl rfl ?_
    refine j_getf dX1_append_12 fX1_9 rfl rfl ?_
    refine j_alen dX1_append_15 rfl rfl rfl ?_
    refine j_icmp_ge (tgt := 39) dX1_append_16 (by decide) (fun c_16 => ?_) (fun c_16 => ?_)
    · refine j_vret dX1_append_39 rfl ?_ (Nat.le_of_ble_eq_true rfl) (Nat.le_of_ble_eq_true rfl)
      exact ⟨rfl, rfl, rfl, _, _, rfl⟩
    · refine j_aload_n dX1_append_19 rfl rfl ?_
      refine j_getf dX1_append_20 fX1_9 rfl rfl ?_
      refine j_aload_n dX1_append_23 rfl rfl ?_
      refine j_getf dX1_append_24 fX1_22 rfl rfl ?_
      refine j_iload_n dX1_append_27 rfl ?_
      refine j_sto (w' := ([.inr (6, [_, _, _, _]), z_ia 12 _, .inr (11, [_]), z_ia 7 _], z_no)) dX1_append_28 rfl (z_in c_4 c_16 (by decide)) rfl ?_
      refine j_aload_n dX1_append_29 rfl rfl ?_
      refine j_dup dX1_append_30 rfl ?_
      refine j_getf dX1_append_31 fX1_22 rfl rfl ?_
      refine j_iconst (v := 1) dX1_append_34 (by decide) ?_
      refine j_iadd dX1_append_35 ?_
      refine j_put (w' := ([.inr (6, [_, _, _, _]), z_ia 12 _, .inr (11, [_]), z_ia 7 _], z_no)) dX1_append_36 fX1_22 tX1_2 rfl ⟨rfl, rfl⟩ rfl ?_
      refine j_vret dX1_append_39 rfl ?_ (Nat.le_of_ble_eq_true rfl) (Nat.le_of_ble_eq_true rfl)
      exact ⟨rfl, rfl, rfl, _, _, rfl⟩
set_option maxRecDepth 100000 in
set_option maxHeartbeats 4000000 in
theorem c_X1_shorten (hl : l.stackTraces = false) (m fx : Int32) (f c : Nat → Int32) (p : Int32) : z_CF G l mX1_shorten 10 0 0 [.inr (6, [.ref 1, .ref 2, .int m, .int fx]), z_ia 12 f, .inr (11, [.ref 3]), z_ia 7 c] [.ref 0, .int p] (fun v L => v = none ∧ ∃ m' : Int32, L = [.inr (6, [.ref 1, .ref 2, .int m', .int fx]), z_ia 12 f, .inr (11, [.ref 3]), z_ia 7 c]) := by
  refine z_body hl (by decide) rfl (Nat.le_of_ble_eq_true rfl) ?_
  show z_J G l mX1_shorten (z_SF 10 0 0 [.inr (6, [.ref 1, .ref 2, .int m, .int fx]), z_ia 12 f, .inr (11, [.ref 3]), z_ia 7 c] (fun v L => v = none ∧ ∃ m' : Int32, L = [.inr (6, [.ref 1, .ref 2, .int m', .int fx]), z_ia 12 f, .inr (11, [.ref 3]), z_ia 7 c])) 0 [(0, _), (1, _)] [] _ 0 0
  refine j_iload_n dX1_shorten_0 rfl ?_
  refine j_if_lt (tgt := 22) dX1_shorten_1 (by decide) (fun c_1 => ?_) (fun c_1 => ?_)
  · refine j_vret dX1_shorten_22 rfl ?_ (Nat.le_of_ble_eq_true rfl) (Nat.le_of_ble_eq_true rfl)
    exact ⟨rfl, rfl, rfl, _, rfl⟩
  · refine j_iload_n dX1_shorten_4 rfl ?_
    refine j_aload_n dX1_shorten_5 rfl rfl ?_
    refine j_getf dX1_shorten_6 fX1_22 rfl rfl ?_
    refine j_icmp_gt (tgt := 22) dX1_shorten_9 (by decide) (fun c_9 => ?_) (fun c_9 => ?_)
    · refine j_vret dX1_shorten_22 rfl ?_ (Nat.le_of_ble_eq_true rfl) (Nat.le_of_ble_eq_true rfl)
      exact ⟨rfl, rfl, rfl, _, rfl⟩
    · refine j_aload_n dX1_shorten_12 rfl rfl ?_
      refine j_dup dX1_shorten_13 rfl ?_
      refine j_getf dX1_shorten_14 fX1_22 rfl rfl ?_
      refine j_iload_n dX1_shorten_17 rfl ?_
      refine j_isub dX1_shorten_18 ?_
      refine j_put (w' := ([.inr (6, [_, _, _, _]), z_ia 12 _, .inr (11, [_]), z_ia 7 _], z_no)) dX1_shorten_19 fX1_22 tX1_2 rfl ⟨rfl, rfl⟩ rfl ?_
      refine j_vret dX1_shorten_22 rfl ?_ (Nat.le_of_ble_eq_true rfl) (Nat.le_of_ble_eq_true rfl)
      exact ⟨rfl, rfl, rfl, _, rfl⟩
set_option maxRecDepth 100000 in
set_option maxHeartbeats 4000000 in
theorem c_X1_takeOut (hl : l.stackTraces = false) (m fx : Int32) (f c : Nat → Int32) (p : Int32) : z_CF G l mX1_takeOut 12 0 0 [.inr (6, [.ref 1, .ref 2, .int m, .int fx]), z_ia 12 f, .inr (11, [.ref 3]), z_ia 7 c] [.ref 0, .int p] (fun v L => v = none ∧ ∃ (m' : Int32) (f' : Nat → Int32), L = [.inr (6, [.ref 1, .ref 2, .int m', .int fx]), z_ia 12 f', .inr (11, [.ref 3]), z_ia 7 c]) := by
  refine z_body hl (by decide) rfl (Nat.le_of_ble_eq_true rfl) ?_
  show z_J G l mX1_takeOut (z_SF 12 0 0 [.inr (6, [.ref 1, .ref 2, .int m, .int fx]), z_ia 12 f, .inr (11, [.ref 3]), z_ia 7 c] (fun v L => v = none ∧ ∃ (m' : Int32) (f' : Nat → Int32), L = [.inr (6, [.ref 1, .ref 2, .int m', .int fx]), z_ia 12 f', .inr (11, [.ref 3]), z_ia 7 c])) 0 [(0, _), (1, _)] [] _ 0 0
  refine j_aload_n dX1_takeOut_0 rfl rfl ?_
  refine j_iload_n dX1_takeOut_1 rfl ?_
  refine j_callV (q := (RX1, TX1, 4)) dX1_takeOut_2 kX1_isPlace lX1_26 inX1_isPlace seX1_isPlace rfl rfl (z_frame [0, 1, 2, 3] rfl (by decide) (Nat.le_of_ble_eq_true rfl) (c_X1_isPlace hl _ _ _ _ _)) (Nat.le_of_ble_eq_true rfl) ⟨(Nat.le_of_ble_eq_true rfl), (Nat.le_of_ble_eq_true rfl)⟩ rfl (Nat.le_of_ble_eq_true rfl) rfl rfl (fun _ _ h => h.elim) ?_
  rintro _ _ ⟨_, _, ⟨b, rfl, rfl, hb⟩, rfl, rfl⟩
  refine j_w ([.inr (6, [_, _, _, _]), z_ia 12 _, .inr (11, [_]), z_ia 7 _], z_no) rfl ?_
  refine j_if_ne (tgt := 9) dX1_takeOut_5 (by decide) (fun c_5 => ?_) (fun c_5 => ?_)
  · obtain ⟨k, hk, rfl⟩ := vp_in_of (hb (z_bt c_5)) (by decide)
    refine j_iload_n dX1_takeOut_9 rfl ?_
    refine j_iconst (v := 1) dX1_takeOut_10 (by decide) ?_
    refine j_iadd dX1_takeOut_11 ?_
    refine j_top (congrArg Value.int (nI_1 k)) ?_
    refine j_istore_n (lo' := [(2, _), (0, _), (1, _)]) dX1_takeOut_12 (by decide) rfl ?_
    have loop : ∀ (n j : Nat) (f' : Nat → Int32), j ≤ 12 → 12 < j + n → z_J G l mX1_takeOut (z_SF 12 0 0 [.inr (6, [.ref 1, .ref 2, .int m, .int fx]), z_ia 12 f, .inr (11, [.ref 3]), z_ia 7 c] (fun v L => v = none ∧ ∃ (m' : Int32) (f' : Nat → Int32), L = [.inr (6, [.ref 1, .ref 2, .int m', .int fx]), z_ia 12 f', .inr (11, [.ref 3]), z_ia 7 c])) 13 [(0, .ref 0), (2, .int (nI (j + 1)))] [] ([.inr (6, [.ref 1, .ref 2, .int m, .int fx]), z_ia 12 f', .inr (11, [.ref 3]), z_ia 7 c], z_no) 0 0 := by
      intro n
      induction n with
      | zero => intro j f' h1 h2 ; exact absurd h2 (by omega)
      | succ n ih =>
        intro j f' h1 h2
        refine j_iload_n dX1_takeOut_13 rfl ?_
        refine j_aload_n dX1_takeOut_14 rfl rfl ?_
        refine j_getf dX1_takeOut_15 fX1_22 rfl rfl ?_
        refine j_icmp_ge (tgt := 50) dX1_takeOut_18 (by decide) (fun c_18 => ?_) (fun c_18 => ?_)
        · refine j_aload_n dX1_takeOut_50 rfl rfl ?_
          refine j_dup dX1_takeOut_51 rfl ?_
          refine j_getf dX1_takeOut_52 fX1_22 rfl rfl ?_
          refine j_iconst (v := 1) dX1_takeOut_55 (by decide) ?_
          refine j_isub dX1_takeOut_56 ?_
          refine j_put (w' := ([.inr (6, [_, _, _, _]), z_ia 12 _, .inr (11, [_]), z_ia 7 _], z_no)) dX1_takeOut_57 fX1_22 tX1_2 rfl ⟨rfl, rfl⟩ rfl ?_
          refine j_vret dX1_takeOut_60 rfl ?_ (Nat.le_of_ble_eq_true rfl) (Nat.le_of_ble_eq_true rfl)
          exact ⟨rfl, rfl, rfl, _, _, rfl⟩
        · refine j_iload_n dX1_takeOut_21 rfl ?_
          refine j_aload_n dX1_takeOut_22 rfl rfl ?_
          refine j_getf dX1_takeOut_23 fX1_9 rfl rfl ?_
          refine j_alen dX1_takeOut_26 rfl rfl rfl ?_
          refine j_icmp_ge (tgt := 50) dX1_takeOut_27 (by decide) (fun c_27 => ?_) (fun c_27 => ?_)
          · refine j_aload_n dX1_takeOut_50 rfl rfl ?_
            refine j_dup dX1_takeOut_51 rfl ?_
            refine j_getf dX1_takeOut_52 fX1_22 rfl rfl ?_
            refine j_iconst (v := 1) dX1_takeOut_55 (by decide) ?_
            refine j_isub dX1_takeOut_56 ?_
            refine j_put (w' := ([.inr (6, [_, _, _, _]), z_ia 12 _, .inr (11, [_]), z_ia 7 _], z_no)) dX1_takeOut_57 fX1_22 tX1_2 rfl ⟨rfl, rfl⟩ rfl ?_
            refine j_vret dX1_takeOut_60 rfl ?_ (Nat.le_of_ble_eq_true rfl) (Nat.le_of_ble_eq_true rfl)
            exact ⟨rfl, rfl, rfl, _, _, rfl⟩
          · have hj : j + 1 < 12 := z_ltI c_27 (by omega) (by decide)
            refine j_aload_n dX1_takeOut_30 rfl rfl ?_
            refine j_getf dX1_takeOut_31 fX1_9 rfl rfl ?_
            refine j_iload_n dX1_takeOut_34 rfl ?_
            refine j_iconst (v := 1) dX1_takeOut_35 (by decide) ?_
            refine j_isub dX1_takeOut_36 ?_
            refine j_top (congrArg Value.int (nI_pred j)) ?_
            refine j_aload_n dX1_takeOut_37 rfl rfl ?_
            refine j_getf dX1_takeOut_38 fX1_9 rfl rfl ?_
            refine j_iload_n dX1_takeOut_41 rfl ?_
            refine j_ld dX1_takeOut_42 rfl (vp_in_nI hj (by decide)) ?_
            refine j_sto (w' := ([.inr (6, [_, _, _, _]), z_ia 12 _, .inr (11, [_]), z_ia 7 _], z_no)) dX1_takeOut_43 rfl (vp_in_nI (by omega) (by decide)) rfl ?_
            refine j_iinc (lo' := [(2, _), (0, _)]) dX1_takeOut_44 rfl (z_inc _) (by decide) rfl ?_
            refine j_goto (tgt := 13) dX1_takeOut_47 (by decide) ?_
            exact j_lo2 (ih (j + 1) _ (by omega) (by omega)) (z_q1 rfl (z_q1 rfl z_q0))
    exact j_lo2 (loop (12 + 1) k _ (by omega) (by omega)) (z_q1 rfl (z_q1 rfl z_q0))
  · refine j_vret dX1_takeOut_8 rfl ?_ (Nat.le_of_ble_eq_true rfl) (Nat.le_of_ble_eq_true rfl)
    exact ⟨rfl, rfl, rfl, _, _, rfl⟩
set_option maxRecDepth 100000 in
set_option maxHeartbeats 4000000 in
theorem c_X1_become (hl : l.stackTraces = false) (m fx : Int32) (f c : Nat → Int32) (m2 fx2 : Int32) (f2 c2 : Nat → Int32) : z_CF G l mX1_become 12 0 0 [.inr (6, [.ref 1, .ref 2, .int m, .int fx]), z_ia 12 f, .inr (11, [.ref 3]), z_ia 7 c, .inr (6, [.ref 5, .ref 6, .int m2, .int fx2]), z_ia 12 f2, .inr (11, [.ref 7]), z_ia 7 c2] [.ref 0, .ref 4] (fun v L => v = none ∧ ∃ f' : Nat → Int32, L = [.inr (6, [.ref 1, .ref 2, .int m2, .int fx]), z_ia 12 f', .inr (11, [.ref 3]), z_ia 7 c, .inr (6, [.ref 5, .ref 6, .int m2, .int fx2]), z_ia 12 f2, .inr (11, [.ref 7]), z_ia 7 c2]) := by
  refine z_body hl (by decide) rfl (Nat.le_of_ble_eq_true rfl) ?_
  show z_J G l mX1_become (z_SF 12 0 0 [.inr (6, [.ref 1, .ref 2, .int m, .int fx]), z_ia 12 f, .inr (11, [.ref 3]), z_ia 7 c, .inr (6, [.ref 5, .ref 6, .int m2, .int fx2]), z_ia 12 f2, .inr (11, [.ref 7]), z_ia 7 c2] (fun v L => v = none ∧ ∃ f' : Nat → Int32, L = [.inr (6, [.ref 1, .ref 2, .int m2, .int fx]), z_ia 12 f', .inr (11, [.ref 3]), z_ia 7 c, .inr (6, [.ref 5, .ref 6, .int m2, .int fx2]), z_ia 12 f2, .inr (11, [.ref 7]), z_ia 7 c2])) 0 [(0, _), (1, _)] [] _ 0 0
  refine j_aload_n dX1_become_0 rfl rfl ?_
  refine j_getf dX1_become_1 fX1_9 rfl rfl ?_
  refine j_aload_n dX1_become_4 rfl rfl ?_
  refine j_getf dX1_become_5 fX1_9 rfl rfl ?_
  refine j_callSN dX1_become_8 kX8_takeOver lX1_30 stX8_takeOver (z_frame [1, 5] rfl (by decide) (Nat.le_of_ble_eq_true rfl) (c_X8_takeOver hl _ _ _ (by decide))) (Nat.le_of_ble_eq_true rfl) ⟨(Nat.le_of_ble_eq_true rfl), (Nat.le_of_ble_eq_true rfl)⟩ rfl (Nat.le_of_ble_eq_true rfl) rfl rfl (fun _ _ h => h.elim) ?_
  rintro _ _ ⟨_, _, ⟨rfl, _, rfl⟩, rfl, rfl⟩
  refine j_w ([.inr (6, [_, _, _, _]), z_ia 12 _, .inr (11, [_]), z_ia 7 _, .inr (6, [_, _, _, _]), z_ia 12 _, .inr (11, [_]), z_ia 7 _], z_no) rfl ?_
  refine j_aload_n dX1_become_11 rfl rfl ?_
  refine j_aload_n dX1_become_12 rfl rfl ?_
  refine j_getf dX1_become_13 fX1_22 rfl rfl ?_
  refine j_put (w' := ([.inr (6, [_, _, _, _]), z_ia 12 _, .inr (11, [_]), z_ia 7 _, .inr (6, [_, _, _, _]), z_ia 12 _, .inr (11, [_]), z_ia 7 _], z_no)) dX1_become_16 fX1_22 tX1_2 rfl ⟨rfl, rfl⟩ rfl ?_
  refine j_vret dX1_become_19 rfl ?_ (Nat.le_of_ble_eq_true rfl) (Nat.le_of_ble_eq_true rfl)
  exact ⟨rfl, rfl, rfl, _, rfl⟩
set_option maxRecDepth 100000 in
set_option maxHeartbeats 4000000 in
theorem c_X0_dropOldest (hl : l.stackTraces = false) (k m su la ba : Int32) (f : Nat → Int32) : z_CF G l mX0_dropOldest 10 0 0 [.inr (5, [.ref 1, .int k, .int m, .int su, .int la, .int ba]), z_ia 10 f] [.ref 0] (fun v L => v = none ∧ ∃ (k' : Int32) (f' : Nat → Int32), L = [.inr (5, [.ref 1, .int k', .int m, .int su, .int la, .int ba]), z_ia 10 f']) := by
  refine z_body hl (by decide) rfl (Nat.le_of_ble_eq_true rfl) ?_
  show z_J G l mX0_dropOldest (z_SF 10 0 0 [.inr (5, [.ref 1, .int k, .int m, .int su, .int la, .int ba]), z_ia 10 f] (fun v L => v = none ∧ ∃ (k' : Int32) (f' : Nat → Int32), L = [.inr (5, [.ref 1, .int k', .int m, .int su, .int la, .int ba]), z_ia 10 f'])) 0 [(0, _)] [] _ 0 0
  refine j_iconst (v := 1) dX0_dropOldest_0 (by decide) ?_
  refine j_istore_n (lo' := [(1, _), (0, _)]) dX0_dropOldest_1 (by decide) rfl ?_
  have loop : ∀ (n j : Nat) (f' : Nat → Int32), j ≤ 10 → 10 < j + n → z_J G l mX0_dropOldest (z_SF 10 0 0 [.inr (5, [.ref 1, .int k, .int m, .int su, .int la, .int ba]), z_ia 10 f] (fun v L => v = none ∧ ∃ (k' : Int32) (f' : Nat → Int32), L = [.inr (5, [.ref 1, .int k', .int m, .int su, .int la, .int ba]), z_ia 10 f'])) 2 [(0, .ref 0), (1, .int (nI (j + 1)))] [] ([.inr (5, [.ref 1, .int k, .int m, .int su, .int la, .int ba]), z_ia 10 f'], z_no) 0 0 := by
    intro n
    induction n with
    | zero => intro j f' h1 h2 ; exact absurd h2 (by omega)
    | succ n ih =>
      intro j f' h1 h2
      refine j_iload_n dX0_dropOldest_2 rfl ?_
      refine j_aload_n dX0_dropOldest_3 rfl rfl ?_
      refine j_getf dX0_dropOldest_4 fX0_9 rfl rfl ?_
      refine j_alen dX0_dropOldest_7 rfl rfl rfl ?_
      refine j_icmp_ge (tgt := 31) dX0_dropOldest_8 (by decide) (fun c_8 => ?_) (fun c_8 => ?_)
      · refine j_aload_n dX0_dropOldest_31 rfl rfl ?_
        refine j_dup dX0_dropOldest_32 rfl ?_
        refine j_getf dX0_dropOldest_33 fX0_32 rfl rfl ?_
        refine j_iconst (v := 1) dX0_dropOldest_36 (by decide) ?_
        refine j_isub dX0_dropOldest_37 ?_
        refine j_put (w' := ([.inr (5, [_, _, _, _, _, _]), z_ia 10 _], z_no)) dX0_dropOldest_38 fX0_32 tX0_1 rfl ⟨rfl, rfl⟩ rfl ?_
        refine j_vret dX0_dropOldest_41 rfl ?_ (Nat.le_of_ble_eq_true rfl) (Nat.le_of_ble_eq_true rfl)
        exact ⟨rfl, rfl, rfl, _, _, rfl⟩
      · have hj : j + 1 < 10 := z_ltI c_8 (by omega) (by decide)
        refine j_aload_n dX0_dropOldest_11 rfl rfl ?_
        refine j_getf dX0_dropOldest_12 fX0_9 rfl rfl ?_
        refine j_iload_n dX0_dropOldest_15 rfl ?_
        refine j_iconst (v := 1) dX0_dropOldest_16 (by decide) ?_
        refine j_isub dX0_dropOldest_17 ?_
        refine j_top (congrArg Value.int (nI_pred j)) ?_
        refine j_aload_n dX0_dropOldest_18 rfl rfl ?_
        refine j_getf dX0_dropOldest_19 fX0_9 rfl rfl ?_
        refine j_iload_n dX0_dropOldest_22 rfl ?_
        refine j_ld dX0_dropOldest_23 rfl (vp_in_nI hj (by decide)) ?_
        refine j_sto (w' := ([.inr (5, [_, _, _, _, _, _]), z_ia 10 _], z_no)) dX0_dropOldest_24 rfl (vp_in_nI (by omega) (by decide)) rfl ?_
        refine j_iinc (lo' := [(1, _), (0, _)]) dX0_dropOldest_25 rfl (z_inc _) (by decide) rfl ?_
        refine j_goto (tgt := 2) dX0_dropOldest_28 (by decide) ?_
        exact j_lo2 (ih (j + 1) _ (by omega) (by omega)) (z_q1 rfl (z_q1 rfl z_q0))
  exact j_lo2 (loop (10 + 1) 0 _ (by omega) (by omega)) (z_q1 rfl (z_q1 rfl z_q0))
set_option maxRecDepth 100000 in
set_option maxHeartbeats 4000000 in
theorem c_X0_keep (hl : l.stackTraces = false) (k m su la ba : Int32) (f : Nat → Int32) (p : Int32) : z_CF G l mX0_keep 11 0 0 [.inr (5, [.ref 1, .int k, .int m, .int su, .int la, .int ba]), z_ia 10 f] [.ref 0, .int p] (fun v L => v = none ∧ ∃ (k' : Int32) (f' : Nat → Int32), L = [.inr (5, [.ref 1, .int k', .int m, .int su, .int la, .int ba]), z_ia 10 f']) := by
  refine z_body hl (by decide) rfl (Nat.le_of_ble_eq_true rfl) ?_
  show z_J G l mX0_keep (z_SF 11 0 0 [.inr (5, [.ref 1, .int k, .int m, .int su, .int la, .int ba]), z_ia 10 f] (fun v L => v = none ∧ ∃ (k' : Int32) (f' : Nat → Int32), L = [.inr (5, [.ref 1, .int k', .int m, .int su, .int la, .int ba]), z_ia 10 f'])) 0 [(0, _), (1, _)] [] _ 0 0
  refine j_aload_n dX0_keep_0 rfl rfl ?_
  refine j_getf dX0_keep_1 fX0_32 rfl rfl ?_
  refine j_aload_n dX0_keep_4 rfl rfl ?_
  refine j_getf dX0_keep_5 fX0_9 rfl rfl ?_
  refine j_alen dX0_keep_8 rfl rfl rfl ?_
  refine j_icmp_lt (tgt := 16) dX0_keep_9 (by decide) (fun c_9 => ?_) (fun c_9 => ?_)
  · refine j_aload_n dX0_keep_16 rfl rfl ?_
    refine j_getf dX0_keep_17 fX0_32 rfl rfl ?_
    refine j_if_lt (tgt := 55) dX0_keep_20 (by decide) (fun c_20 => ?_) (fun c_20 => ?_)
    · refine j_vret dX0_keep_55 rfl ?_ (Nat.le_of_ble_eq_true rfl) (Nat.le_of_ble_eq_true rfl)
      exact ⟨rfl, rfl, rfl, _, _, rfl⟩
    · refine j_aload_n dX0_keep_23 rfl rfl ?_
      refine j_getf dX0_keep_24 fX0_32 rfl rfl ?_
      refine j_aload_n dX0_keep_27 rfl rfl ?_
      refine j_getf dX0_keep_28 fX0_9 rfl rfl ?_
      refine j_alen dX0_keep_31 rfl rfl rfl ?_
      refine j_icmp_ge (tgt := 55) dX0_keep_32 (by decide) (fun c_32 => ?_) (fun c_32 => ?_)
      · refine j_vret dX0_keep_55 rfl ?_ (Nat.le_of_ble_eq_true rfl) (Nat.le_of_ble_eq_true rfl)
        exact ⟨rfl, rfl, rfl, _, _, rfl⟩
      · refine j_aload_n dX0_keep_35 rfl rfl ?_
        refine j_getf dX0_keep_36 fX0_9 rfl rfl ?_
        refine j_aload_n dX0_keep_39 rfl rfl ?_
        refine j_getf dX0_keep_40 fX0_32 rfl rfl ?_
        refine j_iload_n dX0_keep_43 rfl ?_
        refine j_sto (w' := ([.inr (5, [_, _, _, _, _, _]), z_ia 10 _], z_no)) dX0_keep_44 rfl (z_in c_20 c_32 (by decide)) rfl ?_
        refine j_aload_n dX0_keep_45 rfl rfl ?_
        refine j_dup dX0_keep_46 rfl ?_
        refine j_getf dX0_keep_47 fX0_32 rfl rfl ?_
        refine j_iconst (v := 1) dX0_keep_50 (by decide) ?_
        refine j_iadd dX0_keep_51 ?_
        refine j_put (w' := ([.inr (5, [_, _, _, _, _, _]), z_ia 10 _], z_no)) dX0_keep_52 fX0_32 tX0_1 rfl ⟨rfl, rfl⟩ rfl ?_
        refine j_vret dX0_keep_55 rfl ?_ (Nat.le_of_ble_eq_true rfl) (Nat.le_of_ble_eq_true rfl)
        exact ⟨rfl, rfl, rfl, _, _, rfl⟩
  · refine j_aload_n dX0_keep_12 rfl rfl ?_
    refine j_callV (q := (RX0, TX0, 6)) dX0_keep_13 kX0_dropOldest lX0_35 inX0_dropOldest seX0_dropOldest rfl rfl (z_frame [0, 1] rfl (by decide) (Nat.le_of_ble_eq_true rfl) (c_X0_dropOldest hl _ _ _ _ _ _)) (Nat.le_of_ble_eq_true rfl) ⟨(Nat.le_of_ble_eq_true rfl), (Nat.le_of_ble_eq_true rfl)⟩ rfl (Nat.le_of_ble_eq_true rfl) rfl rfl (fun _ _ h => h.elim) ?_
    rintro _ _ ⟨_, _, ⟨rfl, _, _, rfl⟩, rfl, rfl⟩
    refine j_w ([.inr (5, [_, _, _, _, _, _]), z_ia 10 _], z_no) rfl ?_
    refine j_aload_n dX0_keep_16 rfl rfl ?_
    refine j_getf dX0_keep_17 fX0_32 rfl rfl ?_
    refine j_if_lt (tgt := 55) dX0_keep_20 (by decide) (fun c_20 => ?_) (fun c_20 => ?_)
    · refine j_vret dX0_keep_55 rfl ?_ (Nat.le_of_ble_eq_true rfl) (Nat.le_of_ble_eq_true rfl)
      exact ⟨rfl, rfl, rfl, _, _, rfl⟩
    · refine j_aload_n dX0_keep_23 rfl rfl ?_
      refine j_getf dX0_keep_24 fX0_32 rfl rfl ?_
      refine j_aload_n dX0_keep_27 rfl rfl ?_
      refine j_getf dX0_keep_28 fX0_9 rfl rfl ?_
      refine j_alen dX0_keep_31 rfl rfl rfl ?_
      refine j_icmp_ge (tgt := 55) dX0_keep_32 (by decide) (fun c_32 => ?_) (fun c_32 => ?_)
      · refine j_vret dX0_keep_55 rfl ?_ (Nat.le_of_ble_eq_true rfl) (Nat.le_of_ble_eq_true rfl)
        exact ⟨rfl, rfl, rfl, _, _, rfl⟩
      · refine j_aload_n dX0_keep_35 rfl rfl ?_
        refine j_getf dX0_keep_36 fX0_9 rfl rfl ?_
        refine j_aload_n dX0_keep_39 rfl rfl ?_
        refine j_getf dX0_keep_40 fX0_32 rfl rfl ?_
        refine j_iload_n dX0_keep_43 rfl ?_
        refine j_sto (w' := ([.inr (5, [_, _, _, _, _, _]), z_ia 10 _], z_no)) dX0_keep_44 rfl (z_in c_20 c_32 (by decide)) rfl ?_
        refine j_aload_n dX0_keep_45 rfl rfl ?_
        refine j_dup dX0_keep_46 rfl ?_
        refine j_getf dX0_keep_47 fX0_32 rfl rfl ?_
        refine j_iconst (v := 1) dX0_keep_50 (by decide) ?_
        refine j_iadd dX0_keep_51 ?_
        refine j_put (w' := ([.inr (5, [_, _, _, _, _, _]), z_ia 10 _], z_no)) dX0_keep_52 fX0_32 tX0_1 rfl ⟨rfl, rfl⟩ rfl ?_
        refine j_vret dX0_keep_55 rfl ?_ (Nat.le_of_ble_eq_true rfl) (Nat.le_of_ble_eq_true rfl)
        exact ⟨rfl, rfl, rfl, _, _, rfl⟩
set_option maxRecDepth 100000 in
set_option maxHeartbeats 4000000 in
theorem c_X0_takesIn (hl : l.stackTraces = false) (k m su la ba : Int32) (f : Nat → Int32) (p : Int32) : z_CF G l mX0_takesIn 12 0 0 [.inr (5, [.ref 1, .int k, .int m, .int su, .int la, .int ba]), z_ia 10 f] [.ref 0, .int p] (fun v L => ∃ b : Bool, v = some (.int (z_bi b)) ∧ ∃ (k' m' s' l' : Int32) (f' : Nat → Int32), L = [.inr (5, [.ref 1, .int k', .int m', .int s', .int l', .int ba]), z_ia 10 f']) := by
  refine z_body hl (by decide) rfl (Nat.le_of_ble_eq_true rfl) ?_
  show z_J G l mX0_takesIn (z_SF 12 0 0 [.inr (5, [.ref 1, .int k, .int m, .int su, .int la, .int ba]), z_ia 10 f] (fun v L => ∃ b : Bool, v = some (.int (z_bi b)) ∧ ∃ (k' m' s' l' : Int32) (f' : Nat → Int32), L = [.inr (5, [.ref 1, .int k', .int m', .int s', .int l', .int ba]), z_ia 10 f'])) 0 [(0, _), (1, _)] [] _ 0 0
  refine j_aload_n dX0_takesIn_0 rfl rfl ?_
  refine j_getf dX0_takesIn_1 fX0_19 rfl rfl ?_
  refine j_sipush (v := (-1000)) dX0_takesIn_4 (by decide) ?_
  refine j_icmp_eq (tgt := 20) dX0_takesIn_7 (by decide) (fun c_7 => ?_) (fun c_7 => ?_)
  · refine j_aload_n dX0_takesIn_20 rfl rfl ?_
    refine j_dup dX0_takesIn_21 rfl ?_
    refine j_getf dX0_takesIn_22 fX0_22 rfl rfl ?_
    refine j_iconst (v := 1) dX0_takesIn_25 (by decide) ?_
    refine j_iadd dX0_takesIn_26 ?_
    refine j_put (w' := ([.inr (5, [_, _, _, _, _, _]), z_ia 10 _], z_no)) dX0_takesIn_27 fX0_22 tX0_2 rfl ⟨rfl, rfl⟩ rfl ?_
    refine j_aload_n dX0_takesIn_30 rfl rfl ?_
    refine j_dup dX0_takesIn_31 rfl ?_
    refine j_getf dX0_takesIn_32 fX0_25 rfl rfl ?_
    refine j_iload_n dX0_takesIn_35 rfl ?_
    refine j_iadd dX0_takesIn_36 ?_
    refine j_put (w' := ([.inr (5, [_, _, _, _, _, _]), z_ia 10 _], z_no)) dX0_takesIn_37 fX0_25 tX0_3 rfl ⟨rfl, rfl⟩ rfl ?_
    refine j_aload_n dX0_takesIn_40 rfl rfl ?_
    refine j_iload_n dX0_takesIn_41 rfl ?_
    refine j_put (w' := ([.inr (5, [_, _, _, _, _, _]), z_ia 10 _], z_no)) dX0_takesIn_42 fX0_15 tX0_4 rfl ⟨rfl, rfl⟩ rfl ?_
    refine j_aload_n dX0_takesIn_45 rfl rfl ?_
    refine j_iload_n dX0_takesIn_46 rfl ?_
    refine j_callV (q := (RX0, TX0, 6)) dX0_takesIn_47 kX0_keep lX0_28 inX0_keep seX0_keep rfl rfl (z_frame [0, 1] rfl (by decide) (Nat.le_of_ble_eq_true rfl) (c_X0_keep hl _ _ _ _ _ _ _)) (Nat.le_of_ble_eq_true rfl) ⟨(Nat.le_of_ble_eq_true rfl), (Nat.le_of_ble_eq_true rfl)⟩ rfl (Nat.le_of_ble_eq_true rfl) rfl rfl (fun _ _ h => h.elim) ?_
    rintro _ _ ⟨_, _, ⟨rfl, _, _, rfl⟩, rfl, rfl⟩
    refine j_w ([.inr (5, [_, _, _, _, _, _]), z_ia 10 _], z_no) rfl ?_
    refine j_iconst (v := 1) dX0_takesIn_50 (by decide) ?_
    refine j_iret dX0_takesIn_51 rfl rfl ?_ (Nat.le_of_ble_eq_true rfl) (Nat.le_of_ble_eq_true rfl)
    exact ⟨rfl, rfl, true, rfl, _, _, _, _, _, rfl⟩
  · refine j_iload_n dX0_takesIn_10 rfl ?_
    refine j_aload_n dX0_takesIn_11 rfl rfl ?_
    refine j_getf dX0_takesIn_12 fX0_19 rfl rfl ?_
    refine j_icmp_ne (tgt := 20) dX0_takesIn_15 (by decide) (fun c_15 => ?_) (fun c_15 => ?_)
    · refine j_aload_n dX0_takesIn_20 rfl rfl ?_
      refine j_dup dX0_takesIn_21 rfl ?_
      refine j_getf dX0_takesIn_22 fX0_22 rfl rfl ?_
      refine j_iconst (v := 1) dX0_takesIn_25 (by decide) ?_
      refine j_iadd dX0_takesIn_26 ?_
      refine j_put (w' := ([.inr (5, [_, _, _, _, _, _]), z_ia 10 _], z_no)) dX0_takesIn_27 fX0_22 tX0_2 rfl ⟨rfl, rfl⟩ rfl ?_
      refine j_aload_n dX0_takesIn_30 rfl rfl ?_
      refine j_dup dX0_takesIn_31 rfl ?_
      refine j_getf dX0_takesIn_32 fX0_25 rfl rfl ?_
      refine j_iload_n dX0_takesIn_35 rfl ?_
      refine j_iadd dX0_takesIn_36 ?_
      refine j_put (w' := ([.inr (5, [_, _, _, _, _, _]), z_ia 10 _], z_no)) dX0_takesIn_37 fX0_25 tX0_3 rfl ⟨rfl, rfl⟩ rfl ?_
      refine j_aload_n dX0_takesIn_40 rfl rfl ?_
      refine j_iload_n dX0_takesIn_41 rfl ?_
      refine j_put (w' := ([.inr (5, [_, _, _, _, _, _]), z_ia 10 _], z_no)) dX0_takesIn_42 fX0_15 tX0_4 rfl ⟨rfl, rfl⟩ rfl ?_
      refine j_aload_n dX0_takesIn_45 rfl rfl ?_
      refine j_iload_n dX0_takesIn_46 rfl ?_
      refine j_callV (q := (RX0, TX0, 6)) dX0_takesIn_47 kX0_keep lX0_28 inX0_keep seX0_keep rfl rfl (z_frame [0, 1] rfl (by decide) (Nat.le_of_ble_eq_true rfl) (c_X0_keep hl _ _ _ _ _ _ _)) (Nat.le_of_ble_eq_true rfl) ⟨(Nat.le_of_ble_eq_true rfl), (Nat.le_of_ble_eq_true rfl)⟩ rfl (Nat.le_of_ble_eq_true rfl) rfl rfl (fun _ _ h => h.elim) ?_
      rintro _ _ ⟨_, _, ⟨rfl, _, _, rfl⟩, rfl, rfl⟩
      refine j_w ([.inr (5, [_, _, _, _, _, _]), z_ia 10 _], z_no) rfl ?_
      refine j_iconst (v := 1) dX0_takesIn_50 (by decide) ?_
      refine j_iret dX0_takesIn_51 rfl rfl ?_ (Nat.le_of_ble_eq_true rfl) (Nat.le_of_ble_eq_true rfl)
      exact ⟨rfl, rfl, true, rfl, _, _, _, _, _, rfl⟩
    · refine j_iconst (v := 0) dX0_takesIn_18 (by decide) ?_
      refine j_iret dX0_takesIn_19 rfl rfl ?_ (Nat.le_of_ble_eq_true rfl) (Nat.le_of_ble_eq_true rfl)
      exact ⟨rfl, rfl, false, rfl, _, _, _, _, _, rfl⟩
set_option maxRecDepth 100000 in
set_option maxHeartbeats 4000000 in
theorem c_X0_beginAnew (hl : l.stackTraces = false) (k m su la ba : Int32) (f : Nat → Int32) : z_CF G l mX0_beginAnew 10 0 0 [.inr (5, [.ref 1, .int k, .int m, .int su, .int la, .int ba]), z_ia 10 f] [.ref 0] (fun v L => v = none ∧ ∃ (k' m' s' l' : Int32), L = [.inr (5, [.ref 1, .int k', .int m', .int s', .int l', .int ba]), z_ia 10 f]) := by
  refine z_body hl (by decide) rfl (Nat.le_of_ble_eq_true rfl) ?_
  show z_J G l mX0_beginAnew (z_SF 10 0 0 [.inr (5, [.ref 1, .int k, .int m, .int su, .int la, .int ba]), z_ia 10 f] (fun v L => v = none ∧ ∃ (k' m' s' l' : Int32), L = [.inr (5, [.ref 1, .int k', .int m', .int s', .int l', .int ba]), z_ia 10 f])) 0 [(0, _)] [] _ 0 0
  refine j_aload_n dX0_beginAnew_0 rfl rfl ?_
  refine j_iconst (v := 0) dX0_beginAnew_1 (by decide) ?_
  refine j_put (w' := ([.inr (5, [_, _, _, _, _, _]), z_ia 10 _], z_no)) dX0_beginAnew_2 fX0_32 tX0_1 rfl ⟨rfl, rfl⟩ rfl ?_
  refine j_aload_n dX0_beginAnew_5 rfl rfl ?_
  refine j_iconst (v := 0) dX0_beginAnew_6 (by decide) ?_
  refine j_put (w' := ([.inr (5, [_, _, _, _, _, _]), z_ia 10 _], z_no)) dX0_beginAnew_7 fX0_22 tX0_2 rfl ⟨rfl, rfl⟩ rfl ?_
  refine j_aload_n dX0_beginAnew_10 rfl rfl ?_
  refine j_iconst (v := 0) dX0_beginAnew_11 (by decide) ?_
  refine j_put (w' := ([.inr (5, [_, _, _, _, _, _]), z_ia 10 _], z_no)) dX0_beginAnew_12 fX0_25 tX0_3 rfl ⟨rfl, rfl⟩ rfl ?_
  refine j_aload_n dX0_beginAnew_15 rfl rfl ?_
  refine j_iconst (v := (-1)) dX0_beginAnew_16 (by decide) ?_
  refine j_put (w' := ([.inr (5, [_, _, _, _, _, _]), z_ia 10 _], z_no)) dX0_beginAnew_17 fX0_15 tX0_4 rfl ⟨rfl, rfl⟩ rfl ?_
  refine j_vret dX0_beginAnew_20 rfl ?_ (Nat.le_of_ble_eq_true rfl) (Nat.le_of_ble_eq_true rfl)
  exact ⟨rfl, rfl, rfl, _, _, _, _, rfl⟩
set_option maxRecDepth 100000 in
set_option maxHeartbeats 4000000 in
theorem c_X0_tells (hl : l.stackTraces = false) (k m su la ba : Int32) (f : Nat → Int32) (p : Int32) : z_CF G l mX0_tells 10 0 0 [.inr (5, [.ref 1, .int k, .int m, .int su, .int la, .int ba]), z_ia 10 f] [.ref 0, .int p] (fun v L => ∃ x : Int32, v = some (.int x) ∧ L = [.inr (5, [.ref 1, .int k, .int m, .int su, .int la, .int ba]), z_ia 10 f]) := by
  refine z_body hl (by decide) rfl (Nat.le_of_ble_eq_true rfl) ?_
  show z_J G l mX0_tells (z_SF 10 0 0 [.inr (5, [.ref 1, .int k, .int m, .int su, .int la, .int ba]), z_ia 10 f] (fun v L => ∃ x : Int32, v = some (.int x) ∧ L = [.inr (5, [.ref 1, .int k, .int m, .int su, .int la, .int ba]), z_ia 10 f])) 0 [(0, _), (1, _)] [] _ 0 0
  refine j_iload_n dX0_tells_0 rfl ?_
  rcases z_sw3 p with rfl | rfl | rfl | hp
  · refine j_tsIn (tgt := 28) dX0_tells_1 (by decide) (by decide) rfl (by decide) ?_
    refine j_aload_n dX0_tells_28 rfl rfl ?_
    refine j_getf dX0_tells_29 fX0_22 rfl rfl ?_
    refine j_iret dX0_tells_32 rfl rfl ?_ (Nat.le_of_ble_eq_true rfl) (Nat.le_of_ble_eq_true rfl)
    exact ⟨rfl, rfl, _, rfl, rfl⟩
  · refine j_tsIn (tgt := 33) dX0_tells_1 (by decide) (by decide) rfl (by decide) ?_
    refine j_aload_n dX0_tells_33 rfl rfl ?_
    refine j_getf dX0_tells_34 fX0_25 rfl rfl ?_
    refine j_iret dX0_tells_37 rfl rfl ?_ (Nat.le_of_ble_eq_true rfl) (Nat.le_of_ble_eq_true rfl)
    exact ⟨rfl, rfl, _, rfl, rfl⟩
  · refine j_tsIn (tgt := 38) dX0_tells_1 (by decide) (by decide) rfl (by decide) ?_
    refine j_aload_n dX0_tells_38 rfl rfl ?_
    refine j_getf dX0_tells_39 fX0_15 rfl rfl ?_
    refine j_iret dX0_tells_42 rfl rfl ?_ (Nat.le_of_ble_eq_true rfl) (Nat.le_of_ble_eq_true rfl)
    exact ⟨rfl, rfl, _, rfl, rfl⟩
  · refine j_tsOut (tgt := 43) dX0_tells_1 hp (by decide) ?_
    refine j_aload_n dX0_tells_43 rfl rfl ?_
    refine j_getf dX0_tells_44 fX0_19 rfl rfl ?_
    refine j_iret dX0_tells_47 rfl rfl ?_ (Nat.le_of_ble_eq_true rfl) (Nat.le_of_ble_eq_true rfl)
    exact ⟨rfl, rfl, _, rfl, rfl⟩
end ZL1
