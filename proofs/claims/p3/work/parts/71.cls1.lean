section ZM0
section ZL1
variable {G : z_G} {l : Launch}
set_option maxRecDepth 100000 in
set_option maxHeartbeats 4000000 in
theorem c_X6_add (hl : l.stackTraces = false) (f : Nat → Int32) (p : Int32) : z_CF G l mX6_add 10 0 0 [.inr (11, [.ref 1]), z_ia 7 f] [.ref 0, .int p] (fun v L => v = none ∧ ∃ f' : Nat → Int32, L = [.inr (11, [.ref 1]), z_ia 7 f']) := by
  refine z_body hl (by decide) rfl (Nat.le_of_ble_eq_true rfl) ?_
  show z_J G l mX6_add (z_SF 10 0 0 [.inr (11, [.ref 1]), z_ia 7 f] (fun v L => v = none ∧ ∃ f' : Nat → Int32, L = [.inr (11, [.ref 1]), z_ia 7 f'])) 0 [(0, _), (1, _)] [] _ 0 0
  refine j_iload_n dX6_add_0 rfl ?_
  refine j_if_lt (tgt := 23) dX6_add_1 (by decide) (fun c_1 => ?_) (fun c_1 => ?_)
  · refine j_vret dX6_add_23 rfl ?_ (Nat.le_of_ble_eq_true rfl) (Nat.le_of_ble_eq_true rfl)
    exact ⟨rfl, rfl, rfl, _, rfl⟩
  · refine j_iload_n dX6_add_4 rfl ?_
    refine j_aload_n dX6_add_5 rfl rfl ?_
    refine j_getf dX6_add_6 fX6_9 rfl rfl ?_
    refine j_alen dX6_add_9 rfl rfl rfl ?_
    refine j_icmp_ge (tgt := 23) dX6_add_10 (by decide) (fun c_10 => ?_) (fun c_10 => ?_)
    · refine j_vret dX6_add_23 rfl ?_ (Nat.le_of_ble_eq_true rfl) (Nat.le_of_ble_eq_true rfl)
      exact ⟨rfl, rfl, rfl, _, rfl⟩
    · refine j_aload_n dX6_add_13 rfl rfl ?_
      refine j_getf dX6_add_14 fX6_9 rfl rfl ?_
      refine j_iload_n dX6_add_17 rfl ?_
      refine j_dup2 dX6_add_18 rfl rfl ?_
      refine j_ld dX6_add_19 rfl (z_in c_1 c_10 (by decide)) ?_
      refine j_iconst (v := 1) dX6_add_20 (by decide) ?_
      refine j_iadd dX6_add_21 ?_
      refine j_sto (w' := ([.inr (11, [_]), z_ia 7 _], z_no)) dX6_add_22 rfl (z_in c_1 c_10 (by decide)) rfl ?_
      refine j_vret dX6_add_23 rfl ?_ (Nat.le_of_ble_eq_true rfl) (Nat.le_of_ble_eq_true rfl)
      exact ⟨rfl, rfl, rfl, _, rfl⟩
set_option maxRecDepth 100000 in
set_option maxHeartbeats 4000000 in
theorem c_X6_of (hl : l.stackTraces = false) (f : Nat → Int32) (p : Int32) : z_CF G l mX6_of 10 0 0 [.inr (11, [.ref 1]), z_ia 7 f] [.ref 0, .int p] (fun v L => ∃ x : Int32, v = some (.int x) ∧ L = [.inr (11, [.ref 1]), z_ia 7 f]) := by
  refine z_body hl (by decide) rfl (Nat.le_of_ble_eq_true rfl) ?_
  show z_J G l mX6_of (z_SF 10 0 0 [.inr (11, [.ref 1]), z_ia 7 f] (fun v L => ∃ x : Int32, v = some (.int x) ∧ L = [.inr (11, [.ref 1]), z_ia 7 f])) 0 [(0, _), (1, _)] [] _ 0 0
  refine j_iload_n dX6_of_0 rfl ?_
  refine j_if_lt (tgt := 22) dX6_of_1 (by decide) (fun c_1 => ?_) (fun c_1 => ?_)
  · refine j_iconst (v := 0) dX6_of_22 (by decide) ?_
    refine j_iret dX6_of_23 rfl rfl ?_ (Nat.le_of_ble_eq_true rfl) (Nat.le_of_ble_eq_true rfl)
    exact ⟨rfl, rfl, _, rfl, rfl⟩
  · refine j_iload_n dX6_of_4 rfl ?_
    refine j_aload_n dX6_of_5 rfl rfl ?_
    refine j_getf dX6_of_6 fX6_9 rfl rfl ?_
    refine j_alen dX6_of_9 rfl rfl rfl ?_
    refine j_icmp_ge (tgt := 22) dX6_of_10 (by decide) (fun c_10 => ?_) (fun c_10 => ?_)
    · refine j_iconst (v := 0) dX6_of_22 (by decide) ?_
      refine j_iret dX6_of_23 rfl rfl ?_ (Nat.le_of_ble_eq_true rfl) (Nat.le_of_ble_eq_true rfl)
      exact ⟨rfl, rfl, _, rfl, rfl⟩
    · refine j_aload_n dX6_of_13 rfl rfl ?_
      refine j_getf dX6_of_14 fX6_9 rfl rfl ?_
      refine j_iload_n dX6_of_17 rfl ?_
      refine j_ld dX6_of_18 rfl (z_in c_1 c_10 (by decide)) ?_
      refine j_goto (tgt := 23) dX6_of_19 (by decide) ?_
      refine j_iret dX6_of_23 rfl rfl ?_ (Nat.le_of_ble_eq_true rfl) (Nat.le_of_ble_eq_true rfl)
      exact ⟨rfl, rfl, _, rfl, rfl⟩
set_option maxRecDepth 100000 in
set_option maxHeartbeats 4000000 in
theorem c_X6_startAnew (hl : l.stackTraces = false) (f : Nat → Int32) : z_CF G l mX6_startAnew 10 0 0 [.inr (11, [.ref 1]), z_ia 7 f] [.ref 0] (fun v L => ∃ x : Int32, v = some (.int x) ∧ ∃ f' : Nat → Int32, L = [.inr (11, [.ref 1]), z_ia 7 f']) := by
  refine z_body hl (by decide) rfl (Nat.le_of_ble_eq_true rfl) ?_
  show z_J G l mX6_startAnew (z_SF 10 0 0 [.inr (11, [.ref 1]), z_ia 7 f] (fun v L => ∃ x : Int32, v = some (.int x) ∧ ∃ f' : Nat → Int32, L = [.inr (11, [.ref 1]), z_ia 7 f'])) 0 [(0, _)] [] _ 0 0
  refine j_iconst (v := 0) dX6_startAnew_0 (by decide) ?_
  refine j_istore_n (lo' := [(1, _), (0, _)]) dX6_startAnew_1 (by decide) rfl ?_
  refine j_iconst (v := 0) dX6_startAnew_2 (by decide) ?_
  refine j_istore_n (lo' := [(2, _), (1, _), (0, _)]) dX6_startAnew_3 (by decide) rfl ?_
  have loop : ∀ (n j : Nat) (s : Int32) (f' : Nat → Int32), j ≤ 7 → 7 < j + n → z_J G l mX6_startAnew (z_SF 10 0 0 [.inr (11, [.ref 1]), z_ia 7 f] (fun v L => ∃ x : Int32, v = some (.int x) ∧ ∃ f' : Nat → Int32, L = [.inr (11, [.ref 1]), z_ia 7 f'])) 4 [(0, .ref 0), (1, .int s), (2, .int (nI j))] [] ([.inr (11, [.ref 1]), z_ia 7 f'], z_no) 0 0 := by
    intro n
    induction n with
    | zero => intro j s f' h1 h2 ; exact absurd h2 (by omega)
    | succ n ih =>
      intro j s f' h1 h2
      refine j_iload_n dX6_startAnew_4 rfl ?_
      refine j_aload_n dX6_startAnew_5 rfl rfl ?_
      refine j_getf dX6_startAnew_6 fX6_9 rfl rfl ?_
      refine j_alen dX6_startAnew_9 rfl rfl rfl ?_
      refine j_icmp_ge (tgt := 35) dX6_startAnew_10 (by decide) (fun c_10 => ?_) (fun c_10 => ?_)
      · refine j_iload_n dX6_startAnew_35 rfl ?_
        refine j_iret dX6_startAnew_36 rfl rfl ?_ (Nat.le_of_ble_eq_true rfl) (Nat.le_of_ble_eq_true rfl)
        exact ⟨rfl, rfl, _, rfl, _, rfl⟩
      · have hj : j < 7 := z_ltI c_10 (by omega) (by decide)
        refine j_iload_n dX6_startAnew_13 rfl ?_
        refine j_aload_n dX6_startAnew_14 rfl rfl ?_
        refine j_getf dX6_startAnew_15 fX6_9 rfl rfl ?_
        refine j_iload_n dX6_startAnew_18 rfl ?_
        refine j_ld dX6_startAnew_19 rfl (vp_in_nI hj (by decide)) ?_
        refine j_iadd dX6_startAnew_20 ?_
        refine j_istore_n (lo' := [(1, _), (0, _), (2, _)]) dX6_startAnew_21 (by decide) rfl ?_
        refine j_aload_n dX6_startAnew_22 rfl rfl ?_
        refine j_getf dX6_startAnew_23 fX6_9 rfl rfl ?_
        refine j_iload_n dX6_startAnew_26 rfl ?_
        refine j_iconst (v := 0) dX6_startAnew_27 (by decide) ?_
        refine j_sto (w' := ([.inr (11, [_]), z_ia 7 _], z_no)) dX6_startAnew_28 rfl (vp_in_nI hj (by decide)) rfl ?_
        refine j_iinc (lo' := [(2, _), (1, _), (0, _)]) dX6_startAnew_29 rfl (z_inc _) (by decide) rfl ?_
        refine j_goto (tgt := 4) dX6_startAnew_32 (by decide) ?_
        exact j_lo2 (ih (j + 1) _ _ (by omega) (by omega)) (z_q1 rfl (z_q1 rfl (z_q1 rfl z_q0)))
  exact j_lo2 (loop (7 + 1) 0 _ _ (by omega) (by omega)) (z_q1 rfl (z_q1 rfl (z_q1 rfl z_q0)))
set_option maxRecDepth 100000 in
set_option maxHeartbeats 4000000 in
theorem c_X8_takeOver (hl : l.stackTraces = false) (N : Nat) (f g : Nat → Int32) (hN : N < 1000) : z_CF G l mX8_takeOver 10 0 0 [z_ia N f, z_ia N g] [.ref 0, .ref 1] (fun v L => v = none ∧ ∃ f' : Nat → Int32, L = [z_ia N f', z_ia N g]) := by
  refine z_body hl (by decide) rfl (Nat.le_of_ble_eq_true rfl) ?_
  show z_J G l mX8_takeOver (z_SF 10 0 0 [z_ia N f, z_ia N g] (fun v L => v = none ∧ ∃ f' : Nat → Int32, L = [z_ia N f', z_ia N g])) 0 [(0, _), (1, _)] [] _ 0 0
  refine j_iconst (v := 0) dX8_takeOver_0 (by decide) ?_
  refine j_istore_n (lo' := [(2, _), (0, _), (1, _)]) dX8_takeOver_1 (by decide) rfl ?_
  have loop : ∀ (n j : Nat) (f' : Nat → Int32), j ≤ N → N < j + n → z_J G l mX8_takeOver (z_SF 10 0 0 [z_ia N f, z_ia N g] (fun v L => v = none ∧ ∃ f' : Nat → Int32, L = [z_ia N f', z_ia N g])) 2 [(0, .ref 0), (1, .ref 1), (2, .int (nI j))] [] ([z_ia N f', z_ia N g], z_no) 0 0 := by
    intro n
    induction n with
    | zero => intro j f' h1 h2 ; exact absurd h2 (by omega)
    | succ n ih =>
      intro j f' h1 h2
      refine j_iload_n dX8_takeOver_2 rfl ?_
      refine j_aload_n dX8_takeOver_3 rfl rfl ?_
      refine j_alen dX8_takeOver_4 rfl rfl rfl ?_
      refine j_icmp_ge (tgt := 26) dX8_takeOver_5 (by decide) (fun c_5 => ?_) (fun c_5 => ?_)
      · refine j_vret dX8_takeOver_26 rfl ?_ (Nat.le_of_ble_eq_true rfl) (Nat.le_of_ble_eq_true rfl)
        exact ⟨rfl, rfl, rfl, _, rfl⟩
      · have hj : j < N := z_ltI c_5 (by omega) (by omega)
        refine j_iload_n dX8_takeOver_8 rfl ?_
        refine j_aload_n dX8_takeOver_9 rfl rfl ?_
        refine j_alen dX8_takeOver_10 rfl rfl rfl ?_
        refine j_icmp_ge (tgt := 26) dX8_takeOver_11 (by decide) (fun c_11 => ?_) (fun c_11 => ?_)
        · refine j_vret dX8_takeOver_26 rfl ?_ (Nat.le_of_ble_eq_true rfl) (Nat.le_of_ble_eq_true rfl)
          exact ⟨rfl, rfl, rfl, _, rfl⟩
        · refine j_aload_n dX8_takeOver_14 rfl rfl ?_
          refine j_iload_n dX8_takeOver_15 rfl ?_
          refine j_aload_n dX8_takeOver_16 rfl rfl ?_
          refine j_iload_n dX8_takeOver_17 rfl ?_
          refine j_ld dX8_takeOver_18 rfl (vp_in_nI hj (by omega)) ?_
          refine j_sto (w' := ([z_ia _ _, z_ia _ _], z_no)) dX8_takeOver_19 rfl (vp_in_nI hj (by omega)) rfl ?_
          refine j_iinc (lo' := [(2, _), (0, _), (1, _)]) dX8_takeOver_20 rfl (z_inc _) (by decide) rfl ?_
          refine j_goto (tgt := 2) dX8_takeOver_23 (by decide) ?_
          exact j_lo2 (ih (j + 1) _ (by omega) (by omega)) (z_q1 rfl (z_q1 rfl (z_q1 rfl z_q0)))
  exact j_lo2 (loop (N + 1) 0 _ (by omega) (by omega)) (z_q1 rfl (z_q1 rfl (z_q1 rfl z_q0)))
set_option maxRecDepth 100000 in
set_option maxHeartbeats 4000000 in
theorem c_X1_isPlace (hl : l.stackTraces = false) (m fx : Int32) (f c : Nat → Int32) (p : Int32) : z_CF G l mX1_isPlace 10 0 0 [.inr (6, [.ref 1, .ref 2, .int m, .int fx]), z_ia 12 f, .inr (11, [.ref 3]), z_ia 7 c] [.ref 0, .int p] (fun v L => ∃ b : Bool, v = some (.int (z_bi b)) ∧ L = [.inr (6, [.ref 1, .ref 2, .int m, .int fx]), z_ia 12 f, .inr (11, [.ref 3]), z_ia 7 c] ∧ (b = true → vp_in p 12)) := by
  refine z_body hl (by decide) rfl (Nat.le_of_ble_eq_true rfl) ?_
  show z_J G l mX1_isPlace (z_SF 10 0 0 [.inr (6, [.ref 1, .ref 2, .int m, .int fx]), z_ia 12 f, .inr (11, [.ref 3]), z_ia 7 c] (fun v L => ∃ b : Bool, v = some (.int (z_bi b)) ∧ L = [.inr (6, [.ref 1, .ref 2, .int m, .int fx]), z_ia 12 f, .inr (11, [.ref 3]), z_ia 7 c] ∧ (b = true → vp_in p 12))) 0 [(0, _), (1, _)] [] _ 0 0
  refine j_iload_n dX1_isPlace_0 rfl ?_
  refine j_if_lt (tgt := 25) dX1_isPlace_1 (by decide) (fun c_1 => ?_) (fun c_1 => ?_)
  · refine j_iconst (v := 0) dX1_isPlace_25 (by decide) ?_
    refine j_iret dX1_isPlace_26 rfl rfl ?_ (Nat.le_of_ble_eq_true rfl) (Nat.le_of_ble_eq_true rfl)
    first | exact ⟨rfl, rfl, true, rfl, rfl, fun _ => z_in c_1 c_18 (by decide)⟩ | exact ⟨rfl, rfl, false, rfl, rfl, fun z => Bool.noConfusion z⟩
  · refine j_iload_n dX1_isPlace_4 rfl ?_
    refine j_aload_n dX1_isPlace_5 rfl rfl ?_
    refine j_getf dX1_isPlace_6 fX1_22 rfl rfl ?_
    refine j_icmp_ge (tgt := 25) dX1_isPlace_9 (by decide) (fun c_9 => ?_) (fun c_9 => ?_)
    · refine j_iconst (v := 0) dX1_isPlace_25 (by decide) ?_
      refine j_iret dX1_isPlace_26 rfl rfl ?_ (Nat.le_of_ble_eq_true rfl) (Nat.le_of_ble_eq_true rfl)
      first | exact ⟨rfl, rfl, true, rfl, rfl, fun _ => z_in c_1 c_18 (by decide)⟩ | exact ⟨rfl, rfl, false, rfl, rfl, fun z => Bool.noConfusion z⟩
    · refine j_iload_n dX1_isPlace_12 rfl ?_
      refine j_aload_n dX1_isPlace_13 rfl rfl ?_
      refine j_getf dX1_isPlace_14 fX1_9 rfl rfl ?_
      refine j_alen dX1_isPlace_17 rfl rfl rfl ?_
      refine j_icmp_ge (tgt := 25) dX1_isPlace_18 (by decide) (fun c_18 => ?_) (fun c_18 => ?_)
      · refine j_iconst (v := 0) dX1_isPlace_25 (by decide) ?_
        refine j_iret dX1_isPlace_26 rfl rfl ?_ (Nat.le_of_ble_eq_true rfl) (Nat.le_of_ble_eq_true rfl)
        first | exact ⟨rfl, rfl, true, rfl, rfl, fun _ => z_in c_1 c_18 (by decide)⟩ | exact ⟨rfl, rfl, false, rfl, rfl, fun z => Bool.noConfusion z⟩
      · refine j_iconst (v := 1) dX1_isPlace_21 (by decide) ?_
        refine j_goto (tgt := 26) dX1_isPlace_22 (by decide) ?_
        refine j_iret dX1_isPlace_26 rfl rfl ?_ (Nat.le_of_ble_eq_true rfl) (Nat.le_of_ble_eq_true rfl)
        first | exact ⟨rfl, rfl, true, rfl, rfl, fun _ => z_in c_1 c_18 (by decide)⟩ | exact ⟨rfl, rfl, false, rfl, rfl, fun z => Bool.noConfusion z⟩
set_option maxRecDepth 100000 in
set_option maxHeartbeats 4000000 in
theorem c_X1_valueAt (hl : l.stackTraces = false) (m fx : Int32) (f c : Nat → Int32) (p : Int32) : z_CF G l mX1_valueAt 11 0 0 [.inr (6, [.ref 1, .ref 2, .int m, .int fx]), z_ia 12 f, .inr (11, [.ref 3]), z_ia 7 c] [.ref 0, .int p] (fun v L => ∃ x : Int32, v = some (.int x) ∧ L = [.inr (6, [.ref 1, .ref 2, .int m, .int fx]), z_ia 12 f, .inr (11, [.ref 3]), z_ia 7 c]) := by
  refine z_body hl (by decide) rfl (Nat.le_of_ble_eq_true rfl) ?_
  show z_J G l mX1_valueAt (z_SF 11 0 0 [.inr (6, [.ref 1, .ref 2, .int m, .int fx]), z_ia 12 f, .inr (11, [.ref 3]), z_ia 7 c] (fun v L => ∃ x : Int32, v = some (.int x) ∧ L = [.inr (6, [.ref 1, .ref 2, .int m, .int fx]), z_ia 12 f, .inr (11, [.ref 3]), z_ia 7 c])) 0 [(0, _), (1, _)] [] _ 0 0
  refine j_aload_n dX1_valueAt_0 rfl rfl ?_
  refine j_iload_n dX1_valueAt_1 rfl ?_
  refine j_callV (q := (RX1, TX1, 4)) dX1_valueAt_2 kX1_isPlace lX1_26 inX1_isPlace seX1_isPlace rfl rfl (z_frame [0, 1, 2, 3] rfl (by decide) (Nat.le_of_ble_eq_true rfl) (c_X1_isPlace hl _ _ _ _ _)) (Nat.le_of_ble_eq_true rfl) ⟨(Nat.le_of_ble_eq_true rfl), (Nat.le_of_ble_eq_true rfl)⟩ rfl (Nat.le_of_ble_eq_true rfl) rfl rfl (fun _ _ h => h.elim) ?_
  rintro _ _ ⟨_, _, ⟨b, rfl, rfl, hb⟩, rfl, rfl⟩
  refine j_w ([.inr (6, [_, _, _, _]), z_ia 12 _, .inr (11, [_]), z_ia 7 _], z_no) rfl ?_
  refine j_if_eq (tgt := 17) dX1_valueAt_5 (by decide) (fun c_5 => ?_) (fun c_5 => ?_)
  · refine j_iconst (v := 0) dX1_valueAt_17 (by decide) ?_
    refine j_iret dX1_valueAt_18 rfl rfl ?_ (Nat.le_of_ble_eq_true rfl) (Nat.le_of_ble_eq_true rfl)
    exact ⟨rfl, rfl, _, rfl, rfl⟩
  · refine j_aload_n dX1_valueAt_8 rfl rfl ?_
    refine j_getf dX1_valueAt_9 fX1_9 rfl rfl ?_
    refine j_iload_n dX1_valueAt_12 rfl ?_
    refine j_ld dX1_valueAt_13 rfl (hb (z_bt c_5)) ?_
    refine j_goto (tgt := 18) dX1_valueAt_14 (by decide) ?_
    refine j_iret dX1_valueAt_18 rfl rfl ?_ (Nat.le_of_ble_eq_true rfl) (Nat.le_of_ble_eq_true rfl)
    exact ⟨rfl, rfl, _, rfl, rfl⟩
set_option maxRecDepth 100000 in
set_option maxHeartbeats 4000000 in
theorem c_X1_takeOut (hl : l.stackTraces = false) (m fx : Int32) (f c : Nat → Int32) (p : Int32) : z_CF G l mX1_takeOut 12 0 0 [.inr (6, [.ref 1, .ref 2, .int m, .int fx]), z_ia 12 f, .inr (11, [.ref 3]), z_ia 7 c] [.ref 0, .int p] (fun v L => v = none ∧ ∃ (m' : Int32) (f' : Nat → Int32), L = [.inr (6, [.ref 1, .ref 2, .int m', .int fx]), z_ia 12 f', .inr (11, [.ref 3]), z_ia 7 c]) := by
  refine z_body hl (by decide) rfl (Nat.le_of_ble_eq_true rfl) ?_
  show z_J G l mX1_takeOut (z_SF 12 0 0 [.inr (6, [.ref 1, .ref 2, .int m, .int fx]), z_ia 12 f, .inr (11, [.ref 3]), z_ia 7 c] (fun v L => v = none ∧ ∃ (m' : Int32) (f' : Nat → Int32), L = [.inr (6, [.ref 1, .ref 2, .int m', .int fx]), z_ia 12 f', .inr (11, [.ref 3]), z_ia 7 c])) 0 [(0, _), (1, _)] [] _ 0 0
  refine j_aload_n dX1_takeOut_0 rfl rfl ?_
  refine j_iload_n dX1_takeOut_1 rfl ?_
  refine j_callV (q := (RX1, TX1, 4)) dX1_takeOut_2 kX1_isPlace lX1_26 inX1_isPlace seX1_isPlace rfl rfl (z_frame [0, 1, 2, 3] rfl (by decide) (Nat.le_of_ble_eq_true rfl) (c_X1_isPlace hl _ _ _ _ _)) (Nat.le_of_ble_eq_true rfl) ⟨(Nat.le_of_ble_eq_true rfl), (Nat.le_of_ble_eq_true rfl)⟩ rfl (Nat.le_of_ble_eq_true rfl) rfl rfl (fun _ _ h => h.elim) ?_
  rintro _ _ ⟨_, _, ⟨b, rfl, rfl, hb⟩, rfl, rfl⟩
  refine j_w ([.inr (6, [_, _, _, _]), z_ia 12 _, .inr (11, [_]), z_ia 7 _], z_no) rfl ?_
  refine j_if_ne (tgt := 9) dX1_takeOut_5 (by decide) (fun c_5 => ?_) (fun c_5 => ?_)
  · obtain ⟨k, hk, rfl⟩ := vp_in_of (hb (z_bt c_5)) (by decide)
    refine j_iload_n dX1_takeOut_9 rfl ?_
    refine j_iconst (v := 1) dX1_takeOut_10 (by decide) ?_
    refine j_iadd dX1_takeOut_11 ?_
    refine j_top (congrArg Value.int (nI_1 k)) ?_
    refine j_istore_n (lo' := [(2, _), (0, _), (1, _)]) dX1_takeOut_12 (by decide) rfl ?_
    have loop : ∀ (n j : Nat) (f' : Nat → Int32), j ≤ 12 → 12 < j + n → z_J G l mX1_takeOut (z_SF 12 0 0 [.inr (6, [.ref 1, .ref 2, .int m, .int fx]), z_ia 12 f, .inr (11, [.ref 3]), z_ia 7 c] (fun v L => v = none ∧ ∃ (m' : Int32) (f' : Nat → Int32), L = [.inr (6, [.ref 1, .ref 2, .int m', .int fx]), z_ia 12 f', .inr (11, [.ref 3]), z_ia 7 c])) 13 [(0, .ref 0), (2, .int (nI (j + 1)))] [] ([.inr (6, [.ref 1, .ref 2, .int m, .int fx]), z_ia 12 f', .inr (11, [.ref 3]), z_ia 7 c], z_no) 0 0 := by
      intro n
      induction n with
      | zero => intro j f' h1 h2 ; exact absurd h2 (by omega)
      | succ n ih =>
        intro j f' h1 h2
        refine j_iload_n dX1_takeOut_13 rfl ?_
        refine j_aload_n dX1_takeOut_14 rfl rfl ?_
        refine j_getf dX1_takeOut_15 fX1_22 rfl rfl ?_
        refine j_icmp_ge (tgt := 50) dX1_takeOut_18 (by decide) (fun c_18 => ?_) (fun c_18 => ?_)
        · refine j_aload_n dX1_takeOut_50 rfl rfl ?_
          refine j_dup dX1_takeOut_51 rfl ?_
          refine j_getf dX1_takeOut_52 fX1_22 rfl rfl ?_
          refine j_iconst (v := 1) dX1_takeOut_55 (by decide) ?_
          refine j_isub dX1_takeOut_56 ?_
          refine j_put (w' := ([.inr (6, [_, _, _, _]), z_ia 12 _, .inr (11, [_]), z_ia 7 _], z_no)) dX1_takeOut_57 fX1_22 tX1_2 rfl ⟨rfl, rfl⟩ rfl ?_
          refine j_vret dX1_takeOut_60 rfl ?_ (Nat.le_of_ble_eq_true rfl) (Nat.le_of_ble_eq_true rfl)
          exact ⟨rfl, rfl, rfl, _, _, rfl⟩
        · refine j_iload_n dX1_takeOut_21 rfl ?_
          refine j_aload_n dX1_takeOut_22 rfl rfl ?_
          refine j_getf dX1_takeOut_23 fX1_9 rfl rfl ?_
          refine j_alen dX1_takeOut_26 rfl rfl rfl ?_
          refine j_icmp_ge (tgt := 50) dX1_takeOut_27 (by decide) (fun c_27 => ?_) (fun c_27 => ?_)
          · refine j_aload_n dX1_takeOut_50 rfl rfl ?_
            refine j_dup dX1_takeOut_51 rfl ?_
            refine j_getf dX1_takeOut_52 fX1_22 rfl rfl ?_
            refine j_iconst (v := 1) dX1_takeOut_55 (by decide) ?_
            refine j_isub dX1_takeOut_56 ?_
            refine j_put (w' := ([.inr (6, [_, _, _, _]), z_ia 12 _, .inr (11, [_]), z_ia 7 _], z_no)) dX1_takeOut_57 fX1_22 tX1_2 rfl ⟨rfl, rfl⟩ rfl ?_
            refine j_vret dX1_takeOut_60 rfl ?_ (Nat.le_of_ble_eq_true rfl) (Nat.le_of_ble_eq_true rfl)
            exact ⟨rfl, rfl, rfl, _, _, rfl⟩
          · have hj : j + 1 < 12 := z_ltI c_27 (by omega) (by decide)
            refine j_aload_n dX1_takeOut_30 rfl rfl ?_
            refine j_getf dX1_takeOut_31 fX1_9 rfl rfl ?_
            refine j_iload_n dX1_takeOut_34 rfl ?_
            refine j_iconst (v := 1) dX1_takeOut_35 (by decide) ?_
            refine j_isub dX1_takeOut_36 ?_
            refine j_top (congrArg Value.int (nI_pred j)) ?_
            refine j_aload_n dX1_takeOut_37 rfl rfl ?_
            refine j_getf dX1_takeOut_38 fX1_9 rfl rfl ?_
            refine j_iload_n dX1_takeOut_41 rfl ?_
            refine j_ld dX1_takeOut_42 rfl (vp_in_nI hj (by decide)) ?_
            refine j_sto (w' := ([.inr (6, [_, _, _, _]), z_ia 12 _, .inr (11, [_]), z_ia 7 _], z_no)) dX1_takeOut_43 rfl (vp_in_nI (by omega) (by decide)) rfl ?_
            refine j_iinc (lo' := [(2, _), (0, _)]) dX1_takeOut_44 rfl (z_inc _) (by decide) rfl ?_
            refine j_goto (tgt := 13) dX1_takeOut_47 (by decide) ?_
            exact j_lo2 (ih (j + 1) _ (by omega) (by omega)) (z_q1 rfl (z_q1 rfl z_q0))
    exact j_lo2 (loop (12 + 1) k _ (by omega) (by omega)) (z_q1 rfl (z_q1 rfl z_q0))
  · refine j_vret dX1_takeOut_8 rfl ?_ (Nat.le_of_ble_eq_true rfl) (Nat.le_of_ble_eq_true rfl)
    exact ⟨rfl, rfl, rfl, _, _, rfl⟩
set_option maxRecDepth 100000 in
set_option maxHeartbeats 4000000 in
theorem c_X1_become (hl : l.stackTraces = false) (m fx : Int32) (f c : Nat → Int32) (m2 fx2 : Int32) (f2 c2 : Nat → Int32) : z_CF G l mX1_become 12 0 0 [.inr (6, [.ref 1, .ref 2, .int m, .int fx]), z_ia 12 f, .inr (11, [.ref 3]), z_ia 7 c, .inr (6, [.ref 5, .ref 6, .int m2, .int fx2]), z_ia 12 f2, .inr (11, [.ref 7]), z_ia 7 c2] [.ref 0, .ref 4] (fun v L => v = none ∧ ∃ f' : Nat → Int32, L = [.inr (6, [.ref 1, .ref 2, .int m2, .int fx]), z_ia 12 f', .inr (11, [.ref 3]), z_ia 7 c, .inr (6, [.ref 5, .ref 6, .int m2, .int fx2]), z_ia 12 f2, .inr (11, [.ref 7]), z_ia 7 c2]) := by
  refine z_body hl (by decide) rfl (Nat.le_of_ble_eq_true rfl) ?_
  show z_J G l mX1_become (z_SF 12 0 0 [.inr (6, [.ref 1, .ref 2, .int m, .int fx]), z_ia 12 f, .inr (11, [.ref 3]), z_ia 7 c, .inr (6, [.ref 5, .ref 6, .int m2, .int fx2]), z_ia 12 f2, .inr (11, [.ref 7]), z_ia 7 c2] (fun v L => v = none ∧ ∃ f' : Nat → Int32, L = [.inr (6, [.ref 1, .ref 2, .int m2, .int fx]), z_ia 12 f', .inr (11, [.ref 3]), z_ia 7 c, .inr (6, [.ref 5, .ref 6, .int m2, .int fx2]), z_ia 12 f2, .inr (11, [.ref 7]), z_ia 7 c2])) 0 [(0, _), (1, _)] [] _ 0 0
  refine j_aload_n dX1_become_0 rfl rfl ?_
  refine j_getf dX1_become_1 fX1_9 rfl rfl ?_
  refine j_aload_n dX1_become_4 rfl rfl ?_
  refine j_getf dX1_become_5 fX1_9 rfl rfl ?_
  refine j_callSN dX1_become_8 kX8_takeOver lX1_30 stX8_takeOver (z_frame [1, 5] rfl (by decide) (Nat.le_of_ble_eq_true rfl) (c_X8_takeOver hl _ _ _ (by decide))) (Nat.le_of_ble_eq_true rfl) ⟨(Nat.le_of_ble_eq_true rfl), (Nat.le_of_ble_eq_true rfl)⟩ rfl (Nat.le_of_ble_eq_true rfl) rfl rfl (fun _ _ h => h.elim) ?_
  rintro _ _ ⟨_, _, ⟨rfl, _, rfl⟩, rfl, rfl⟩
  refine j_w ([.inr (6, [_, _, _, _]), z_ia 12 _, .inr (11, [_]), z_ia 7 _, .inr (6, [_, _, _, _]), z_ia 12 _, .inr (11, [_]), z_ia 7 _], z_no) rfl ?_
  refine j_aload_n dX1_become_11 rfl rfl ?_
  refine j_aload_n dX1_become_12 rfl rfl ?_
  refine j_getf dX1_become_13 fX1_22 rfl rfl ?_
  refine j_put (w' := ([.inr (6, [_, _, _, _]), z_ia 12 _, .inr (11, [_]), z_ia 7 _, .inr (6, [_, _, _, _]), z_ia 12 _, .inr (11, [_]), z_ia 7 _], z_no)) dX1_become_16 fX1_22 tX1_2 rfl ⟨rfl, rfl⟩ rfl ?_
  refine j_vret dX1_become_19 rfl ?_ (Nat.le_of_ble_eq_true rfl) (Nat.le_of_ble_eq_true rfl)
  exact ⟨rfl, rfl, rfl, _, rfl⟩
set_option maxRecDepth 100000 in
set_option maxHeartbeats 4000000 in
theorem c_X0_tells (hl : l.stackTraces = false) (k m su la ba : Int32) (f : Nat → Int32) (p : Int32) : z_CF G l mX0_tells 10 0 0 [.inr (5, [.ref 1, .int k, .int m, .int su, .int la, .int ba]), z_ia 10 f] [.ref 0, .int p] (fun v L => ∃ x : Int32, v = some (.int x) ∧ L = [.inr (5, [.ref 1, .int k, .int m, .int su, .int la, .int ba]), z_ia 10 f]) := by
  refine z_body hl (by decide) rfl (Nat.le_of_ble_eq_true rfl) ?_
  show z_J G l mX0_tells (z_SF 10 0 0 [.inr (5, [.ref 1, .int k, .int m, .int su, .int la, .int ba]), z_ia 10 f] (fun v L => ∃ x : Int32, v = some (.int x) ∧ L = [.inr (5, [.ref 1, .int k, .int m, .int su, .int la, .int ba]), z_ia 10 f])) 0 [(0, _), (1, _)] [] _ 0 0
  refine j_iload_n dX0_tells_0 rfl ?_
  rcases z_sw3 p with rfl | rfl | rfl | hp
  · refine j_tsIn (tgt := 28) dX0_tells_1 (by decide) (by decide) rfl (by decide) ?_
    refine j_aload_n dX0_tells_28 rfl rfl ?_
    refine j_getf dX0_tells_29 fX0_22 rfl rfl ?_
    refine j_iret dX0_tells_32 rfl rfl ?_ (Nat.le_of_ble_eq_true rfl) (Nat.le_of_ble_eq_true rfl)
    exact ⟨rfl, rfl, _, rfl, rfl⟩
  · refine j_tsIn (tgt := 33) dX0_tells_1 (by decide) (by decide) rfl (by decide) ?_
    refine j_aload_n dX0_tells_33 rfl rfl ?_
    refine j_getf dX0_tells_34 fX0_25 rfl rfl ?_
    refine j_iret dX0_tells_37 rfl rfl ?_ (Nat.le_of_ble_eq_true rfl) (Nat.le_of_ble_eq_true rfl)
    exact ⟨rfl, rfl, _, rfl, rfl⟩
  · refine j_tsIn (tgt := 38) dX0_tells_1 (by decide) (by decide) rfl (by decide) ?_
    refine j_aload_n dX0_tells_38 rfl rfl ?_
    refine j_getf dX0_tells_39 fX0_15 rfl rfl ?_
    refine j_iret dX0_tells_42 rfl rfl ?_ (Nat.le_of_ble_eq_true rfl) (Nat.le_of_ble_eq_true rfl)
    exact ⟨rfl, rfl, _, rfl, rfl⟩
  · refine j_tsOut (tgt := 43) dX0_tells_1 hp (by decide) ?_
    refine j_aload_n dX0_tells_43 rfl rfl ?_
    refine j_getf dX0_tells_44 fX0_19 rfl rfl ?_
    refine j_iret dX0_tells_47 rfl rfl ?_ (Nat.le_of_ble_eq_true rfl) (Nat.le_of_ble_eq_true rfl)
    exact ⟨rfl, rfl, _, rfl, rfl⟩
end ZL1
end ZM0
section ZM1
section ZL2
variable {G : z_G} {l : Launch}
set_option maxRecDepth 100000 in
set_option maxHeartbeats 4000000 in
theorem c_X4_look (hl : l.stackTraces = false) (f g c : Nat → Int32) (m so : Int32) (p : Int32) : z_CF G l mX4_look 10 0 0 [.inr (9, [.int so, .ref 1, .ref 2, .ref 3, .int m]), z_ia 20 f, z_ia 20 g, .inr (11, [.ref 4]), z_ia 7 c] [.ref 0, .int p] (fun v L => ∃ x : Int32, v = some (.int x) ∧ L = [.inr (9, [.int so, .ref 1, .ref 2, .ref 3, .int m]), z_ia 20 f, z_ia 20 g, .inr (11, [.ref 4]), z_ia 7 c]) := by
  refine z_body hl (by decide) rfl (Nat.le_of_ble_eq_true rfl) ?_
  show z_J G l mX4_look (z_SF 10 0 0 [.inr (9, [.int so, .ref 1, .ref 2, .ref 3, .int m]), z_ia 20 f, z_ia 20 g, .inr (11, [.ref 4]), z_ia 7 c] (fun v L => ∃ x : Int32, v = some (.int x) ∧ L = [.inr (9, [.int so, .ref 1, .ref 2, .ref 3, .int m]), z_ia 20 f, z_ia 20 g, .inr (11, [.ref 4]), z_ia 7 c])) 0 [(0, _), (1, _)] [] _ 0 0
  refine j_iload_n dX4_look_0 rfl ?_
  refine j_if_lt (tgt := 22) dX4_look_1 (by decide) (fun c_1 => ?_) (fun c_1 => ?_)
  · refine j_sipush (v := (-1000)) dX4_look_22 (by decide) ?_
    refine j_iret dX4_look_25 rfl rfl ?_ (Nat.le_of_ble_eq_true rfl) (Nat.le_of_ble_eq_true rfl)
    exact ⟨rfl, rfl, _, rfl, rfl⟩
  · refine j_iload_n dX4_look_4 rfl ?_
    refine j_aload_n dX4_look_5 rfl rfl ?_
    refine j_getf dX4_look_6 fX4_9 rfl rfl ?_
    refine j_alen dX4_look_9 rfl rfl rfl ?_
    refine j_icmp_ge (tgt := 22) dX4_look_10 (by decide) (fun c_10 => ?_) (fun c_10 => ?_)
    · refine j_sipush (v := (-1000)) dX4_look_22 (by decide) ?_
      refine j_iret dX4_look_25 rfl rfl ?_ (Nat.le_of_ble_eq_true rfl) (Nat.le_of_ble_eq_true rfl)
      exact ⟨rfl, rfl, _, rfl, rfl⟩
    · refine j_aload_n dX4_look_13 rfl rfl ?_
      refine j_getf dX4_look_14 fX4_9 rfl rfl ?_
      refine j_iload_n dX4_look_17 rfl ?_
      refine j_ld dX4_look_18 rfl (z_in c_1 c_10 (by decide)) ?_
      refine j_goto (tgt := 25) dX4_look_19 (by decide) ?_
      refine j_iret dX4_look_25 rfl rfl ?_ (Nat.le_of_ble_eq_true rfl) (Nat.le_of_ble_eq_true rfl)
      exact ⟨rfl, rfl, _, rfl, rfl⟩
set_option maxRecDepth 100000 in
set_option maxHeartbeats 4000000 in
theorem c_X4_keyAt (hl : l.stackTraces = false) (f g c : Nat → Int32) (m so : Int32) (p : Int32) : z_CF G l mX4_keyAt 10 0 0 [.inr (9, [.int so, .ref 1, .ref 2, .ref 3, .int m]), z_ia 20 f, z_ia 20 g, .inr (11, [.ref 4]), z_ia 7 c] [.ref 0, .int p] (fun v L => ∃ x : Int32, v = some (.int x) ∧ L = [.inr (9, [.int so, .ref 1, .ref 2, .ref 3, .int m]), z_ia 20 f, z_ia 20 g, .inr (11, [.ref 4]), z_ia 7 c]) := by
  refine z_body hl (by decide) rfl (Nat.le_of_ble_eq_true rfl) ?_
  show z_J G l mX4_keyAt (z_SF 10 0 0 [.inr (9, [.int so, .ref 1, .ref 2, .ref 3, .int m]), z_ia 20 f, z_ia 20 g, .inr (11, [.ref 4]), z_ia 7 c] (fun v L => ∃ x : Int32, v = some (.int x) ∧ L = [.inr (9, [.int so, .ref 1, .ref 2, .ref 3, .int m]), z_ia 20 f, z_ia 20 g, .inr (11, [.ref 4]), z_ia 7 c])) 0 [(0, _), (1, _)] [] _ 0 0
  refine j_iload_n dX4_keyAt_0 rfl ?_
  refine j_if_lt (tgt := 30) dX4_keyAt_1 (by decide) (fun c_1 => ?_) (fun c_1 => ?_)
  · refine j_iconst (v := 0) dX4_keyAt_30 (by decide) ?_
    refine j_iret dX4_keyAt_31 rfl rfl ?_ (Nat.le_of_ble_eq_true rfl) (Nat.le_of_ble_eq_true rfl)
    exact ⟨rfl, rfl, _, rfl, rfl⟩
  · refine j_iload_n dX4_keyAt_4 rfl ?_
    refine j_aload_n dX4_keyAt_5 rfl rfl ?_
    refine j_getf dX4_keyAt_6 fX4_29 rfl rfl ?_
    refine j_icmp_ge (tgt := 30) dX4_keyAt_9 (by decide) (fun c_9 => ?_) (fun c_9 => ?_)
    · refine j_iconst (v := 0) dX4_keyAt_30 (by decide) ?_
      refine j_iret dX4_keyAt_31 rfl rfl ?_ (Nat.le_of_ble_eq_true rfl) (Nat.le_of_ble_eq_true rfl)
      exact ⟨rfl, rfl, _, rfl, rfl⟩
    · refine j_iload_n dX4_keyAt_12 rfl ?_
      refine j_aload_n dX4_keyAt_13 rfl rfl ?_
      refine j_getf dX4_keyAt_14 fX4_15 rfl rfl ?_
      refine j_alen dX4_keyAt_17 rfl rfl rfl ?_
      refine j_icmp_ge (tgt := 30) dX4_keyAt_18 (by decide) (fun c_18 => ?_) (fun c_18 => ?_)
      · refine j_iconst (v := 0) dX4_keyAt_30 (by decide) ?_
        refine j_iret dX4_keyAt_31 rfl rfl ?_ (Nat.le_of_ble_eq_true rfl) (Nat.le_of_ble_eq_true rfl)
        exact ⟨rfl, rfl, _, rfl, rfl⟩
      · refine j_aload_n dX4_keyAt_21 rfl rfl ?_
        refine j_getf dX4_keyAt_22 fX4_15 rfl rfl ?_
        refine j_iload_n dX4_keyAt_25 rfl ?_
        refine j_ld dX4_keyAt_26 rfl (z_in c_1 c_18 (by decide)) ?_
        refine j_goto (tgt := 31) dX4_keyAt_27 (by decide) ?_
        refine j_iret dX4_keyAt_31 rfl rfl ?_ (Nat.le_of_ble_eq_true rfl) (Nat.le_of_ble_eq_true rfl)
        exact ⟨rfl, rfl, _, rfl, rfl⟩
set_option maxRecDepth 100000 in
set_option maxHeartbeats 4000000 in
theorem c_X4_setValue (hl : l.stackTraces = false) (f g c : Nat → Int32) (m so : Int32) (p x : Int32) : z_CF G l mX4_setValue 10 0 0 [.inr (9, [.int so, .ref 1, .ref 2, .ref 3, .int m]), z_ia 20 f, z_ia 20 g, .inr (11, [.ref 4]), z_ia 7 c] [.ref 0, .int p, .int x] (fun v L => v = none ∧ ∃ f' : Nat → Int32, L = [.inr (9, [.int so, .ref 1, .ref 2, .ref 3, .int m]), z_ia 20 f', z_ia 20 g, .inr (11, [.ref 4]), z_ia 7 c]) := by
  refine z_body hl (by decide) rfl (Nat.le_of_ble_eq_true rfl) ?_
  show z_J G l mX4_setValue (z_SF 10 0 0 [.inr (9, [.int so, .ref 1, .ref 2, .ref 3, .int m]), z_ia 20 f, z_ia 20 g, .inr (11, [.ref 4]), z_ia 7 c] (fun v L => v = none ∧ ∃ f' : Nat → Int32, L = [.inr (9, [.int so, .ref 1, .ref 2, .ref 3, .int m]), z_ia 20 f', z_ia 20 g, .inr (11, [.ref 4]), z_ia 7 c])) 0 [(0, _), (1, _), (2, _)] [] _ 0 0
  refine j_iload_n dX4_setValue_0 rfl ?_
  refine j_if_lt (tgt := 20) dX4_setValue_1 (by decide) (fun c_1 => ?_) (fun c_1 => ?_)
  · refine j_vret dX4_setValue_20 rfl ?_ (Nat.le_of_ble_eq_true rfl) (Nat.le_of_ble_eq_true rfl)
    exact ⟨rfl, rfl, rfl, _, rfl⟩
  · refine j_iload_n dX4_setValue_4 rfl ?_
    refine j_aload_n dX4_setValue_5 rfl rfl ?_
    refine j_getf dX4_setValue_6 fX4_9 rfl rfl ?_
    refine j_alen dX4_setValue_9 rfl rfl rfl ?_
    refine j_icmp_ge (tgt := 20) dX4_setValue_10 (by decide) (fun c_10 => ?_) (fun c_10 => ?_)
    · refine j_vret dX4_setValue_20 rfl ?_ (Nat.le_of_ble_eq_true rfl) (Nat.le_of_ble_eq_true rfl)
      exact ⟨rfl, rfl, rfl, _, rfl⟩
    · refine j_aload_n dX4_setValue_13 rfl rfl ?_
      refine j_getf dX4_setValue_14 fX4_9 rfl rfl ?_
      refine j_iload_n dX4_setValue_17 rfl ?_
      refine j_iload_n dX4_setValue_18 rfl ?_
      refine j_sto (w' := ([.inr (9, [_, _, _, _, _]), z_ia 20 _, z_ia 20 _, .inr (11, [_]), z_ia 7 _], z_no)) dX4_setValue_19 rfl (z_in c_1 c_10 (by decide)) rfl ?_
      refine j_vret dX4_setValue_20 rfl ?_ (Nat.le_of_ble_eq_true rfl) (Nat.le_of_ble_eq_true rfl)
      exact ⟨rfl, rfl, rfl, _, rfl⟩
set_option maxRecDepth 100000 in
set_option maxHeartbeats 4000000 in
theorem c_X4_addKey (hl : l.stackTraces = false) (f g c : Nat → Int32) (m so : Int32) (p : Int32) (hm : z_m20 m): z_CF G l mX4_addKey 10 0 0 [.inr (9, [.int so, .ref 1, .ref 2, .ref 3, .int m]), z_ia 20 f, z_ia 20 g, .inr (11, [.ref 4]), z_ia 7 c] [.ref 0, .int p] (fun v L => v = none ∧ ∃ (f' g' c' : Nat → Int32) (m' : Int32), z_m20 m' ∧ L = [.inr (9, [.int so, .ref 1, .ref 2, .ref 3, .int m']), z_ia 20 f', z_ia 20 g', .inr (11, [.ref 4]), z_ia 7 c']) := by
  refine z_body hl (by decide) rfl (Nat.le_of_ble_eq_true rfl) ?_
  show z_J G l mX4_addKey (z_SF 10 0 0 [.inr (9, [.int so, .ref 1, .ref 2, .ref 3, .int m]), z_ia 20 f, z_ia 20 g, .inr (11, [.ref 4]), z_ia 7 c] (fun v L => v = none ∧ ∃ (f' g' c' : Nat → Int32) (m' : Int32), z_m20 m' ∧ L = [.inr (9, [.int so, .ref 1, .ref 2, .ref 3, .int m']), z_ia 20 f', z_ia 20 g', .inr (11, [.ref 4]), z_ia 7 c'])) 0 [(0, _), (1, _)] [] _ 0 0
  refine j_aload_n dX4_addKey_0 rfl rfl ?_
  refine j_getf dX4_addKey_1 fX4_29 rfl rfl ?_
  refine j_if_lt (tgt := 19) dX4_addKey_4 (by decide) (fun c_4 => ?_) (fun c_4 => ?_)
  · refine j_vret dX4_addKey_19 rfl ?_ (Nat.le_of_ble_eq_true rfl) (Nat.le_of_ble_eq_true rfl)
    exact ⟨rfl, rfl, rfl, _, _, _, _, hm, rfl⟩
  · refine j_aload_n dX4_addKey_7 rfl rfl ?_
    refine j_getf dX4_addKey_8 fX4_29 rfl rfl ?_
    refine j_aload_n dX4_addKey_11 rfl rfl ?_
    refine j_getf dX4_addKey_12 fX4_15 rfl rfl ?_
    refine j_alen dX4_addKey_15 rfl rfl rfl ?_
    refine j_icmp_lt (tgt := 20) dX4_addKey_16 (by decide) (fun c_16 => ?_) (fun c_16 => ?_)
    · obtain ⟨k, hk, hk2⟩ := z_in20 c_4 c_16
      refine j_aload_n dX4_addKey_20 rfl rfl ?_
      refine j_getf dX4_addKey_21 fX4_29 rfl rfl ?_
      refine j_top (congrArg Value.int hk2) ?_
      refine j_istore_n (lo' := [(2, _), (0, _), (1, _)]) dX4_addKey_24 (by decide) rfl ?_
      have loop : ∀ (j : Nat) (g' : Nat → Int32), j < 20 → z_J G l mX4_addKey (z_SF 10 0 0 [.inr (9, [.int so, .ref 1, .ref 2, .ref 3, .int m]), z_ia 20 f, z_ia 20 g, .inr (11, [.ref 4]), z_ia 7 c] (fun v L => v = none ∧ ∃ (f' g' c' : Nat → Int32) (m' : Int32), z_m20 m' ∧ L = [.inr (9, [.int so, .ref 1, .ref 2, .ref 3, .int m']), z_ia 20 f', z_ia 20 g', .inr (11, [.ref 4]), z_ia 7 c'])) 25 [(0, .ref 0), (1, .int p), (2, .int (nI j))] [] ([.inr (9, [.int so, .ref 1, .ref 2, .ref 3, .int m]), z_ia 20 f, z_ia 20 g', .inr (11, [.ref 4]), z_ia 7 c], z_no) 0 0 := by
        intro j
        induction j with
        | zero =>
          intro g' hj
          refine j_aload_n dX4_addKey_25 rfl rfl ?_
          refine j_getf dX4_addKey_26 fX4_25 rfl rfl ?_
          refine j_if_eq (tgt := 68) dX4_addKey_29 (by decide) (fun c_29 => ?_) (fun c_29 => ?_)
          · refine j_aload_n dX4_addKey_68 rfl rfl ?_
            refine j_getf dX4_addKey_69 fX4_15 rfl rfl ?_
            refine j_iload_n dX4_addKey_72 rfl ?_
            refine j_iload_n dX4_addKey_73 rfl ?_
            refine j_sto (w' := ([.inr (9, [_, _, _, _, _]), z_ia 20 _, z_ia 20 _, .inr (11, [_]), z_ia 7 _], z_no)) dX4_addKey_74 rfl (vp_in_nI hj (by decide)) rfl ?_
            refine j_aload_n dX4_addKey_75 rfl rfl ?_
            refine j_dup dX4_addKey_76 rfl ?_
            refine j_getf dX4_addKey_77 fX4_29 rfl rfl ?_
            refine j_iconst (v := 1) dX4_addKey_80 (by decide) ?_
            refine j_iadd dX4_addKey_81 ?_
            refine j_put (w' := ([.inr (9, [_, _, _, _, _]), z_ia 20 _, z_ia 20 _, .inr (11, [_]), z_ia 7 _], z_no)) dX4_addKey_82 fX4_29 tX4_4 rfl ⟨rfl, rfl⟩ rfl ?_
            refine j_vret dX4_addKey_85 rfl ?_ (Nat.le_of_ble_eq_true rfl) (Nat.le_of_ble_eq_true rfl)
            exact ⟨rfl, rfl, rfl, _, _, _, _, (by rw [hk2]; exact z_m20s hk), rfl⟩
          · refine j_iload_n dX4_addKey_32 rfl ?_
            refine j_if_le (tgt := 68) dX4_addKey_33 (by decide) (fun c_33 => ?_) (fun c_33 => ?_)
            · refine j_aload_n dX4_addKey_68 rfl rfl ?_
              refine j_getf dX4_addKey_69 fX4_15 rfl rfl ?_
              refine j_iload_n dX4_addKey_72 rfl ?_
              refine j_iload_n dX4_addKey_73 rfl ?_
              refine j_sto (w' := ([.inr (9, [_, _, _, _, _]), z_ia 20 _, z_ia 20 _, .inr (11, [_]), z_ia 7 _], z_no)) dX4_addKey_74 rfl (vp_in_nI hj (by decide)) rfl ?_
              refine j_aload_n dX4_addKey_75 rfl rfl ?_
              refine j_dup dX4_addKey_76 rfl ?_
              refine j_getf dX4_addKey_77 fX4_29 rfl rfl ?_
              refine j_iconst (v := 1) dX4_addKey_80 (by decide) ?_
              refine j_iadd dX4_addKey_81 ?_
              refine j_put (w' := ([.inr (9, [_, _, _, _, _]), z_ia 20 _, z_ia 20 _, .inr (11, [_]), z_ia 7 _], z_no)) dX4_addKey_82 fX4_29 tX4_4 rfl ⟨rfl, rfl⟩ rfl ?_
              refine j_vret dX4_addKey_85 rfl ?_ (Nat.le_of_ble_eq_true rfl) (Nat.le_of_ble_eq_true rfl)
              exact ⟨rfl, rfl, rfl, _, _, _, _, (by rw [hk2]; exact z_m20s hk), rfl⟩
            · exact absurd (by decide) c_33
        | succ j ih =>
          intro g' hj
          refine j_aload_n dX4_addKey_25 rfl rfl ?_
          refine j_getf dX4_addKey_26 fX4_25 rfl rfl ?_
          refine j_if_eq (tgt := 68) dX4_addKey_29 (by decide) (fun c_29 => ?_) (fun c_29 => ?_)
          · refine j_aload_n dX4_addKey_68 rfl rfl ?_
            refine j_getf dX4_addKey_69 fX4_15 rfl rfl ?_
            refine j_iload_n dX4_addKey_72 rfl ?_
            refine j_iload_n dX4_addKey_73 rfl ?_
            refine j_sto (w' := ([.inr (9, [_, _, _, _, _]), z_ia 20 _, z_ia 20 _, .inr (11, [_]), z_ia 7 _], z_no)) dX4_addKey_74 rfl (vp_in_nI hj (by decide)) rfl ?_
            refine j_aload_n dX4_addKey_75 rfl rfl ?_
            refine j_dup dX4_addKey_76 rfl ?_
            refine j_getf dX4_addKey_77 fX4_29 rfl rfl ?_
            refine j_iconst (v := 1) dX4_addKey_80 (by decide) ?_
            refine j_iadd dX4_addKey_81 ?_
            refine j_put (w' := ([.inr (9, [_, _, _, _, _]), z_ia 20 _, z_ia 20 _, .inr (11, [_]), z_ia 7 _], z_no)) dX4_addKey_82 fX4_29 tX4_4 rfl ⟨rfl, rfl⟩ rfl ?_
            refine j_vret dX4_addKey_85 rfl ?_ (Nat.le_of_ble_eq_true rfl) (Nat.le_of_ble_eq_true rfl)
            exact ⟨rfl, rfl, rfl, _, _, _, _, (by rw [hk2]; exact z_m20s hk), rfl⟩
          · refine j_iload_n dX4_addKey_32 rfl ?_
            refine j_if_le (tgt := 68) dX4_addKey_33 (by decide) (fun c_33 => ?_) (fun c_33 => ?_)
            · refine j_aload_n dX4_addKey_68 rfl rfl ?_
              refine j_getf dX4_addKey_69 fX4_15 rfl rfl ?_
              refine j_iload_n dX4_addKey_72 rfl ?_
              refine j_iload_n dX4_addKey_73 rfl ?_
              refine j_sto (w' := ([.inr (9, [_, _, _, _, _]), z_ia 20 _, z_ia 20 _, .inr (11, [_]), z_ia 7 _], z_no)) dX4_addKey_74 rfl (vp_in_nI hj (by decide)) rfl ?_
              refine j_aload_n dX4_addKey_75 rfl rfl ?_
              refine j_dup dX4_addKey_76 rfl ?_
              refine j_getf dX4_addKey_77 fX4_29 rfl rfl ?_
              refine j_iconst (v := 1) dX4_addKey_80 (by decide) ?_
              refine j_iadd dX4_addKey_81 ?_
              refine j_put (w' := ([.inr (9, [_, _, _, _, _]), z_ia 20 _, z_ia 20 _, .inr (11, [_]), z_ia 7 _], z_no)) dX4_addKey_82 fX4_29 tX4_4 rfl ⟨rfl, rfl⟩ rfl ?_
              refine j_vret dX4_addKey_85 rfl ?_ (Nat.le_of_ble_eq_true rfl) (Nat.le_of_ble_eq_true rfl)
              exact ⟨rfl, rfl, rfl, _, _, _, _, (by rw [hk2]; exact z_m20s hk), rfl⟩
            · refine j_aload_n dX4_addKey_36 rfl rfl ?_
              refine j_getf dX4_addKey_37 fX4_15 rfl rfl ?_
              refine j_iload_n dX4_addKey_40 rfl ?_
              refine j_iconst (v := 1) dX4_addKey_41 (by decide) ?_
              refine j_isub dX4_addKey_42 ?_
              refine j_top (congrArg Value.int (nI_pred j)) ?_
              refine j_ld dX4_addKey_43 rfl (vp_in_nI (by omega) (by decide)) ?_
              refine j_iload_n dX4_addKey_44 rfl ?_
              refine j_icmp_le (tgt := 68) dX4_addKey_45 (by decide) (fun c_45 => ?_) (fun c_45 => ?_)
              · refine j_aload_n dX4_addKey_68 rfl rfl ?_
                refine j_getf dX4_addKey_69 fX4_15 rfl rfl ?_
                refine j_iload_n dX4_addKey_72 rfl ?_
                refine j_iload_n dX4_addKey_73 rfl ?_
                refine j_sto (w' := ([.inr (9, [_, _, _, _, _]), z_ia 20 _, z_ia 20 _, .inr (11, [_]), z_ia 7 _], z_no)) dX4_addKey_74 rfl (vp_in_nI hj (by decide)) rfl ?_
                refine j_aload_n dX4_addKey_75 rfl rfl ?_
                refine j_dup dX4_addKey_76 rfl ?_
                refine j_getf dX4_addKey_77 fX4_29 rfl rfl ?_
                refine j_iconst (v := 1) dX4_addKey_80 (by decide) ?_
                refine j_iadd dX4_addKey_81 ?_
                refine j_put (w' := ([.inr (9, [_, _, _, _, _]), z_ia 20 _, z_ia 20 _, .inr (11, [_]), z_ia 7 _], z_no)) dX4_addKey_82 fX4_29 tX4_4 rfl ⟨rfl, rfl⟩ rfl ?_
                refine j_vret dX4_addKey_85 rfl ?_ (Nat.le_of_ble_eq_true rfl) (Nat.le_of_ble_eq_true rfl)
                exact ⟨rfl, rfl, rfl, _, _, _, _, (by rw [hk2]; exact z_m20s hk), rfl⟩
              · refine j_aload_n dX4_addKey_48 rfl rfl ?_
                refine j_getf dX4_addKey_49 fX4_15 rfl rfl ?_
                refine j_iload_n dX4_addKey_52 rfl ?_
                refine j_aload_n dX4_addKey_53 rfl rfl ?_
                refine j_getf dX4_addKey_54 fX4_15 rfl rfl ?_
                refine j_iload_n dX4_addKey_57 rfl ?_
                refine j_iconst (v := 1) dX4_addKey_58 (by decide) ?_
                refine j_isub dX4_addKey_59 ?_
                refine j_top (congrArg Value.int (nI_pred j)) ?_
                refine j_ld dX4_addKey_60 rfl (vp_in_nI (by omega) (by decide)) ?_
                refine j_sto (w' := ([.inr (9, [_, _, _, _, _]), z_ia 20 _, z_ia 20 _, .inr (11, [_]), z_ia 7 _], z_no)) dX4_addKey_61 rfl (vp_in_nI hj (by decide)) rfl ?_
                refine j_iinc (lo' := [(2, _), (0, _), (1, _)]) dX4_addKey_62 rfl (z_decr _) (by decide) rfl ?_
                refine j_goto (tgt := 25) dX4_addKey_65 (by decide) ?_
                exact j_lo2 (ih _ (by omega)) (z_q1 rfl (z_q1 rfl (z_q1 rfl z_q0)))
      exact j_lo2 (loop k _ hk) (z_q1 rfl (z_q1 rfl (z_q1 rfl z_q0)))
    · refine j_vret dX4_addKey_19 rfl ?_ (Nat.le_of_ble_eq_true rfl) (Nat.le_of_ble_eq_true rfl)
      exact ⟨rfl, rfl, rfl, _, _, _, _, hm, rfl⟩
set_option maxRecDepth 100000 in
set_option maxHeartbeats 4000000 in
theorem c_X4_takeKey (hl : l.stackTraces = false) (f g c : Nat → Int32) (m so : Int32) (p : Int32) : z_CF G l mX4_takeKey 10 0 0 [.inr (9, [.int so, .ref 1, .ref 2, .ref 3, .int m]), z_ia 20 f, z_ia 20 g, .inr (11, [.ref 4]), z_ia 7 c] [.ref 0, .int p] (fun v L => v = none ∧ ∃ (f' g' c' : Nat → Int32) (m' : Int32), z_m20 m' ∧ L = [.inr (9, [.int so, .ref 1, .ref 2, .ref 3, .int m']), z_ia 20 f', z_ia 20 g', .inr (11, [.ref 4]), z_ia 7 c']) := by
  refine z_body hl (by decide) rfl (Nat.le_of_ble_eq_true rfl) ?_
  show z_J G l mX4_takeKey (z_SF 10 0 0 [.inr (9, [.int so, .ref 1, .ref 2, .ref 3, .int m]), z_ia 20 f, z_ia 20 g, .inr (11, [.ref 4]), z_ia 7 c] (fun v L => v = none ∧ ∃ (f' g' c' : Nat → Int32) (m' : Int32), z_m20 m' ∧ L = [.inr (9, [.int so, .ref 1, .ref 2, .ref 3, .int m']), z_ia 20 f', z_ia 20 g', .inr (11, [.ref 4]), z_ia 7 c'])) 0 [(0, _), (1, _)] [] _ 0 0
  refine j_iconst (v := 0) dX4_takeKey_0 (by decide) ?_
  refine j_istore_n (lo' := [(2, _), (0, _), (1, _)]) dX4_takeKey_1 (by decide) rfl ?_
  refine j_iconst (v := 0) dX4_takeKey_2 (by decide) ?_
  refine j_istore_n (lo' := [(3, _), (2, _), (0, _), (1, _)]) dX4_takeKey_3 (by decide) rfl ?_
  have loop : ∀ (n j : Nat) (q : Nat) (g' : Nat → Int32), j ≤ 20 → 20 < j + n → q ≤ j → z_J G l mX4_takeKey (z_SF 10 0 0 [.inr (9, [.int so, .ref 1, .ref 2, .ref 3, .int m]), z_ia 20 f, z_ia 20 g, .inr (11, [.ref 4]), z_ia 7 c] (fun v L => v = none ∧ ∃ (f' g' c' : Nat → Int32) (m' : Int32), z_m20 m' ∧ L = [.inr (9, [.int so, .ref 1, .ref 2, .ref 3, .int m']), z_ia 20 f', z_ia 20 g', .inr (11, [.ref 4]), z_ia 7 c'])) 4 [(0, .ref 0), (1, .int p), (2, .int (nI q)), (3, .int (nI j))] [] ([.inr (9, [.int so, .ref 1, .ref 2, .ref 3, .int m]), z_ia 20 f, z_ia 20 g', .inr (11, [.ref 4]), z_ia 7 c], z_no) 0 0 := by
    intro n
    induction n with
    | zero => intro j q g' h1 h2 hq; exact absurd h2 (by omega)
    | succ n ih =>
      intro j q g' h1 h2 hq
      refine j_iload_n dX4_takeKey_4 rfl ?_
      refine j_aload_n dX4_takeKey_5 rfl rfl ?_
      refine j_getf dX4_takeKey_6 fX4_29 rfl rfl ?_
      refine j_icmp_ge (tgt := 52) dX4_takeKey_9 (by decide) (fun c_9 => ?_) (fun c_9 => ?_)
      · refine j_aload_n dX4_takeKey_52 rfl rfl ?_
        refine j_iload_n dX4_takeKey_53 rfl ?_
        refine j_put (w' := ([.inr (9, [_, _, _, _, _]), z_ia 20 _, z_ia 20 _, .inr (11, [_]), z_ia 7 _], z_no)) dX4_takeKey_54 fX4_29 tX4_4 rfl ⟨rfl, rfl⟩ rfl ?_
        refine j_vret dX4_takeKey_57 rfl ?_ (Nat.le_of_ble_eq_true rfl) (Nat.le_of_ble_eq_true rfl)
        exact ⟨rfl, rfl, rfl, _, _, _, _, z_m20n (by omega), rfl⟩
      · refine j_iload_n dX4_takeKey_12 rfl ?_
        refine j_aload_n dX4_takeKey_13 rfl rfl ?_
        refine j_getf dX4_takeKey_14 fX4_15 rfl rfl ?_
        refine j_alen dX4_takeKey_17 rfl rfl rfl ?_
        refine j_icmp_ge (tgt := 52) dX4_takeKey_18 (by decide) (fun c_18 => ?_) (fun c_18 => ?_)
        · refine j_aload_n dX4_takeKey_52 rfl rfl ?_
          refine j_iload_n dX4_takeKey_53 rfl ?_
          refine j_put (w' := ([.inr (9, [_, _, _, _, _]), z_ia 20 _, z_ia 20 _, .inr (11, [_]), z_ia 7 _], z_no)) dX4_takeKey_54 fX4_29 tX4_4 rfl ⟨rfl, rfl⟩ rfl ?_
          refine j_vret dX4_takeKey_57 rfl ?_ (Nat.le_of_ble_eq_true rfl) (Nat.le_of_ble_eq_true rfl)
          exact ⟨rfl, rfl, rfl, _, _, _, _, z_m20n (by omega), rfl⟩
        · have hj : j < 20 := z_ltI c_18 (by omega) (by decide)
          refine j_aload_n dX4_takeKey_21 rfl rfl ?_
          refine j_getf dX4_takeKey_22 fX4_15 rfl rfl ?_
          refine j_iload_n dX4_takeKey_25 rfl ?_
          refine j_ld dX4_takeKey_26 rfl (vp_in_nI hj (by decide)) ?_
          refine j_iload_n dX4_takeKey_27 rfl ?_
          refine j_icmp_eq (tgt := 46) dX4_takeKey_28 (by decide) (fun c_28 => ?_) (fun c_28 => ?_)
          · refine j_iinc (lo' := [(3, _), (0, _), (1, _), (2, _)]) dX4_takeKey_46 rfl (z_inc _) (by decide) rfl ?_
            refine j_goto (tgt := 4) dX4_takeKey_49 (by decide) ?_
            exact j_lo2 (ih (j + 1) _ _ (by omega) (by omega) (by omega)) (z_q1 rfl (z_q1 rfl (z_q1 rfl (z_q1 rfl z_q0))))
          · refine j_aload_n dX4_takeKey_31 rfl rfl ?_
            refine j_getf dX4_takeKey_32 fX4_15 rfl rfl ?_
            refine j_iload_n dX4_takeKey_35 rfl ?_
            refine j_aload_n dX4_takeKey_36 rfl rfl ?_
            refine j_getf dX4_takeKey_37 fX4_15 rfl rfl ?_
            refine j_iload_n dX4_takeKey_40 rfl ?_
            refine j_ld dX4_takeKey_41 rfl (vp_in_nI hj (by decide)) ?_
            refine j_sto (w' := ([.inr (9, [_, _, _, _, _]), z_ia 20 _, z_ia 20 _, .inr (11, [_]), z_ia 7 _], z_no)) dX4_takeKey_42 rfl (vp_in_nI (by omega) (by decide)) rfl ?_
            refine j_iinc (lo' := [(2, _), (0, _), (1, _), (3, _)]) dX4_takeKey_43 rfl (z_inc _) (by decide) rfl ?_
            refine j_iinc (lo' := [(3, _), (2, _), (0, _), (1, _)]) dX4_takeKey_46 rfl (z_inc _) (by decide) rfl ?_
            refine j_goto (tgt := 4) dX4_takeKey_49 (by decide) ?_
            exact j_lo2 (ih (j + 1) _ _ (by omega) (by omega) (by omega)) (z_q1 rfl (z_q1 rfl (z_q1 rfl (z_q1 rfl z_q0))))
  exact j_lo2 (loop (20 + 1) 0 0 _ (by omega) (by omega) (by omega)) (z_q1 rfl (z_q1 rfl (z_q1 rfl (z_q1 rfl z_q0))))
set_option maxRecDepth 100000 in
set_option maxHeartbeats 4000000 in
theorem c_X4_store (hl : l.stackTraces = false) (f g c : Nat → Int32) (m so : Int32) (p x : Int32) (hm : z_m20 m): z_CF G l mX4_store 12 0 0 [.inr (9, [.int so, .ref 1, .ref 2, .ref 3, .int m]), z_ia 20 f, z_ia 20 g, .inr (11, [.ref 4]), z_ia 7 c] [.ref 0, .int p, .int x] (fun v L => ∃ y : Int32, v = some (.int y) ∧ ∃ (f' g' c' : Nat → Int32) (m' : Int32), z_m20 m' ∧ L = [.inr (9, [.int so, .ref 1, .ref 2, .ref 3, .int m']), z_ia 20 f', z_ia 20 g', .inr (11, [.ref 4]), z_ia 7 c']) := by
  refine z_body hl (by decide) rfl (Nat.le_of_ble_eq_true rfl) ?_
  show z_J G l mX4_store (z_SF 12 0 0 [.inr (9, [.int so, .ref 1, .ref 2, .ref 3, .int m]), z_ia 20 f, z_ia 20 g, .inr (11, [.ref 4]), z_ia 7 c] (fun v L => ∃ y : Int32, v = some (.int y) ∧ ∃ (f' g' c' : Nat → Int32) (m' : Int32), z_m20 m' ∧ L = [.inr (9, [.int so, .ref 1, .ref 2, .ref 3, .int m']), z_ia 20 f', z_ia 20 g', .inr (11, [.ref 4]), z_ia 7 c'])) 0 [(0, _), (1, _), (2, _)] [] _ 0 0
  refine j_aload_n dX4_store_0 rfl rfl ?_
  refine j_getf dX4_store_1 fX4_21 rfl rfl ?_
  refine j_iconst (v := 5) dX4_store_4 (by decide) ?_
  refine j_callV (q := (RX6, TX6, 1)) dX4_store_5 kX6_add lX4_33 inX6_add seX6_add rfl rfl (z_frame [3, 4] rfl (by decide) (Nat.le_of_ble_eq_true rfl) (c_X6_add hl _ _)) (Nat.le_of_ble_eq_true rfl) ⟨(Nat.le_of_ble_eq_true rfl), (Nat.le_of_ble_eq_true rfl)⟩ rfl (Nat.le_of_ble_eq_true rfl) rfl rfl (fun _ _ h => h.elim) ?_
  rintro _ _ ⟨_, _, ⟨rfl, _, rfl⟩, rfl, rfl⟩
  refine j_w ([.inr (9, [_, _, _, _, _]), z_ia 20 _, z_ia 20 _, .inr (11, [_]), z_ia 7 _], z_no) rfl ?_
  refine j_aload_n dX4_store_8 rfl rfl ?_
  refine j_iload_n dX4_store_9 rfl ?_
  refine j_callV (q := (RX4, TX4, 5)) dX4_store_10 kX4_look lX4_37 inX4_look seX4_look rfl rfl (z_frame [0, 1, 2, 3, 4] rfl (by decide) (Nat.le_of_ble_eq_true rfl) (c_X4_look hl _ _ _ _ _ _)) (Nat.le_of_ble_eq_true rfl) ⟨(Nat.le_of_ble_eq_true rfl), (Nat.le_of_ble_eq_true rfl)⟩ rfl (Nat.le_of_ble_eq_true rfl) rfl rfl (fun _ _ h => h.elim) ?_
  rintro _ _ ⟨_, _, ⟨_, rfl, rfl⟩, rfl, rfl⟩
  refine j_w ([.inr (9, [_, _, _, _, _]), z_ia 20 _, z_ia 20 _, .inr (11, [_]), z_ia 7 _], z_no) rfl ?_
  refine j_istore_n (lo' := [(3, _), (0, _), (1, _), (2, _)]) dX4_store_13 (by decide) rfl ?_
  refine j_iload_n dX4_store_14 rfl ?_
  refine j_sipush (v := (-1000)) dX4_store_15 (by decide) ?_
  refine j_icmp_ne (tgt := 26) dX4_store_18 (by decide) (fun c_18 => ?_) (fun c_18 => ?_)
  · refine j_aload_n dX4_store_26 rfl rfl ?_
    refine j_iload_n dX4_store_27 rfl ?_
    refine j_iload_n dX4_store_28 rfl ?_
    refine j_callV (q := (RX4, TX4, 5)) dX4_store_29 kX4_setValue lX4_44 inX4_setValue seX4_setValue rfl rfl (z_frame [0, 1, 2, 3, 4] rfl (by decide) (Nat.le_of_ble_eq_true rfl) (c_X4_setValue hl _ _ _ _ _ _ _)) (Nat.le_of_ble_eq_true rfl) ⟨(Nat.le_of_ble_eq_true rfl), (Nat.le_of_ble_eq_true rfl)⟩ rfl (Nat.le_of_ble_eq_true rfl) rfl rfl (fun _ _ h => h.elim) ?_
    rintro _ _ ⟨_, _, ⟨rfl, _, rfl⟩, rfl, rfl⟩
    refine j_w ([.inr (9, [_, _, _, _, _]), z_ia 20 _, z_ia 20 _, .inr (11, [_]), z_ia 7 _], z_no) rfl ?_
    refine j_iload_n dX4_store_32 rfl ?_
    refine j_iret dX4_store_33 rfl rfl ?_ (Nat.le_of_ble_eq_true rfl) (Nat.le_of_ble_eq_true rfl)
    exact ⟨rfl, rfl, _, rfl, _, _, _, _, hm, rfl⟩
  · refine j_aload_n dX4_store_21 rfl rfl ?_
    refine j_iload_n dX4_store_22 rfl ?_
    refine j_callV (q := (RX4, TX4, 5)) dX4_store_23 kX4_addKey lX4_41 inX4_addKey seX4_addKey rfl rfl (z_frame [0, 1, 2, 3, 4] rfl (by decide) (Nat.le_of_ble_eq_true rfl) (c_X4_addKey hl _ _ _ _ _ _ hm)) (Nat.le_of_ble_eq_true rfl) ⟨(Nat.le_of_ble_eq_true rfl), (Nat.le_of_ble_eq_true rfl)⟩ rfl (Nat.le_of_ble_eq_true rfl) rfl rfl (fun _ _ h => h.elim) ?_
    rintro _ _ ⟨_, _, ⟨rfl, _, _, _, _, hm, rfl⟩, rfl, rfl⟩
    refine j_w ([.inr (9, [_, _, _, _, _]), z_ia 20 _, z_ia 20 _, .inr (11, [_]), z_ia 7 _], z_no) rfl ?_
    refine j_aload_n dX4_store_26 rfl rfl ?_
    refine j_iload_n dX4_store_27 rfl ?_
    refine j_iload_n dX4_store_28 rfl ?_
    refine j_callV (q := (RX4, TX4, 5)) dX4_store_29 kX4_setValue lX4_44 inX4_setValue seX4_setValue rfl rfl (z_frame [0, 1, 2, 3, 4] rfl (by decide) (Nat.le_of_ble_eq_true rfl) (c_X4_setValue hl _ _ _ _ _ _ _)) (Nat.le_of_ble_eq_true rfl) ⟨(Nat.le_of_ble_eq_true rfl), (Nat.le_of_ble_eq_true rfl)⟩ rfl (Nat.le_of_ble_eq_true rfl) rfl rfl (fun _ _ h => h.elim) ?_
    rintro _ _ ⟨_, _, ⟨rfl, _, rfl⟩, rfl, rfl⟩
    refine j_w ([.inr (9, [_, _, _, _, _]), z_ia 20 _, z_ia 20 _, .inr (11, [_]), z_ia 7 _], z_no) rfl ?_
    refine j_iload_n dX4_store_32 rfl ?_
    refine j_iret dX4_store_33 rfl rfl ?_ (Nat.le_of_ble_eq_true rfl) (Nat.le_of_ble_eq_true rfl)
    exact ⟨rfl, rfl, _, rfl, _, _, _, _, hm, rfl⟩
set_option maxRecDepth 100000 in
set_option maxHeartbeats 4000000 in
theorem c_X4_sendAway (hl : l.stackTraces = false) (f g c : Nat → Int32) (m so : Int32) (p : Int32) (hm : z_m20 m): z_CF G l mX4_sendAway 12 0 0 [.inr (9, [.int so, .ref 1, .ref 2, .ref 3, .int m]), z_ia 20 f, z_ia 20 g, .inr (11, [.ref 4]), z_ia 7 c] [.ref 0, .int p] (fun v L => ∃ y : Int32, v = some (.int y) ∧ ∃ (f' g' c' : Nat → Int32) (m' : Int32), z_m20 m' ∧ L = [.inr (9, [.int so, .ref 1, .ref 2, .ref 3, .int m']), z_ia 20 f', z_ia 20 g', .inr (11, [.ref 4]), z_ia 7 c']) := by
  refine z_body hl (by decide) rfl (Nat.le_of_ble_eq_true rfl) ?_
  show z_J G l mX4_sendAway (z_SF 12 0 0 [.inr (9, [.int so, .ref 1, .ref 2, .ref 3, .int m]), z_ia 20 f, z_ia 20 g, .inr (11, [.ref 4]), z_ia 7 c] (fun v L => ∃ y : Int32, v = some (.int y) ∧ ∃ (f' g' c' : Nat → Int32) (m' : Int32), z_m20 m' ∧ L = [.inr (9, [.int so, .ref 1, .ref 2, .ref 3, .int m']), z_ia 20 f', z_ia 20 g', .inr (11, [.ref 4]), z_ia 7 c'])) 0 [(0, _), (1, _)] [] _ 0 0
  refine j_aload_n dX4_sendAway_0 rfl rfl ?_
  refine j_getf dX4_sendAway_1 fX4_21 rfl rfl ?_
  refine j_bipush (v := 6) dX4_sendAway_4 (by decide) ?_
  refine j_callV (q := (RX6, TX6, 1)) dX4_sendAway_6 kX6_add lX4_33 inX6_add seX6_add rfl rfl (z_frame [3, 4] rfl (by decide) (Nat.le_of_ble_eq_true rfl) (c_X6_add hl _ _)) (Nat.le_of_ble_eq_true rfl) ⟨(Nat.le_of_ble_eq_true rfl), (Nat.le_of_ble_eq_true rfl)⟩ rfl (Nat.le_of_ble_eq_true rfl) rfl rfl (fun _ _ h => h.elim) ?_
  rintro _ _ ⟨_, _, ⟨rfl, _, rfl⟩, rfl, rfl⟩
  refine j_w ([.inr (9, [_, _, _, _, _]), z_ia 20 _, z_ia 20 _, .inr (11, [_]), z_ia 7 _], z_no) rfl ?_
  refine j_aload_n dX4_sendAway_9 rfl rfl ?_
  refine j_iload_n dX4_sendAway_10 rfl ?_
  refine j_callV (q := (RX4, TX4, 5)) dX4_sendAway_11 kX4_look lX4_37 inX4_look seX4_look rfl rfl (z_frame [0, 1, 2, 3, 4] rfl (by decide) (Nat.le_of_ble_eq_true rfl) (c_X4_look hl _ _ _ _ _ _)) (Nat.le_of_ble_eq_true rfl) ⟨(Nat.le_of_ble_eq_true rfl), (Nat.le_of_ble_eq_true rfl)⟩ rfl (Nat.le_of_ble_eq_true rfl) rfl rfl (fun _ _ h => h.elim) ?_
  rintro _ _ ⟨_, _, ⟨_, rfl, rfl⟩, rfl, rfl⟩
  refine j_w ([.inr (9, [_, _, _, _, _]), z_ia 20 _, z_ia 20 _, .inr (11, [_]), z_ia 7 _], z_no) rfl ?_
  refine j_istore_n (lo' := [(2, _), (0, _), (1, _)]) dX4_sendAway_14 (by decide) rfl ?_
  refine j_iload_n dX4_sendAway_15 rfl ?_
  refine j_sipush (v := (-1000)) dX4_sendAway_16 (by decide) ?_
  refine j_icmp_eq (tgt := 35) dX4_sendAway_19 (by decide) (fun c_19 => ?_) (fun c_19 => ?_)
  · refine j_iload_n dX4_sendAway_35 rfl ?_
    refine j_iret dX4_sendAway_36 rfl rfl ?_ (Nat.le_of_ble_eq_true rfl) (Nat.le_of_ble_eq_true rfl)
    exact ⟨rfl, rfl, _, rfl, _, _, _, _, hm, rfl⟩
  · refine j_aload_n dX4_sendAway_22 rfl rfl ?_
    refine j_iload_n dX4_sendAway_23 rfl ?_
    refine j_callV (q := (RX4, TX4, 5)) dX4_sendAway_24 kX4_takeKey lX4_48 inX4_takeKey seX4_takeKey rfl rfl (z_frame [0, 1, 2, 3, 4] rfl (by decide) (Nat.le_of_ble_eq_true rfl) (c_X4_takeKey hl _ _ _ _ _ _)) (Nat.le_of_ble_eq_true rfl) ⟨(Nat.le_of_ble_eq_true rfl), (Nat.le_of_ble_eq_true rfl)⟩ rfl (Nat.le_of_ble_eq_true rfl) rfl rfl (fun _ _ h => h.elim) ?_
    rintro _ _ ⟨_, _, ⟨rfl, _, _, _, _, hm, rfl⟩, rfl, rfl⟩
    refine j_w ([.inr (9, [_, _, _, _, _]), z_ia 20 _, z_ia 20 _, .inr (11, [_]), z_ia 7 _], z_no) rfl ?_
    refine j_aload_n dX4_sendAway_27 rfl rfl ?_
    refine j_iload_n dX4_sendAway_28 rfl ?_
    refine j_sipush (v := (-1000)) dX4_sendAway_29 (by decide) ?_
    refine j_callV (q := (RX4, TX4, 5)) dX4_sendAway_32 kX4_setValue lX4_44 inX4_setValue seX4_setValue rfl rfl (z_frame [0, 1, 2, 3, 4] rfl (by decide) (Nat.le_of_ble_eq_true rfl) (c_X4_setValue hl _ _ _ _ _ _ _)) (Nat.le_of_ble_eq_true rfl) ⟨(Nat.le_of_ble_eq_true rfl), (Nat.le_of_ble_eq_true rfl)⟩ rfl (Nat.le_of_ble_eq_true rfl) rfl rfl (fun _ _ h => h.elim) ?_
    rintro _ _ ⟨_, _, ⟨rfl, _, rfl⟩, rfl, rfl⟩
    refine j_w ([.inr (9, [_, _, _, _, _]), z_ia 20 _, z_ia 20 _, .inr (11, [_]), z_ia 7 _], z_no) rfl ?_
    refine j_iload_n dX4_sendAway_35 rfl ?_
    refine j_iret dX4_sendAway_36 rfl rfl ?_ (Nat.le_of_ble_eq_true rfl) (Nat.le_of_ble_eq_true rfl)
    exact ⟨rfl, rfl, _, rfl, _, _, _, _, hm, rfl⟩
set_option maxRecDepth 100000 in
set_option maxHeartbeats 4000000 in
theorem c_X4_sortKeys (hl : l.stackTraces = false) (f g c : Nat → Int32) (m so : Int32) : z_CF G l mX4_sortKeys 10 0 0 [.inr (9, [.int so, .ref 1, .ref 2, .ref 3, .int m]), z_ia 20 f, z_ia 20 g, .inr (11, [.ref 4]), z_ia 7 c] [.ref 0] (fun v L => v = none ∧ ∃ g' : Nat → Int32, L = [.inr (9, [.int so, .ref 1, .ref 2, .ref 3, .int m]), z_ia 20 f, z_ia 20 g', .inr (11, [.ref 4]), z_ia 7 c]) := by
  refine z_body hl (by decide) rfl (Nat.le_of_ble_eq_true rfl) ?_
  show z_J G l mX4_sortKeys (z_SF 10 0 0 [.inr (9, [.int so, .ref 1, .ref 2, .ref 3, .int m]), z_ia 20 f, z_ia 20 g, .inr (11, [.ref 4]), z_ia 7 c] (fun v L => v = none ∧ ∃ g' : Nat → Int32, L = [.inr (9, [.int so, .ref 1, .ref 2, .ref 3, .int m]), z_ia 20 f, z_ia 20 g', .inr (11, [.ref 4]), z_ia 7 c])) 0 [(0, _)] [] _ 0 0
  refine j_iconst (v := 0) dX4_sortKeys_0 (by decide) ?_
  refine j_istore_n (lo' := [(1, _), (0, _)]) dX4_sortKeys_1 (by decide) rfl ?_
  refine j_iconst (v := 0) dX4_sortKeys_2 (by decide) ?_
  refine j_istore_n (lo' := [(2, _), (1, _), (0, _)]) dX4_sortKeys_3 (by decide) rfl ?_
  have loop : ∀ (n j : Nat) (q : Nat) (g' : Nat → Int32), j ≤ 20 → 20 < j + n → q ≤ j → z_J G l mX4_sortKeys (z_SF 10 0 0 [.inr (9, [.int so, .ref 1, .ref 2, .ref 3, .int m]), z_ia 20 f, z_ia 20 g, .inr (11, [.ref 4]), z_ia 7 c] (fun v L => v = none ∧ ∃ g' : Nat → Int32, L = [.inr (9, [.int so, .ref 1, .ref 2, .ref 3, .int m]), z_ia 20 f, z_ia 20 g', .inr (11, [.ref 4]), z_ia 7 c])) 4 [(0, .ref 0), (1, .int (nI q)), (2, .int (nI j))] [] ([.inr (9, [.int so, .ref 1, .ref 2, .ref 3, .int m]), z_ia 20 f, z_ia 20 g', .inr (11, [.ref 4]), z_ia 7 c], z_no) 0 0 := by
    intro n
    induction n with
    | zero => intro j q g' h1 h2 hq; exact absurd h2 (by omega)
    | succ n ih =>
      intro j q g' h1 h2 hq
      refine j_iload_n dX4_sortKeys_4 rfl ?_
      refine j_aload_n dX4_sortKeys_5 rfl rfl ?_
      refine j_getf dX4_sortKeys_6 fX4_9 rfl rfl ?_
      refine j_alen dX4_sortKeys_9 rfl rfl rfl ?_
      refine j_icmp_ge (tgt := 50) dX4_sortKeys_10 (by decide) (fun c_10 => ?_) (fun c_10 => ?_)
      · refine j_vret dX4_sortKeys_50 rfl ?_ (Nat.le_of_ble_eq_true rfl) (Nat.le_of_ble_eq_true rfl)
        exact ⟨rfl, rfl, rfl, _, rfl⟩
      · have hj : j < 20 := z_ltI c_10 (by omega) (by decide)
        refine j_iload_n dX4_sortKeys_13 rfl ?_
        refine j_aload_n dX4_sortKeys_14 rfl rfl ?_
        refine j_getf dX4_sortKeys_15 fX4_15 rfl rfl ?_
        refine j_alen dX4_sortKeys_18 rfl rfl rfl ?_
        refine j_icmp_ge (tgt := 50) dX4_sortKeys_19 (by decide) (fun c_19 => ?_) (fun c_19 => ?_)
        · refine j_vret dX4_sortKeys_50 rfl ?_ (Nat.le_of_ble_eq_true rfl) (Nat.le_of_ble_eq_true rfl)
          exact ⟨rfl, rfl, rfl, _, rfl⟩
        · refine j_aload_n dX4_sortKeys_22 rfl rfl ?_
          refine j_getf dX4_sortKeys_23 fX4_9 rfl rfl ?_
          refine j_iload_n dX4_sortKeys_26 rfl ?_
          refine j_ld dX4_sortKeys_27 rfl (vp_in_nI hj (by decide)) ?_
          refine j_sipush (v := (-1000)) dX4_sortKeys_28 (by decide) ?_
          refine j_icmp_eq (tgt := 44) dX4_sortKeys_31 (by decide) (fun c_31 => ?_) (fun c_31 => ?_)
          · refine j_iinc (lo' := [(2, _), (0, _), (1, _)]) dX4_sortKeys_44 rfl (z_inc _) (by decide) rfl ?_
            refine j_goto (tgt := 4) dX4_sortKeys_47 (by decide) ?_
            exact j_lo2 (ih (j + 1) _ _ (by omega) (by omega) (by omega)) (z_q1 rfl (z_q1 rfl (z_q1 rfl z_q0)))
          · refine j_aload_n dX4_sortKeys_34 rfl rfl ?_
            refine j_getf dX4_sortKeys_35 fX4_15 rfl rfl ?_
            refine j_iload_n dX4_sortKeys_38 rfl ?_
            refine j_iload_n dX4_sortKeys_39 rfl ?_
            refine j_sto (w' := ([.inr (9, [_, _, _, _, _]), z_ia 20 _, z_ia 20 _, .inr (11, [_]), z_ia 7 _], z_no)) dX4_sortKeys_40 rfl (vp_in_nI (by omega) (by decide)) rfl ?_
            refine j_iinc (lo' := [(1, _), (0, _), (2, _)]) dX4_sortKeys_41 rfl (z_inc _) (by decide) rfl ?_
            refine j_iinc (lo' := [(2, _), (1, _), (0, _)]) dX4_sortKeys_44 rfl (z_inc _) (by decide) rfl ?_
            refine j_goto (tgt := 4) dX4_sortKeys_47 (by decide) ?_
            exact j_lo2 (ih (j + 1) _ _ (by omega) (by omega) (by omega)) (z_q1 rfl (z_q1 rfl (z_q1 rfl z_q0)))
  exact j_lo2 (loop (20 + 1) 0 0 _ (by omega) (by omega) (by omega)) (z_q1 rfl (z_q1 rfl (z_q1 rfl z_q0)))
set_option maxRecDepth 100000 in
set_option maxHeartbeats 4000000 in
theorem c_X4_become (hl : l.stackTraces = false) (f g c : Nat → Int32) (m so : Int32) (f2 g2 c2 : Nat → Int32) (m2 so2 : Int32) : z_CF G l mX4_become 12 0 0 [.inr (9, [.int so, .ref 1, .ref 2, .ref 3, .int m]), z_ia 20 f, z_ia 20 g, .inr (11, [.ref 4]), z_ia 7 c, .inr (9, [.int so2, .ref 6, .ref 7, .ref 8, .int m2]), z_ia 20 f2, z_ia 20 g2, .inr (11, [.ref 9]), z_ia 7 c2] [.ref 0, .ref 5] (fun v L => v = none ∧ ∃ f' g' : Nat → Int32, L = [.inr (9, [.int so, .ref 1, .ref 2, .ref 3, .int m2]), z_ia 20 f', z_ia 20 g', .inr (11, [.ref 4]), z_ia 7 c, .inr (9, [.int so2, .ref 6, .ref 7, .ref 8, .int m2]), z_ia 20 f2, z_ia 20 g2, .inr (11, [.ref 9]), z_ia 7 c2]) := by
  refine z_body hl (by decide) rfl (Nat.le_of_ble_eq_true rfl) ?_
  show z_J G l mX4_become (z_SF 12 0 0 [.inr (9, [.int so, .ref 1, .ref 2, .ref 3, .int m]), z_ia 20 f, z_ia 20 g, .inr (11, [.ref 4]), z_ia 7 c, .inr (9, [.int so2, .ref 6, .ref 7, .ref 8, .int m2]), z_ia 20 f2, z_ia 20 g2, .inr (11, [.ref 9]), z_ia 7 c2] (fun v L => v = none ∧ ∃ f' g' : Nat → Int32, L = [.inr (9, [.int so, .ref 1, .ref 2, .ref 3, .int m2]), z_ia 20 f', z_ia 20 g', .inr (11, [.ref 4]), z_ia 7 c, .inr (9, [.int so2, .ref 6, .ref 7, .ref 8, .int m2]), z_ia 20 f2, z_ia 20 g2, .inr (11, [.ref 9]), z_ia 7 c2])) 0 [(0, _), (1, _)] [] _ 0 0
  refine j_aload_n dX4_become_0 rfl rfl ?_
  refine j_getf dX4_become_1 fX4_9 rfl rfl ?_
  refine j_aload_n dX4_become_4 rfl rfl ?_
  refine j_getf dX4_become_5 fX4_9 rfl rfl ?_
  refine j_callSN dX4_become_8 kX8_takeOver lX4_51 stX8_takeOver (z_frame [1, 6] rfl (by decide) (Nat.le_of_ble_eq_true rfl) (c_X8_takeOver hl _ _ _ (by decide))) (Nat.le_of_ble_eq_true rfl) ⟨(Nat.le_of_ble_eq_true rfl), (Nat.le_of_ble_eq_true rfl)⟩ rfl (Nat.le_of_ble_eq_true rfl) rfl rfl (fun _ _ h => h.elim) ?_
  rintro _ _ ⟨_, _, ⟨rfl, _, rfl⟩, rfl, rfl⟩
  refine j_w ([.inr (9, [_, _, _, _, _]), z_ia 20 _, z_ia 20 _, .inr (11, [_]), z_ia 7 _, .inr (9, [_, _, _, _, _]), z_ia 20 _, z_ia 20 _, .inr (11, [_]), z_ia 7 _], z_no) rfl ?_
  refine j_aload_n dX4_become_11 rfl rfl ?_
  refine j_getf dX4_become_12 fX4_15 rfl rfl ?_
  refine j_aload_n dX4_become_15 rfl rfl ?_
  refine j_getf dX4_become_16 fX4_15 rfl rfl ?_
  refine j_callSN dX4_become_19 kX8_takeOver lX4_51 stX8_takeOver (z_frame [2, 7] rfl (by decide) (Nat.le_of_ble_eq_true rfl) (c_X8_takeOver hl _ _ _ (by decide))) (Nat.le_of_ble_eq_true rfl) ⟨(Nat.le_of_ble_eq_true rfl), (Nat.le_of_ble_eq_true rfl)⟩ rfl (Nat.le_of_ble_eq_true rfl) rfl rfl (fun _ _ h => h.elim) ?_
  rintro _ _ ⟨_, _, ⟨rfl, _, rfl⟩, rfl, rfl⟩
  refine j_w ([.inr (9, [_, _, _, _, _]), z_ia 20 _, z_ia 20 _, .inr (11, [_]), z_ia 7 _, .inr (9, [_, _, _, _, _]), z_ia 20 _, z_ia 20 _, .inr (11, [_]), z_ia 7 _], z_no) rfl ?_
  refine j_aload_n dX4_become_22 rfl rfl ?_
  refine j_aload_n dX4_become_23 rfl rfl ?_
  refine j_getf dX4_become_24 fX4_29 rfl rfl ?_
  refine j_put (w' := ([.inr (9, [_, _, _, _, _]), z_ia 20 _, z_ia 20 _, .inr (11, [_]), z_ia 7 _, .inr (9, [_, _, _, _, _]), z_ia 20 _, z_ia 20 _, .inr (11, [_]), z_ia 7 _], z_no)) dX4_become_27 fX4_29 tX4_4 rfl ⟨rfl, rfl⟩ rfl ?_
  refine j_aload_n dX4_become_30 rfl rfl ?_
  refine j_getf dX4_become_31 fX4_25 rfl rfl ?_
  refine j_if_eq (tgt := 41) dX4_become_34 (by decide) (fun c_34 => ?_) (fun c_34 => ?_)
  · refine j_vret dX4_become_41 rfl ?_ (Nat.le_of_ble_eq_true rfl) (Nat.le_of_ble_eq_true rfl)
    exact ⟨rfl, rfl, rfl, _, _, rfl⟩
  · refine j_aload_n dX4_become_37 rfl rfl ?_
    refine j_callV (q := (RX4, TX4, 5)) dX4_become_38 kX4_sortKeys lX4_55 inX4_sortKeys seX4_sortKeys rfl rfl (z_frame [0, 1, 2, 3, 4] rfl (by decide) (Nat.le_of_ble_eq_true rfl) (c_X4_sortKeys hl _ _ _ _ _)) (Nat.le_of_ble_eq_true rfl) ⟨(Nat.le_of_ble_eq_true rfl), (Nat.le_of_ble_eq_true rfl)⟩ rfl (Nat.le_of_ble_eq_true rfl) rfl rfl (fun _ _ h => h.elim) ?_
    rintro _ _ ⟨_, _, ⟨rfl, _, rfl⟩, rfl, rfl⟩
    refine j_w ([.inr (9, [_, _, _, _, _]), z_ia 20 _, z_ia 20 _, .inr (11, [_]), z_ia 7 _, .inr (9, [_, _, _, _, _]), z_ia 20 _, z_ia 20 _, .inr (11, [_]), z_ia 7 _], z_no) rfl ?_
    refine j_vret dX4_become_41 rfl ?_ (Nat.le_of_ble_eq_true rfl) (Nat.le_of_ble_eq_true rfl)
    exact ⟨rfl, rfl, rfl, _, _, rfl⟩
set_option maxRecDepth 100000 in
set_option maxHeartbeats 4000000 in
theorem c_X4_hasPairsOf (hl : l.stackTraces = false) (f g c : Nat → Int32) (m so : Int32) (f2 g2 c2 : Nat → Int32) (m2 so2 : Int32) : z_CF G l mX4_hasPairsOf 12 0 0 [.inr (9, [.int so, .ref 1, .ref 2, .ref 3, .int m]), z_ia 20 f, z_ia 20 g, .inr (11, [.ref 4]), z_ia 7 c, .inr (9, [.int so2, .ref 6, .ref 7, .ref 8, .int m2]), z_ia 20 f2, z_ia 20 g2, .inr (11, [.ref 9]), z_ia 7 c2] [.ref 0, .ref 5] (fun v L => ∃ b : Bool, v = some (.int (z_bi b)) ∧ L = [.inr (9, [.int so, .ref 1, .ref 2, .ref 3, .int m]), z_ia 20 f, z_ia 20 g, .inr (11, [.ref 4]), z_ia 7 c, .inr (9, [.int so2, .ref 6, .ref 7, .ref 8, .int m2]), z_ia 20 f2, z_ia 20 g2, .inr (11, [.ref 9]), z_ia 7 c2]) := by
  refine z_body hl (by decide) rfl (Nat.le_of_ble_eq_true rfl) ?_
  show z_J G l mX4_hasPairsOf (z_SF 12 0 0 [.inr (9, [.int so, .ref 1, .ref 2, .ref 3, .int m]), z_ia 20 f, z_ia 20 g, .inr (11, [.ref 4]), z_ia 7 c, .inr (9, [.int so2, .ref 6, .ref 7, .ref 8, .int m2]), z_ia 20 f2, z_ia 20 g2, .inr (11, [.ref 9]), z_ia 7 c2] (fun v L => ∃ b : Bool, v = some (.int (z_bi b)) ∧ L = [.inr (9, [.int so, .ref 1, .ref 2, .ref 3, .int m]), z_ia 20 f, z_ia 20 g, .inr (11, [.ref 4]), z_ia 7 c, .inr (9, [.int so2, .ref 6, .ref 7, .ref 8, .int m2]), z_ia 20 f2, z_ia 20 g2, .inr (11, [.ref 9]), z_ia 7 c2])) 0 [(0, _), (1, _)] [] _ 0 0
  refine j_iconst (v := 0) dX4_hasPairsOf_0 (by decide) ?_
  refine j_istore_n (lo' := [(2, _), (0, _), (1, _)]) dX4_hasPairsOf_1 (by decide) rfl ?_
  have loop : ∀ (n j : Nat) , j ≤ 20 → 20 < j + n → z_J G l mX4_hasPairsOf (z_SF 12 0 0 [.inr (9, [.int so, .ref 1, .ref 2, .ref 3, .int m]), z_ia 20 f, z_ia 20 g, .inr (11, [.ref 4]), z_ia 7 c, .inr (9, [.int so2, .ref 6, .ref 7, .ref 8, .int m2]), z_ia 20 f2, z_ia 20 g2, .inr (11, [.ref 9]), z_ia 7 c2] (fun v L => ∃ b : Bool, v = some (.int (z_bi b)) ∧ L = [.inr (9, [.int so, .ref 1, .ref 2, .ref 3, .int m]), z_ia 20 f, z_ia 20 g, .inr (11, [.ref 4]), z_ia 7 c, .inr (9, [.int so2, .ref 6, .ref 7, .ref 8, .int m2]), z_ia 20 f2, z_ia 20 g2, .inr (11, [.ref 9]), z_ia 7 c2])) 2 [(0, .ref 0), (1, .ref 5), (2, .int (nI j))] [] ([.inr (9, [.int so, .ref 1, .ref 2, .ref 3, .int m]), z_ia 20 f, z_ia 20 g, .inr (11, [.ref 4]), z_ia 7 c, .inr (9, [.int so2, .ref 6, .ref 7, .ref 8, .int m2]), z_ia 20 f2, z_ia 20 g2, .inr (11, [.ref 9]), z_ia 7 c2], z_no) 0 0 := by
    intro n
    induction n with
    | zero => intro j h1 h2 ; exact absurd h2 (by omega)
    | succ n ih =>
      intro j  h1 h2
      refine j_iload_n dX4_hasPairsOf_2 rfl ?_
      refine j_aload_n dX4_hasPairsOf_3 rfl rfl ?_
      refine j_getf dX4_hasPairsOf_4 fX4_9 rfl rfl ?_
      refine j_alen dX4_hasPairsOf_7 rfl rfl rfl ?_
      refine j_icmp_ge (tgt := 33) dX4_hasPairsOf_8 (by decide) (fun c_8 => ?_) (fun c_8 => ?_)
      · refine j_iconst (v := 1) dX4_hasPairsOf_33 (by decide) ?_
        refine j_iret dX4_hasPairsOf_34 rfl rfl ?_ (Nat.le_of_ble_eq_true rfl) (Nat.le_of_ble_eq_true rfl)
        exact ⟨rfl, rfl, true, rfl, rfl⟩
      · have hj : j < 20 := z_ltI c_8 (by omega) (by decide)
        refine j_aload_n dX4_hasPairsOf_11 rfl rfl ?_
        refine j_getf dX4_hasPairsOf_12 fX4_9 rfl rfl ?_
        refine j_iload_n dX4_hasPairsOf_15 rfl ?_
        refine j_ld dX4_hasPairsOf_16 rfl (vp_in_nI hj (by decide)) ?_
        refine j_aload_n dX4_hasPairsOf_17 rfl rfl ?_
        refine j_iload_n dX4_hasPairsOf_18 rfl ?_
        refine j_callV (q := (RX4, TX4, 5)) dX4_hasPairsOf_19 kX4_look lX4_37 inX4_look seX4_look rfl rfl (z_frame [5, 6, 7, 8, 9] rfl (by decide) (Nat.le_of_ble_eq_true rfl) (c_X4_look hl _ _ _ _ _ _)) (Nat.le_of_ble_eq_true rfl) ⟨(Nat.le_of_ble_eq_true rfl), (Nat.le_of_ble_eq_true rfl)⟩ rfl (Nat.le_of_ble_eq_true rfl) rfl rfl (fun _ _ h => h.elim) ?_
        rintro _ _ ⟨_, _, ⟨_, rfl, rfl⟩, rfl, rfl⟩
        refine j_w ([.inr (9, [_, _, _, _, _]), z_ia 20 _, z_ia 20 _, .inr (11, [_]), z_ia 7 _, .inr (9, [_, _, _, _, _]), z_ia 20 _, z_ia 20 _, .inr (11, [_]), z_ia 7 _], z_no) rfl ?_
        refine j_icmp_eq (tgt := 27) dX4_hasPairsOf_22 (by decide) (fun c_22 => ?_) (fun c_22 => ?_)
        · refine j_iinc (lo' := [(2, _), (0, _), (1, _)]) dX4_hasPairsOf_27 rfl (z_inc _) (by decide) rfl ?_
          refine j_goto (tgt := 2) dX4_hasPairsOf_30 (by decide) ?_
          exact j_lo2 (ih (j + 1) (by omega) (by omega)) (z_q1 rfl (z_q1 rfl (z_q1 rfl z_q0)))
        · refine j_iconst (v := 0) dX4_hasPairsOf_25 (by decide) ?_
          refine j_iret dX4_hasPairsOf_26 rfl rfl ?_ (Nat.le_of_ble_eq_true rfl) (Nat.le_of_ble_eq_true rfl)
          exact ⟨rfl, rfl, false, rfl, rfl⟩
  exact j_lo2 (loop (20 + 1) 0 (by omega) (by omega)) (z_q1 rfl (z_q1 rfl (z_q1 rfl z_q0)))
end ZL2
end ZM1
section ZM2
section ZL3
variable {G : z_G} {l : Launch}
set_option maxRecDepth 100000 in
set_option maxHeartbeats 8000000 in
theorem c_X8_isEven (hl : l.stackTraces = false) (w : z_W) (a : Int32) : z_Con G l mX8_isEven 10 0 0 w [.int a] (fun v w9 => (∃ b : Bool, v = some (.int (z_bi b))) ∧ w9 = w) (fun _ _ => False) := by
  refine z_body hl (by decide) rfl (Nat.le_of_ble_eq_true rfl) ?_
  show z_J G l mX8_isEven ((10, 0, 0, w, (fun v w9 => (∃ b : Bool, v = some (.int (z_bi b))) ∧ w9 = w), fun _ _ => False)) 0 [(0, _)] [] _ 0 0
  refine j_iload_n dX8_isEven_0 rfl ?_
  refine j_iconst (v := 1) dX8_isEven_1 (by decide) ?_
  refine j_iand dX8_isEven_2 ?_
  refine j_if_ne (tgt := 10) dX8_isEven_3 (by decide) (fun c_3 => ?_) (fun c_3 => ?_)
  · refine j_iconst (v := 0) dX8_isEven_10 (by decide) ?_
    refine j_iret dX8_isEven_11 rfl rfl ?_ (Nat.le_of_ble_eq_true rfl) (Nat.le_of_ble_eq_true rfl)
    first | exact ⟨⟨true, rfl⟩, rfl⟩ | exact ⟨⟨false, rfl⟩, rfl⟩
  · refine j_iconst (v := 1) dX8_isEven_6 (by decide) ?_
    refine j_goto (tgt := 11) dX8_isEven_7 (by decide) ?_
    refine j_iret dX8_isEven_11 rfl rfl ?_ (Nat.le_of_ble_eq_true rfl) (Nat.le_of_ble_eq_true rfl)
    first | exact ⟨⟨true, rfl⟩, rfl⟩ | exact ⟨⟨false, rfl⟩, rfl⟩
set_option maxRecDepth 100000 in
set_option maxHeartbeats 8000000 in
theorem c_X8_oneIf (hl : l.stackTraces = false) (w : z_W) (a : Int32) : z_Con G l mX8_oneIf 10 0 0 w [.int a] (fun v w9 => (∃ x : Int32, v = some (.int x)) ∧ w9 = w) (fun _ _ => False) := by
  refine z_body hl (by decide) rfl (Nat.le_of_ble_eq_true rfl) ?_
  show z_J G l mX8_oneIf ((10, 0, 0, w, (fun v w9 => (∃ x : Int32, v = some (.int x)) ∧ w9 = w), fun _ _ => False)) 0 [(0, _)] [] _ 0 0
  refine j_iload_n dX8_oneIf_0 rfl ?_
  refine j_if_eq (tgt := 8) dX8_oneIf_1 (by decide) (fun c_1 => ?_) (fun c_1 => ?_)
  · refine j_iconst (v := 0) dX8_oneIf_8 (by decide) ?_
    refine j_iret dX8_oneIf_9 rfl rfl ?_ (Nat.le_of_ble_eq_true rfl) (Nat.le_of_ble_eq_true rfl)
    exact ⟨⟨_, rfl⟩, rfl⟩
  · refine j_iconst (v := 1) dX8_oneIf_4 (by decide) ?_
    refine j_goto (tgt := 9) dX8_oneIf_5 (by decide) ?_
    refine j_iret dX8_oneIf_9 rfl rfl ?_ (Nat.le_of_ble_eq_true rfl) (Nat.le_of_ble_eq_true rfl)
    exact ⟨⟨_, rfl⟩, rfl⟩
set_option maxRecDepth 100000 in
set_option maxHeartbeats 8000000 in
theorem c_X8_bounded (hl : l.stackTraces = false) (w : z_W) (a : Int32) : z_Con G l mX8_bounded 10 0 0 w [.int a] (fun v w9 => (∃ x : Int32, v = some (.int x)) ∧ w9 = w) (fun _ _ => False) := by
  refine z_body hl (by decide) rfl (Nat.le_of_ble_eq_true rfl) ?_
  show z_J G l mX8_bounded ((10, 0, 0, w, (fun v w9 => (∃ x : Int32, v = some (.int x)) ∧ w9 = w), fun _ _ => False)) 0 [(0, _)] [] _ 0 0
  refine j_iload_n dX8_bounded_0 rfl ?_
  refine j_sipush (v := 999) dX8_bounded_1 (by decide) ?_
  refine j_icmp_le (tgt := 11) dX8_bounded_4 (by decide) (fun c_4 => ?_) (fun c_4 => ?_)
  · refine j_iload_n dX8_bounded_11 rfl ?_
    refine j_sipush (v := (-999)) dX8_bounded_12 (by decide) ?_
    refine j_icmp_ge (tgt := 24) dX8_bounded_15 (by decide) (fun c_15 => ?_) (fun c_15 => ?_)
    · refine j_iload_n dX8_bounded_24 rfl ?_
      refine j_iret dX8_bounded_25 rfl rfl ?_ (Nat.le_of_ble_eq_true rfl) (Nat.le_of_ble_eq_true rfl)
      exact ⟨⟨_, rfl⟩, rfl⟩
    · refine j_sipush (v := (-999)) dX8_bounded_18 (by decide) ?_
      refine j_goto (tgt := 25) dX8_bounded_21 (by decide) ?_
      refine j_iret dX8_bounded_25 rfl rfl ?_ (Nat.le_of_ble_eq_true rfl) (Nat.le_of_ble_eq_true rfl)
      exact ⟨⟨_, rfl⟩, rfl⟩
  · refine j_sipush (v := 999) dX8_bounded_7 (by decide) ?_
    refine j_iret dX8_bounded_10 rfl rfl ?_ (Nat.le_of_ble_eq_true rfl) (Nat.le_of_ble_eq_true rfl)
    exact ⟨⟨_, rfl⟩, rfl⟩
set_option maxRecDepth 100000 in
set_option maxHeartbeats 8000000 in
theorem c_X8_ruleTells (hl : l.stackTraces = false) (w : z_W) (a b c e : Int32) : z_Con G l mX8_ruleTells 11 0 0 w [.int a, .int b, .int c, .int e] (fun v w9 => (∃ x : Int32, v = some (.int x)) ∧ w9 = w) (fun _ _ => False) := by
  refine z_body hl (by decide) rfl (Nat.le_of_ble_eq_true rfl) ?_
  show z_J G l mX8_ruleTells ((11, 0, 0, w, (fun v w9 => (∃ x : Int32, v = some (.int x)) ∧ w9 = w), fun _ _ => False)) 0 [(0, _), (1, _), (2, _), (3, _)] [] _ 0 0
  refine j_iload_n dX8_ruleTells_0 rfl ?_
  refine j_sipush (v := (-1000)) dX8_ruleTells_1 (by decide) ?_
  refine j_icmp_ne (tgt := 11) dX8_ruleTells_4 (by decide) (fun c_4 => ?_) (fun c_4 => ?_)
  · refine j_iload_n dX8_ruleTells_11 rfl ?_
    refine j_istore (lo' := [(4, _), (0, _), (1, _), (2, _), (3, _)]) dX8_ruleTells_12 (by decide) rfl ?_
    refine j_iload dX8_ruleTells_14 rfl ?_
    refine j_iload_n dX8_ruleTells_16 rfl ?_
    refine j_iadd dX8_ruleTells_17 ?_
    refine j_callS dX8_ruleTells_18 kX8_bounded lX8_309 stX8_bounded (c_X8_bounded hl _ _) (Nat.le_of_ble_eq_true rfl) ⟨(Nat.le_of_ble_eq_true rfl), (Nat.le_of_ble_eq_true rfl)⟩ rfl (Nat.le_of_ble_eq_true rfl) rfl rfl (fun _ _ h => h.elim) ?_
    rintro _ _ ⟨⟨_, rfl⟩, rfl⟩
    refine j_istore (lo' := [(5, _), (4, _), (0, _), (1, _), (2, _), (3, _)]) dX8_ruleTells_21 (by decide) rfl ?_
    refine j_iload_n dX8_ruleTells_23 rfl ?_
    rcases z_sw5 a with rfl | rfl | rfl | rfl | rfl | hp
    · refine j_tsIn (tgt := 60) dX8_ruleTells_24 (by decide) (by decide) rfl (by decide) ?_
      refine j_iload dX8_ruleTells_60 rfl ?_
      refine j_iret dX8_ruleTells_62 rfl rfl ?_ (Nat.le_of_ble_eq_true rfl) (Nat.le_of_ble_eq_true rfl)
      exact ⟨⟨_, rfl⟩, rfl⟩
    · refine j_tsIn (tgt := 63) dX8_ruleTells_24 (by decide) (by decide) rfl (by decide) ?_
      refine j_iload dX8_ruleTells_63 rfl ?_
      refine j_iload_n dX8_ruleTells_65 rfl ?_
      refine j_icmp_le (tgt := 74) dX8_ruleTells_66 (by decide) (fun c_66 => ?_) (fun c_66 => ?_)
      · refine j_iload_n dX8_ruleTells_74 rfl ?_
        refine j_iret dX8_ruleTells_75 rfl rfl ?_ (Nat.le_of_ble_eq_true rfl) (Nat.le_of_ble_eq_true rfl)
        exact ⟨⟨_, rfl⟩, rfl⟩
      · refine j_iload dX8_ruleTells_69 rfl ?_
        refine j_goto (tgt := 75) dX8_ruleTells_71 (by decide) ?_
        refine j_iret dX8_ruleTells_75 rfl rfl ?_ (Nat.le_of_ble_eq_true rfl) (Nat.le_of_ble_eq_true rfl)
        exact ⟨⟨_, rfl⟩, rfl⟩
    · refine j_tsIn (tgt := 76) dX8_ruleTells_24 (by decide) (by decide) rfl (by decide) ?_
      refine j_iload dX8_ruleTells_76 rfl ?_
      refine j_callS dX8_ruleTells_78 kX8_isEven lX8_312 stX8_isEven (c_X8_isEven hl _ _) (Nat.le_of_ble_eq_true rfl) ⟨(Nat.le_of_ble_eq_true rfl), (Nat.le_of_ble_eq_true rfl)⟩ rfl (Nat.le_of_ble_eq_true rfl) rfl rfl (fun _ _ h => h.elim) ?_
      rintro _ _ ⟨⟨_, rfl⟩, rfl⟩
      refine j_if_eq (tgt := 89) dX8_ruleTells_81 (by decide) (fun c_81 => ?_) (fun c_81 => ?_)
      · refine j_sipush (v := (-1000)) dX8_ruleTells_89 (by decide) ?_
        refine j_iret dX8_ruleTells_92 rfl rfl ?_ (Nat.le_of_ble_eq_true rfl) (Nat.le_of_ble_eq_true rfl)
        exact ⟨⟨_, rfl⟩, rfl⟩
      · refine j_iload dX8_ruleTells_84 rfl ?_
        refine j_goto (tgt := 92) dX8_ruleTells_86 (by decide) ?_
        refine j_iret dX8_ruleTells_92 rfl rfl ?_ (Nat.le_of_ble_eq_true rfl) (Nat.le_of_ble_eq_true rfl)
        exact ⟨⟨_, rfl⟩, rfl⟩
    · refine j_tsIn (tgt := 93) dX8_ruleTells_24 (by decide) (by decide) rfl (by decide) ?_
      refine j_sipush (v := (-1000)) dX8_ruleTells_93 (by decide) ?_
      refine j_iret dX8_ruleTells_96 rfl rfl ?_ (Nat.le_of_ble_eq_true rfl) (Nat.le_of_ble_eq_true rfl)
      exact ⟨⟨_, rfl⟩, rfl⟩
    · refine j_tsIn (tgt := 97) dX8_ruleTells_24 (by decide) (by decide) rfl (by decide) ?_
      refine j_iload dX8_ruleTells_97 rfl ?_
      refine j_callS dX8_ruleTells_99 kX8_isEven lX8_312 stX8_isEven (c_X8_isEven hl _ _) (Nat.le_of_ble_eq_true rfl) ⟨(Nat.le_of_ble_eq_true rfl), (Nat.le_of_ble_eq_true rfl)⟩ rfl (Nat.le_of_ble_eq_true rfl) rfl rfl (fun _ _ h => h.elim) ?_
      rintro _ _ ⟨⟨_, rfl⟩, rfl⟩
      refine j_if_eq (tgt := 110) dX8_ruleTells_102 (by decide) (fun c_102 => ?_) (fun c_102 => ?_)
      · refine j_sipush (v := (-1001)) dX8_ruleTells_110 (by decide) ?_
        refine j_iret dX8_ruleTells_113 rfl rfl ?_ (Nat.le_of_ble_eq_true rfl) (Nat.le_of_ble_eq_true rfl)
        exact ⟨⟨_, rfl⟩, rfl⟩
      · refine j_iload dX8_ruleTells_105 rfl ?_
        refine j_goto (tgt := 113) dX8_ruleTells_107 (by decide) ?_
        refine j_iret dX8_ruleTells_113 rfl rfl ?_ (Nat.le_of_ble_eq_true rfl) (Nat.le_of_ble_eq_true rfl)
        exact ⟨⟨_, rfl⟩, rfl⟩
    · refine j_tsOut (tgt := 114) dX8_ruleTells_24 hp (by decide) ?_
      refine j_iload_n dX8_ruleTells_114 rfl ?_
      refine j_iload_n dX8_ruleTells_115 rfl ?_
      refine j_iadd dX8_ruleTells_116 ?_
      refine j_callS dX8_ruleTells_117 kX8_bounded lX8_309 stX8_bounded (c_X8_bounded hl _ _) (Nat.le_of_ble_eq_true rfl) ⟨(Nat.le_of_ble_eq_true rfl), (Nat.le_of_ble_eq_true rfl)⟩ rfl (Nat.le_of_ble_eq_true rfl) rfl rfl (fun _ _ h => h.elim) ?_
      rintro _ _ ⟨⟨_, rfl⟩, rfl⟩
      refine j_iret dX8_ruleTells_120 rfl rfl ?_ (Nat.le_of_ble_eq_true rfl) (Nat.le_of_ble_eq_true rfl)
      exact ⟨⟨_, rfl⟩, rfl⟩
  · refine j_iconst (v := 0) dX8_ruleTells_7 (by decide) ?_
    refine j_goto (tgt := 12) dX8_ruleTells_8 (by decide) ?_
    refine j_istore (lo' := [(4, _), (0, _), (1, _), (2, _), (3, _)]) dX8_ruleTells_12 (by decide) rfl ?_
    refine j_iload dX8_ruleTells_14 rfl ?_
    refine j_iload_n dX8_ruleTells_16 rfl ?_
    refine j_iadd dX8_ruleTells_17 ?_
    refine j_callS dX8_ruleTells_18 kX8_bounded lX8_309 stX8_bounded (c_X8_bounded hl _ _) (Nat.le_of_ble_eq_true rfl) ⟨(Nat.le_of_ble_eq_true rfl), (Nat.le_of_ble_eq_true rfl)⟩ rfl (Nat.le_of_ble_eq_true rfl) rfl rfl (fun _ _ h => h.elim) ?_
    rintro _ _ ⟨⟨_, rfl⟩, rfl⟩
    refine j_istore (lo' := [(5, _), (4, _), (0, _), (1, _), (2, _), (3, _)]) dX8_ruleTells_21 (by decide) rfl ?_
    refine j_iload_n dX8_ruleTells_23 rfl ?_
    rcases z_sw5 a with rfl | rfl | rfl | rfl | rfl | hp
    · refine j_tsIn (tgt := 60) dX8_ruleTells_24 (by decide) (by decide) rfl (by decide) ?_
      refine j_iload dX8_ruleTells_60 rfl ?_
      refine j_iret dX8_ruleTells_62 rfl rfl ?_ (Nat.le_of_ble_eq_true rfl) (Nat.le_of_ble_eq_true rfl)
      exact ⟨⟨_, rfl⟩, rfl⟩
    · refine j_tsIn (tgt := 63) dX8_ruleTells_24 (by decide) (by decide) rfl (by decide) ?_
      refine j_iload dX8_ruleTells_63 rfl ?_
      refine j_iload_n dX8_ruleTells_65 rfl ?_
      refine j_icmp_le (tgt := 74) dX8_ruleTells_66 (by decide) (fun c_66 => ?_) (fun c_66 => ?_)
      · refine j_iload_n dX8_ruleTells_74 rfl ?_
        refine j_iret dX8_ruleTells_75 rfl rfl ?_ (Nat.le_of_ble_eq_true rfl) (Nat.le_of_ble_eq_true rfl)
        exact ⟨⟨_, rfl⟩, rfl⟩
      · refine j_iload dX8_ruleTells_69 rfl ?_
        refine j_goto (tgt := 75) dX8_ruleTells_71 (by decide) ?_
        refine j_iret dX8_ruleTells_75 rfl rfl ?_ (Nat.le_of_ble_eq_true rfl) (Nat.le_of_ble_eq_true rfl)
        exact ⟨⟨_, rfl⟩, rfl⟩
    · refine j_tsIn (tgt := 76) dX8_ruleTells_24 (by decide) (by decide) rfl (by decide) ?_
      refine j_iload dX8_ruleTells_76 rfl ?_
      refine j_callS dX8_ruleTells_78 kX8_isEven lX8_312 stX8_isEven (c_X8_isEven hl _ _) (Nat.le_of_ble_eq_true rfl) ⟨(Nat.le_of_ble_eq_true rfl), (Nat.le_of_ble_eq_true rfl)⟩ rfl (Nat.le_of_ble_eq_true rfl) rfl rfl (fun _ _ h => h.elim) ?_
      rintro _ _ ⟨⟨_, rfl⟩, rfl⟩
      refine j_if_eq (tgt := 89) dX8_ruleTells_81 (by decide) (fun c_81 => ?_) (fun c_81 => ?_)
      · refine j_sipush (v := (-1000)) dX8_ruleTells_89 (by decide) ?_
        refine j_iret dX8_ruleTells_92 rfl rfl ?_ (Nat.le_of_ble_eq_true rfl) (Nat.le_of_ble_eq_true rfl)
        exact ⟨⟨_, rfl⟩, rfl⟩
      · refine j_iload dX8_ruleTells_84 rfl ?_
        refine j_goto (tgt := 92) dX8_ruleTells_86 (by decide) ?_
        refine j_iret dX8_ruleTells_92 rfl rfl ?_ (Nat.le_of_ble_eq_true rfl) (Nat.le_of_ble_eq_true rfl)
        exact ⟨⟨_, rfl⟩, rfl⟩
    · refine j_tsIn (tgt := 93) dX8_ruleTells_24 (by decide) (by decide) rfl (by decide) ?_
      refine j_sipush (v := (-1000)) dX8_ruleTells_93 (by decide) ?_
      refine j_iret dX8_ruleTells_96 rfl rfl ?_ (Nat.le_of_ble_eq_true rfl) (Nat.le_of_ble_eq_true rfl)
      exact ⟨⟨_, rfl⟩, rfl⟩
    · refine j_tsIn (tgt := 97) dX8_ruleTells_24 (by decide) (by decide) rfl (by decide) ?_
      refine j_iload dX8_ruleTells_97 rfl ?_
      refine j_callS dX8_ruleTells_99 kX8_isEven lX8_312 stX8_isEven (c_X8_isEven hl _ _) (Nat.le_of_ble_eq_true rfl) ⟨(Nat.le_of_ble_eq_true rfl), (Nat.le_of_ble_eq_true rfl)⟩ rfl (Nat.le_of_ble_eq_true rfl) rfl rfl (fun _ _ h => h.elim) ?_
      rintro _ _ ⟨⟨_, rfl⟩, rfl⟩
      refine j_if_eq (tgt := 110) dX8_ruleTells_102 (by decide) (fun c_102 => ?_) (fun c_102 => ?_)
      · refine j_sipush (v := (-1001)) dX8_ruleTells_110 (by decide) ?_
        refine j_iret dX8_ruleTells_113 rfl rfl ?_ (Nat.le_of_ble_eq_true rfl) (Nat.le_of_ble_eq_true rfl)
        exact ⟨⟨_, rfl⟩, rfl⟩
      · refine j_iload dX8_ruleTells_105 rfl ?_
        refine j_goto (tgt := 113) dX8_ruleTells_107 (by decide) ?_
        refine j_iret dX8_ruleTells_113 rfl rfl ?_ (Nat.le_of_ble_eq_true rfl) (Nat.le_of_ble_eq_true rfl)
        exact ⟨⟨_, rfl⟩, rfl⟩
    · refine j_tsOut (tgt := 114) dX8_ruleTells_24 hp (by decide) ?_
      refine j_iload_n dX8_ruleTells_114 rfl ?_
      refine j_iload_n dX8_ruleTells_115 rfl ?_
      refine j_iadd dX8_ruleTells_116 ?_
      refine j_callS dX8_ruleTells_117 kX8_bounded lX8_309 stX8_bounded (c_X8_bounded hl _ _) (Nat.le_of_ble_eq_true rfl) ⟨(Nat.le_of_ble_eq_true rfl), (Nat.le_of_ble_eq_true rfl)⟩ rfl (Nat.le_of_ble_eq_true rfl) rfl rfl (fun _ _ h => h.elim) ?_
      rintro _ _ ⟨⟨_, rfl⟩, rfl⟩
      refine j_iret dX8_ruleTells_120 rfl rfl ?_ (Nat.le_of_ble_eq_true rfl) (Nat.le_of_ble_eq_true rfl)
      exact ⟨⟨_, rfl⟩, rfl⟩
set_option maxRecDepth 100000 in
set_option maxHeartbeats 8000000 in
theorem c_X8_testTells (hl : l.stackTraces = false) (w : z_W) (a b c : Int32) : z_Con G l mX8_testTells 11 0 0 w [.int a, .int b, .int c] (fun v w9 => (∃ x : Int32, v = some (.int x)) ∧ w9 = w) (fun _ _ => False) := by
  refine z_body hl (by decide) rfl (Nat.le_of_ble_eq_true rfl) ?_
  show z_J G l mX8_testTells ((11, 0, 0, w, (fun v w9 => (∃ x : Int32, v = some (.int x)) ∧ w9 = w), fun _ _ => False)) 0 [(0, _), (1, _), (2, _)] [] _ 0 0
  refine j_iload_n dX8_testTells_0 rfl ?_
  rcases z_sw5 a with rfl | rfl | rfl | rfl | rfl | hp
  · refine j_tsIn (tgt := 36) dX8_testTells_1 (by decide) (by decide) rfl (by decide) ?_
    refine j_iload_n dX8_testTells_36 rfl ?_
    refine j_callS dX8_testTells_37 kX8_isEven lX8_312 stX8_isEven (c_X8_isEven hl _ _) (Nat.le_of_ble_eq_true rfl) ⟨(Nat.le_of_ble_eq_true rfl), (Nat.le_of_ble_eq_true rfl)⟩ rfl (Nat.le_of_ble_eq_true rfl) rfl rfl (fun _ _ h => h.elim) ?_
    rintro _ _ ⟨⟨_, rfl⟩, rfl⟩
    refine j_callS dX8_testTells_40 kX8_oneIf lX8_83 stX8_oneIf (c_X8_oneIf hl _ _) (Nat.le_of_ble_eq_true rfl) ⟨(Nat.le_of_ble_eq_true rfl), (Nat.le_of_ble_eq_true rfl)⟩ rfl (Nat.le_of_ble_eq_true rfl) rfl rfl (fun _ _ h => h.elim) ?_
    rintro _ _ ⟨⟨_, rfl⟩, rfl⟩
    refine j_iret dX8_testTells_43 rfl rfl ?_ (Nat.le_of_ble_eq_true rfl) (Nat.le_of_ble_eq_true rfl)
    exact ⟨⟨_, rfl⟩, rfl⟩
  · refine j_tsIn (tgt := 44) dX8_testTells_1 (by decide) (by decide) rfl (by decide) ?_
    refine j_iload_n dX8_testTells_44 rfl ?_
    refine j_callS dX8_testTells_45 kX8_isEven lX8_312 stX8_isEven (c_X8_isEven hl _ _) (Nat.le_of_ble_eq_true rfl) ⟨(Nat.le_of_ble_eq_true rfl), (Nat.le_of_ble_eq_true rfl)⟩ rfl (Nat.le_of_ble_eq_true rfl) rfl rfl (fun _ _ h => h.elim) ?_
    rintro _ _ ⟨⟨_, rfl⟩, rfl⟩
    refine j_if_ne (tgt := 55) dX8_testTells_48 (by decide) (fun c_48 => ?_) (fun c_48 => ?_)
    · refine j_iconst (v := 0) dX8_testTells_55 (by decide) ?_
      refine j_callS dX8_testTells_56 kX8_oneIf lX8_83 stX8_oneIf (c_X8_oneIf hl _ _) (Nat.le_of_ble_eq_true rfl) ⟨(Nat.le_of_ble_eq_true rfl), (Nat.le_of_ble_eq_true rfl)⟩ rfl (Nat.le_of_ble_eq_true rfl) rfl rfl (fun _ _ h => h.elim) ?_
      rintro _ _ ⟨⟨_, rfl⟩, rfl⟩
      refine j_iret dX8_testTells_59 rfl rfl ?_ (Nat.le_of_ble_eq_true rfl) (Nat.le_of_ble_eq_true rfl)
      exact ⟨⟨_, rfl⟩, rfl⟩
    · refine j_iconst (v := 1) dX8_testTells_51 (by decide) ?_
      refine j_goto (tgt := 56) dX8_testTells_52 (by decide) ?_
      refine j_callS dX8_testTells_56 kX8_oneIf lX8_83 stX8_oneIf (c_X8_oneIf hl _ _) (Nat.le_of_ble_eq_true rfl) ⟨(Nat.le_of_ble_eq_true rfl), (Nat.le_of_ble_eq_true rfl)⟩ rfl (Nat.le_of_ble_eq_true rfl) rfl rfl (fun _ _ h => h.elim) ?_
      rintro _ _ ⟨⟨_, rfl⟩, rfl⟩
      refine j_iret dX8_testTells_59 rfl rfl ?_ (Nat.le_of_ble_eq_true rfl) (Nat.le_of_ble_eq_true rfl)
      exact ⟨⟨_, rfl⟩, rfl⟩
  · refine j_tsIn (tgt := 60) dX8_testTells_1 (by decide) (by decide) rfl (by decide) ?_
    refine j_iload_n dX8_testTells_60 rfl ?_
    refine j_iload_n dX8_testTells_61 rfl ?_
    refine j_icmp_ge (tgt := 69) dX8_testTells_62 (by decide) (fun c_62 => ?_) (fun c_62 => ?_)
    · refine j_iconst (v := 0) dX8_testTells_69 (by decide) ?_
      refine j_callS dX8_testTells_70 kX8_oneIf lX8_83 stX8_oneIf (c_X8_oneIf hl _ _) (Nat.le_of_ble_eq_true rfl) ⟨(Nat.le_of_ble_eq_true rfl), (Nat.le_of_ble_eq_true rfl)⟩ rfl (Nat.le_of_ble_eq_true rfl) rfl rfl (fun _ _ h => h.elim) ?_
      rintro _ _ ⟨⟨_, rfl⟩, rfl⟩
      refine j_iret dX8_testTells_73 rfl rfl ?_ (Nat.le_of_ble_eq_true rfl) (Nat.le_of_ble_eq_true rfl)
      exact ⟨⟨_, rfl⟩, rfl⟩
    · refine j_iconst (v := 1) dX8_testTells_65 (by decide) ?_
      refine j_goto (tgt := 70) dX8_testTells_66 (by decide) ?_
      refine j_callS dX8_testTells_70 kX8_oneIf lX8_83 stX8_oneIf (c_X8_oneIf hl _ _) (Nat.le_of_ble_eq_true rfl) ⟨(Nat.le_of_ble_eq_true rfl), (Nat.le_of_ble_eq_true rfl)⟩ rfl (Nat.le_of_ble_eq_true rfl) rfl rfl (fun _ _ h => h.elim) ?_
      rintro _ _ ⟨⟨_, rfl⟩, rfl⟩
      refine j_iret dX8_testTells_73 rfl rfl ?_ (Nat.le_of_ble_eq_true rfl) (Nat.le_of_ble_eq_true rfl)
      exact ⟨⟨_, rfl⟩, rfl⟩
  · refine j_tsIn (tgt := 74) dX8_testTells_1 (by decide) (by decide) rfl (by decide) ?_
    refine j_iload_n dX8_testTells_74 rfl ?_
    refine j_iload_n dX8_testTells_75 rfl ?_
    refine j_icmp_le (tgt := 83) dX8_testTells_76 (by decide) (fun c_76 => ?_) (fun c_76 => ?_)
    · refine j_iconst (v := 0) dX8_testTells_83 (by decide) ?_
      refine j_callS dX8_testTells_84 kX8_oneIf lX8_83 stX8_oneIf (c_X8_oneIf hl _ _) (Nat.le_of_ble_eq_true rfl) ⟨(Nat.le_of_ble_eq_true rfl), (Nat.le_of_ble_eq_true rfl)⟩ rfl (Nat.le_of_ble_eq_true rfl) rfl rfl (fun _ _ h => h.elim) ?_
      rintro _ _ ⟨⟨_, rfl⟩, rfl⟩
      refine j_iret dX8_testTells_87 rfl rfl ?_ (Nat.le_of_ble_eq_true rfl) (Nat.le_of_ble_eq_true rfl)
      exact ⟨⟨_, rfl⟩, rfl⟩
    · refine j_iconst (v := 1) dX8_testTells_79 (by decide) ?_
      refine j_goto (tgt := 84) dX8_testTells_80 (by decide) ?_
      refine j_callS dX8_testTells_84 kX8_oneIf lX8_83 stX8_oneIf (c_X8_oneIf hl _ _) (Nat.le_of_ble_eq_true rfl) ⟨(Nat.le_of_ble_eq_true rfl), (Nat.le_of_ble_eq_true rfl)⟩ rfl (Nat.le_of_ble_eq_true rfl) rfl rfl (fun _ _ h => h.elim) ?_
      rintro _ _ ⟨⟨_, rfl⟩, rfl⟩
      refine j_iret dX8_testTells_87 rfl rfl ?_ (Nat.le_of_ble_eq_true rfl) (Nat.le_of_ble_eq_true rfl)
      exact ⟨⟨_, rfl⟩, rfl⟩
  · refine j_tsIn (tgt := 88) dX8_testTells_1 (by decide) (by decide) rfl (by decide) ?_
    refine j_iload_n dX8_testTells_88 rfl ?_
    refine j_iload_n dX8_testTells_89 rfl ?_
    refine j_icmp_ne (tgt := 97) dX8_testTells_90 (by decide) (fun c_90 => ?_) (fun c_90 => ?_)
    · refine j_iconst (v := 0) dX8_testTells_97 (by decide) ?_
      refine j_callS dX8_testTells_98 kX8_oneIf lX8_83 stX8_oneIf (c_X8_oneIf hl _ _) (Nat.le_of_ble_eq_true rfl) ⟨(Nat.le_of_ble_eq_true rfl), (Nat.le_of_ble_eq_true rfl)⟩ rfl (Nat.le_of_ble_eq_true rfl) rfl rfl (fun _ _ h => h.elim) ?_
      rintro _ _ ⟨⟨_, rfl⟩, rfl⟩
      refine j_iret dX8_testTells_101 rfl rfl ?_ (Nat.le_of_ble_eq_true rfl) (Nat.le_of_ble_eq_true rfl)
      exact ⟨⟨_, rfl⟩, rfl⟩
    · refine j_iconst (v := 1) dX8_testTells_93 (by decide) ?_
      refine j_goto (tgt := 98) dX8_testTells_94 (by decide) ?_
      refine j_callS dX8_testTells_98 kX8_oneIf lX8_83 stX8_oneIf (c_X8_oneIf hl _ _) (Nat.le_of_ble_eq_true rfl) ⟨(Nat.le_of_ble_eq_true rfl), (Nat.le_of_ble_eq_true rfl)⟩ rfl (Nat.le_of_ble_eq_true rfl) rfl rfl (fun _ _ h => h.elim) ?_
      rintro _ _ ⟨⟨_, rfl⟩, rfl⟩
      refine j_iret dX8_testTells_101 rfl rfl ?_ (Nat.le_of_ble_eq_true rfl) (Nat.le_of_ble_eq_true rfl)
      exact ⟨⟨_, rfl⟩, rfl⟩
  · refine j_tsOut (tgt := 102) dX8_testTells_1 hp (by decide) ?_
    refine j_iload_n dX8_testTells_102 rfl ?_
    refine j_iload_n dX8_testTells_103 rfl ?_
    refine j_icmp_ne (tgt := 113) dX8_testTells_104 (by decide) (fun c_104 => ?_) (fun c_104 => ?_)
    · refine j_iconst (v := 0) dX8_testTells_113 (by decide) ?_
      refine j_iret dX8_testTells_114 rfl rfl ?_ (Nat.le_of_ble_eq_true rfl) (Nat.le_of_ble_eq_true rfl)
      exact ⟨⟨_, rfl⟩, rfl⟩
    · refine j_sipush (v := (-1001)) dX8_testTells_107 (by decide) ?_
      refine j_goto (tgt := 114) dX8_testTells_110 (by decide) ?_
      refine j_iret dX8_testTells_114 rfl rfl ?_ (Nat.le_of_ble_eq_true rfl) (Nat.le_of_ble_eq_true rfl)
      exact ⟨⟨_, rfl⟩, rfl⟩
set_option maxRecDepth 100000 in
set_option maxHeartbeats 8000000 in
theorem c_X8_mixed (hl : l.stackTraces = false) (w : z_W) (a : Int64) (b : Int32) : z_Con G l mX8_mixed 10 0 0 w [.long a, .int b] (fun v w9 => (∃ x : Int64, v = some (.long x)) ∧ w9 = w) (fun _ _ => False) := by
  refine z_body hl (by decide) rfl (Nat.le_of_ble_eq_true rfl) ?_
  show z_J G l mX8_mixed ((10, 0, 0, w, (fun v w9 => (∃ x : Int64, v = some (.long x)) ∧ w9 = w), fun _ _ => False)) 0 [(0, _), (2, _)] [] _ 0 0
  refine j_lload_n dX8_mixed_0 rfl ?_
  refine j_ldc2 dX8_mixed_1 kcX8_350 ?_
  refine j_lmul dX8_mixed_4 ?_
  refine j_iload_n dX8_mixed_5 rfl ?_
  refine j_i2l dX8_mixed_6 ?_
  refine j_ladd dX8_mixed_7 ?_
  refine j_lret dX8_mixed_8 rfl ?_ (Nat.le_of_ble_eq_true rfl) (Nat.le_of_ble_eq_true rfl)
  exact ⟨⟨_, rfl⟩, rfl⟩
set_option maxRecDepth 100000 in
set_option maxHeartbeats 8000000 in
theorem c_X4_reckonAbsent (hl : l.stackTraces = false) (f g c : Nat → Int32) (m so : Int32) (p q x : Int32) (hm : z_m20 m): z_CF G l mX4_reckonAbsent 13 0 0 [.inr (9, [.int so, .ref 1, .ref 2, .ref 3, .int m]), z_ia 20 f, z_ia 20 g, .inr (11, [.ref 4]), z_ia 7 c] [.ref 0, .int p, .int q, .int x] (fun v L => ∃ y : Int32, v = some (.int y) ∧ ∃ (f' g' c' : Nat → Int32) (m' : Int32), z_m20 m' ∧ L = [.inr (9, [.int so, .ref 1, .ref 2, .ref 3, .int m']), z_ia 20 f', z_ia 20 g', .inr (11, [.ref 4]), z_ia 7 c']) := by
  refine z_body hl (by decide) rfl (Nat.le_of_ble_eq_true rfl) ?_
  show z_J G l mX4_reckonAbsent (z_SF 13 0 0 [.inr (9, [.int so, .ref 1, .ref 2, .ref 3, .int m]), z_ia 20 f, z_ia 20 g, .inr (11, [.ref 4]), z_ia 7 c] (fun v L => ∃ y : Int32, v = some (.int y) ∧ ∃ (f' g' c' : Nat → Int32) (m' : Int32), z_m20 m' ∧ L = [.inr (9, [.int so, .ref 1, .ref 2, .ref 3, .int m']), z_ia 20 f', z_ia 20 g', .inr (11, [.ref 4]), z_ia 7 c'])) 0 [(0, _), (1, _), (2, _), (3, _)] [] _ 0 0
  refine j_aload_n dX4_reckonAbsent_0 rfl rfl ?_
  refine j_iload_n dX4_reckonAbsent_1 rfl ?_
  refine j_callV (q := (RX4, TX4, 5)) dX4_reckonAbsent_2 kX4_look lX4_37 inX4_look seX4_look rfl rfl (z_frame [0, 1, 2, 3, 4] rfl (by decide) (Nat.le_of_ble_eq_true rfl) (c_X4_look hl _ _ _ _ _ _)) (Nat.le_of_ble_eq_true rfl) ⟨(Nat.le_of_ble_eq_true rfl), (Nat.le_of_ble_eq_true rfl)⟩ rfl (Nat.le_of_ble_eq_true rfl) rfl rfl (fun _ _ h => h.elim) ?_
  rintro _ _ ⟨_, _, ⟨_, rfl, rfl⟩, rfl, rfl⟩
  refine j_w ([.inr (9, [_, _, _, _, _]), z_ia 20 _, z_ia 20 _, .inr (11, [_]), z_ia 7 _], z_no) rfl ?_
  refine j_istore (lo' := [(4, _), (0, _), (1, _), (2, _), (3, _)]) dX4_reckonAbsent_5 (by decide) rfl ?_
  refine j_iload dX4_reckonAbsent_7 rfl ?_
  refine j_sipush (v := (-1000)) dX4_reckonAbsent_9 (by decide) ?_
  refine j_icmp_eq (tgt := 18) dX4_reckonAbsent_12 (by decide) (fun c_12 => ?_) (fun c_12 => ?_)
  · refine j_iload_n dX4_reckonAbsent_18 rfl ?_
    refine j_iload_n dX4_reckonAbsent_19 rfl ?_
    refine j_iload dX4_reckonAbsent_20 rfl ?_
    refine j_iload_n dX4_reckonAbsent_22 rfl ?_
    refine j_callSN dX4_reckonAbsent_23 kX8_ruleTells lX4_58 stX8_ruleTells (c_X8_ruleTells hl _ _ _ _ _) (Nat.le_of_ble_eq_true rfl) ⟨(Nat.le_of_ble_eq_true rfl), (Nat.le_of_ble_eq_true rfl)⟩ rfl (Nat.le_of_ble_eq_true rfl) rfl rfl (fun _ _ h => h.elim) ?_
    rintro _ _ ⟨⟨_, rfl⟩, rfl⟩
    refine j_istore (lo' := [(5, _), (4, _), (0, _), (1, _), (2, _), (3, _)]) dX4_reckonAbsent_26 (by decide) rfl ?_
    refine j_iload dX4_reckonAbsent_28 rfl ?_
    refine j_sipush (v := (-1000)) dX4_reckonAbsent_30 (by decide) ?_
    refine j_icmp_eq (tgt := 52) dX4_reckonAbsent_33 (by decide) (fun c_33 => ?_) (fun c_33 => ?_)
    · refine j_iload dX4_reckonAbsent_52 rfl ?_
      refine j_iret dX4_reckonAbsent_54 rfl rfl ?_ (Nat.le_of_ble_eq_true rfl) (Nat.le_of_ble_eq_true rfl)
      exact ⟨rfl, rfl, _, rfl, _, _, _, _, hm, rfl⟩
    · refine j_iload dX4_reckonAbsent_36 rfl ?_
      refine j_sipush (v := (-1001)) dX4_reckonAbsent_38 (by decide) ?_
      refine j_icmp_eq (tgt := 52) dX4_reckonAbsent_41 (by decide) (fun c_41 => ?_) (fun c_41 => ?_)
      · refine j_iload dX4_reckonAbsent_52 rfl ?_
        refine j_iret dX4_reckonAbsent_54 rfl rfl ?_ (Nat.le_of_ble_eq_true rfl) (Nat.le_of_ble_eq_true rfl)
        exact ⟨rfl, rfl, _, rfl, _, _, _, _, hm, rfl⟩
      · refine j_aload_n dX4_reckonAbsent_44 rfl rfl ?_
        refine j_iload_n dX4_reckonAbsent_45 rfl ?_
        refine j_iload dX4_reckonAbsent_46 rfl ?_
        refine j_callV (q := (RX4, TX4, 5)) dX4_reckonAbsent_48 kX4_store lX4_62 inX4_store seX4_store rfl rfl (z_frame [0, 1, 2, 3, 4] rfl (by decide) (Nat.le_of_ble_eq_true rfl) (c_X4_store hl _ _ _ _ _ _ _ hm)) (Nat.le_of_ble_eq_true rfl) ⟨(Nat.le_of_ble_eq_true rfl), (Nat.le_of_ble_eq_true rfl)⟩ rfl (Nat.le_of_ble_eq_true rfl) rfl rfl (fun _ _ h => h.elim) ?_
        rintro _ _ ⟨_, _, ⟨_, rfl, _, _, _, _, hm, rfl⟩, rfl, rfl⟩
        refine j_w ([.inr (9, [_, _, _, _, _]), z_ia 20 _, z_ia 20 _, .inr (11, [_]), z_ia 7 _], z_no) rfl ?_
        refine j_pop dX4_reckonAbsent_51 rfl ?_
        refine j_iload dX4_reckonAbsent_52 rfl ?_
        refine j_iret dX4_reckonAbsent_54 rfl rfl ?_ (Nat.le_of_ble_eq_true rfl) (Nat.le_of_ble_eq_true rfl)
        exact ⟨rfl, rfl, _, rfl, _, _, _, _, hm, rfl⟩
  · refine j_iload dX4_reckonAbsent_15 rfl ?_
    refine j_iret dX4_reckonAbsent_17 rfl rfl ?_ (Nat.le_of_ble_eq_true rfl) (Nat.le_of_ble_eq_true rfl)
    exact ⟨rfl, rfl, _, rfl, _, _, _, _, hm, rfl⟩
set_option maxRecDepth 100000 in
set_option maxHeartbeats 8000000 in
theorem c_X4_reckon (hl : l.stackTraces = false) (f g c : Nat → Int32) (m so : Int32) (p q x : Int32) (hm : z_m20 m): z_CF G l mX4_reckon 13 0 0 [.inr (9, [.int so, .ref 1, .ref 2, .ref 3, .int m]), z_ia 20 f, z_ia 20 g, .inr (11, [.ref 4]), z_ia 7 c] [.ref 0, .int p, .int q, .int x] (fun v L => ∃ y : Int32, v = some (.int y) ∧ ∃ (f' g' c' : Nat → Int32) (m' : Int32), z_m20 m' ∧ L = [.inr (9, [.int so, .ref 1, .ref 2, .ref 3, .int m']), z_ia 20 f', z_ia 20 g', .inr (11, [.ref 4]), z_ia 7 c']) := by
  refine z_body hl (by decide) rfl (Nat.le_of_ble_eq_true rfl) ?_
  show z_J G l mX4_reckon (z_SF 13 0 0 [.inr (9, [.int so, .ref 1, .ref 2, .ref 3, .int m]), z_ia 20 f, z_ia 20 g, .inr (11, [.ref 4]), z_ia 7 c] (fun v L => ∃ y : Int32, v = some (.int y) ∧ ∃ (f' g' c' : Nat → Int32) (m' : Int32), z_m20 m' ∧ L = [.inr (9, [.int so, .ref 1, .ref 2, .ref 3, .int m']), z_ia 20 f', z_ia 20 g', .inr (11, [.ref 4]), z_ia 7 c'])) 0 [(0, _), (1, _), (2, _), (3, _)] [] _ 0 0
  refine j_aload_n dX4_reckon_0 rfl rfl ?_
  refine j_iload_n dX4_reckon_1 rfl ?_
  refine j_callV (q := (RX4, TX4, 5)) dX4_reckon_2 kX4_look lX4_37 inX4_look seX4_look rfl rfl (z_frame [0, 1, 2, 3, 4] rfl (by decide) (Nat.le_of_ble_eq_true rfl) (c_X4_look hl _ _ _ _ _ _)) (Nat.le_of_ble_eq_true rfl) ⟨(Nat.le_of_ble_eq_true rfl), (Nat.le_of_ble_eq_true rfl)⟩ rfl (Nat.le_of_ble_eq_true rfl) rfl rfl (fun _ _ h => h.elim) ?_
  rintro _ _ ⟨_, _, ⟨_, rfl, rfl⟩, rfl, rfl⟩
  refine j_w ([.inr (9, [_, _, _, _, _]), z_ia 20 _, z_ia 20 _, .inr (11, [_]), z_ia 7 _], z_no) rfl ?_
  refine j_istore (lo' := [(4, _), (0, _), (1, _), (2, _), (3, _)]) dX4_reckon_5 (by decide) rfl ?_
  refine j_iload_n dX4_reckon_7 rfl ?_
  refine j_iload_n dX4_reckon_8 rfl ?_
  refine j_iload dX4_reckon_9 rfl ?_
  refine j_iload_n dX4_reckon_11 rfl ?_
  refine j_callSN dX4_reckon_12 kX8_ruleTells lX4_58 stX8_ruleTells (c_X8_ruleTells hl _ _ _ _ _) (Nat.le_of_ble_eq_true rfl) ⟨(Nat.le_of_ble_eq_true rfl), (Nat.le_of_ble_eq_true rfl)⟩ rfl (Nat.le_of_ble_eq_true rfl) rfl rfl (fun _ _ h => h.elim) ?_
  rintro _ _ ⟨⟨_, rfl⟩, rfl⟩
  refine j_istore (lo' := [(5, _), (4, _), (0, _), (1, _), (2, _), (3, _)]) dX4_reckon_15 (by decide) rfl ?_
  refine j_iload dX4_reckon_17 rfl ?_
  refine j_sipush (v := (-1001)) dX4_reckon_19 (by decide) ?_
  refine j_icmp_ne (tgt := 29) dX4_reckon_22 (by decide) (fun c_22 => ?_) (fun c_22 => ?_)
  · refine j_iload dX4_reckon_29 rfl ?_
    refine j_sipush (v := (-1000)) dX4_reckon_31 (by decide) ?_
    refine j_icmp_eq (tgt := 48) dX4_reckon_34 (by decide) (fun c_34 => ?_) (fun c_34 => ?_)
    · refine j_iload dX4_reckon_48 rfl ?_
      refine j_sipush (v := (-1000)) dX4_reckon_50 (by decide) ?_
      refine j_icmp_eq (tgt := 62) dX4_reckon_53 (by decide) (fun c_53 => ?_) (fun c_53 => ?_)
      · refine j_iload dX4_reckon_62 rfl ?_
        refine j_iret dX4_reckon_64 rfl rfl ?_ (Nat.le_of_ble_eq_true rfl) (Nat.le_of_ble_eq_true rfl)
        exact ⟨rfl, rfl, _, rfl, _, _, _, _, hm, rfl⟩
      · refine j_aload_n dX4_reckon_56 rfl rfl ?_
        refine j_iload_n dX4_reckon_57 rfl ?_
        refine j_callV (q := (RX4, TX4, 5)) dX4_reckon_58 kX4_sendAway lX4_70 inX4_sendAway seX4_sendAway rfl rfl (z_frame [0, 1, 2, 3, 4] rfl (by decide) (Nat.le_of_ble_eq_true rfl) (c_X4_sendAway hl _ _ _ _ _ _ hm)) (Nat.le_of_ble_eq_true rfl) ⟨(Nat.le_of_ble_eq_true rfl), (Nat.le_of_ble_eq_true rfl)⟩ rfl (Nat.le_of_ble_eq_true rfl) rfl rfl (fun _ _ h => h.elim) ?_
        rintro _ _ ⟨_, _, ⟨_, rfl, _, _, _, _, hm, rfl⟩, rfl, rfl⟩
        refine j_w ([.inr (9, [_, _, _, _, _]), z_ia 20 _, z_ia 20 _, .inr (11, [_]), z_ia 7 _], z_no) rfl ?_
        refine j_pop dX4_reckon_61 rfl ?_
        refine j_iload dX4_reckon_62 rfl ?_
        refine j_iret dX4_reckon_64 rfl rfl ?_ (Nat.le_of_ble_eq_true rfl) (Nat.le_of_ble_eq_true rfl)
        exact ⟨rfl, rfl, _, rfl, _, _, _, _, hm, rfl⟩
    · refine j_aload_n dX4_reckon_37 rfl rfl ?_
      refine j_iload_n dX4_reckon_38 rfl ?_
      refine j_iload dX4_reckon_39 rfl ?_
      refine j_callV (q := (RX4, TX4, 5)) dX4_reckon_41 kX4_store lX4_62 inX4_store seX4_store rfl rfl (z_frame [0, 1, 2, 3, 4] rfl (by decide) (Nat.le_of_ble_eq_true rfl) (c_X4_store hl _ _ _ _ _ _ _ hm)) (Nat.le_of_ble_eq_true rfl) ⟨(Nat.le_of_ble_eq_true rfl), (Nat.le_of_ble_eq_true rfl)⟩ rfl (Nat.le_of_ble_eq_true rfl) rfl rfl (fun _ _ h => h.elim) ?_
      rintro _ _ ⟨_, _, ⟨_, rfl, _, _, _, _, hm, rfl⟩, rfl, rfl⟩
      refine j_w ([.inr (9, [_, _, _, _, _]), z_ia 20 _, z_ia 20 _, .inr (11, [_]), z_ia 7 _], z_no) rfl ?_
      refine j_pop dX4_reckon_44 rfl ?_
      refine j_goto (tgt := 62) dX4_reckon_45 (by decide) ?_
      refine j_iload dX4_reckon_62 rfl ?_
      refine j_iret dX4_reckon_64 rfl rfl ?_ (Nat.le_of_ble_eq_true rfl) (Nat.le_of_ble_eq_true rfl)
      exact ⟨rfl, rfl, _, rfl, _, _, _, _, hm, rfl⟩
  · refine j_sipush (v := (-1001)) dX4_reckon_25 (by decide) ?_
    refine j_iret dX4_reckon_28 rfl rfl ?_ (Nat.le_of_ble_eq_true rfl) (Nat.le_of_ble_eq_true rfl)
    exact ⟨rfl, rfl, _, rfl, _, _, _, _, hm, rfl⟩
set_option maxRecDepth 100000 in
set_option maxHeartbeats 8000000 in
theorem c_X4_reckonPresent (hl : l.stackTraces = false) (f g c : Nat → Int32) (m so : Int32) (p q x : Int32) (hm : z_m20 m): z_CF G l mX4_reckonPresent 14 0 0 [.inr (9, [.int so, .ref 1, .ref 2, .ref 3, .int m]), z_ia 20 f, z_ia 20 g, .inr (11, [.ref 4]), z_ia 7 c] [.ref 0, .int p, .int q, .int x] (fun v L => ∃ y : Int32, v = some (.int y) ∧ ∃ (f' g' c' : Nat → Int32) (m' : Int32), z_m20 m' ∧ L = [.inr (9, [.int so, .ref 1, .ref 2, .ref 3, .int m']), z_ia 20 f', z_ia 20 g', .inr (11, [.ref 4]), z_ia 7 c']) := by
  refine z_body hl (by decide) rfl (Nat.le_of_ble_eq_true rfl) ?_
  show z_J G l mX4_reckonPresent (z_SF 14 0 0 [.inr (9, [.int so, .ref 1, .ref 2, .ref 3, .int m]), z_ia 20 f, z_ia 20 g, .inr (11, [.ref 4]), z_ia 7 c] (fun v L => ∃ y : Int32, v = some (.int y) ∧ ∃ (f' g' c' : Nat → Int32) (m' : Int32), z_m20 m' ∧ L = [.inr (9, [.int so, .ref 1, .ref 2, .ref 3, .int m']), z_ia 20 f', z_ia 20 g', .inr (11, [.ref 4]), z_ia 7 c'])) 0 [(0, _), (1, _), (2, _), (3, _)] [] _ 0 0
  refine j_aload_n dX4_reckonPresent_0 rfl rfl ?_
  refine j_iload_n dX4_reckonPresent_1 rfl ?_
  refine j_callV (q := (RX4, TX4, 5)) dX4_reckonPresent_2 kX4_look lX4_37 inX4_look seX4_look rfl rfl (z_frame [0, 1, 2, 3, 4] rfl (by decide) (Nat.le_of_ble_eq_true rfl) (c_X4_look hl _ _ _ _ _ _)) (Nat.le_of_ble_eq_true rfl) ⟨(Nat.le_of_ble_eq_true rfl), (Nat.le_of_ble_eq_true rfl)⟩ rfl (Nat.le_of_ble_eq_true rfl) rfl rfl (fun _ _ h => h.elim) ?_
  rintro _ _ ⟨_, _, ⟨_, rfl, rfl⟩, rfl, rfl⟩
  refine j_w ([.inr (9, [_, _, _, _, _]), z_ia 20 _, z_ia 20 _, .inr (11, [_]), z_ia 7 _], z_no) rfl ?_
  refine j_sipush (v := (-1000)) dX4_reckonPresent_5 (by decide) ?_
  refine j_icmp_ne (tgt := 17) dX4_reckonPresent_8 (by decide) (fun c_8 => ?_) (fun c_8 => ?_)
  · refine j_aload_n dX4_reckonPresent_17 rfl rfl ?_
    refine j_iload_n dX4_reckonPresent_18 rfl ?_
    refine j_iload_n dX4_reckonPresent_19 rfl ?_
    refine j_iload_n dX4_reckonPresent_20 rfl ?_
    refine j_callV (q := (RX4, TX4, 5)) dX4_reckonPresent_21 kX4_reckon lX4_66 inX4_reckon seX4_reckon rfl rfl (z_frame [0, 1, 2, 3, 4] rfl (by decide) (Nat.le_of_ble_eq_true rfl) (c_X4_reckon hl _ _ _ _ _ _ _ _ hm)) (Nat.le_of_ble_eq_true rfl) ⟨(Nat.le_of_ble_eq_true rfl), (Nat.le_of_ble_eq_true rfl)⟩ rfl (Nat.le_of_ble_eq_true rfl) rfl rfl (fun _ _ h => h.elim) ?_
    rintro _ _ ⟨_, _, ⟨_, rfl, _, _, _, _, hm, rfl⟩, rfl, rfl⟩
    refine j_w ([.inr (9, [_, _, _, _, _]), z_ia 20 _, z_ia 20 _, .inr (11, [_]), z_ia 7 _], z_no) rfl ?_
    refine j_iret dX4_reckonPresent_24 rfl rfl ?_ (Nat.le_of_ble_eq_true rfl) (Nat.le_of_ble_eq_true rfl)
    exact ⟨rfl, rfl, _, rfl, _, _, _, _, hm, rfl⟩
  · refine j_sipush (v := (-1000)) dX4_reckonPresent_11 (by decide) ?_
    refine j_goto (tgt := 24) dX4_reckonPresent_14 (by decide) ?_
    refine j_iret dX4_reckonPresent_24 rfl rfl ?_ (Nat.le_of_ble_eq_true rfl) (Nat.le_of_ble_eq_true rfl)
    exact ⟨rfl, rfl, _, rfl, _, _, _, _, hm, rfl⟩
set_option maxRecDepth 100000 in
set_option maxHeartbeats 8000000 in
theorem c_X4_join (hl : l.stackTraces = false) (f g c : Nat → Int32) (m so : Int32) (p q x : Int32) (hm : z_m20 m): z_CF G l mX4_join 14 0 0 [.inr (9, [.int so, .ref 1, .ref 2, .ref 3, .int m]), z_ia 20 f, z_ia 20 g, .inr (11, [.ref 4]), z_ia 7 c] [.ref 0, .int p, .int q, .int x] (fun v L => ∃ y : Int32, v = some (.int y) ∧ ∃ (f' g' c' : Nat → Int32) (m' : Int32), z_m20 m' ∧ L = [.inr (9, [.int so, .ref 1, .ref 2, .ref 3, .int m']), z_ia 20 f', z_ia 20 g', .inr (11, [.ref 4]), z_ia 7 c']) := by
  refine z_body hl (by decide) rfl (Nat.le_of_ble_eq_true rfl) ?_
  show z_J G l mX4_join (z_SF 14 0 0 [.inr (9, [.int so, .ref 1, .ref 2, .ref 3, .int m]), z_ia 20 f, z_ia 20 g, .inr (11, [.ref 4]), z_ia 7 c] (fun v L => ∃ y : Int32, v = some (.int y) ∧ ∃ (f' g' c' : Nat → Int32) (m' : Int32), z_m20 m' ∧ L = [.inr (9, [.int so, .ref 1, .ref 2, .ref 3, .int m']), z_ia 20 f', z_ia 20 g', .inr (11, [.ref 4]), z_ia 7 c'])) 0 [(0, _), (1, _), (2, _), (3, _)] [] _ 0 0
  refine j_aload_n dX4_join_0 rfl rfl ?_
  refine j_iload_n dX4_join_1 rfl ?_
  refine j_callV (q := (RX4, TX4, 5)) dX4_join_2 kX4_look lX4_37 inX4_look seX4_look rfl rfl (z_frame [0, 1, 2, 3, 4] rfl (by decide) (Nat.le_of_ble_eq_true rfl) (c_X4_look hl _ _ _ _ _ _)) (Nat.le_of_ble_eq_true rfl) ⟨(Nat.le_of_ble_eq_true rfl), (Nat.le_of_ble_eq_true rfl)⟩ rfl (Nat.le_of_ble_eq_true rfl) rfl rfl (fun _ _ h => h.elim) ?_
  rintro _ _ ⟨_, _, ⟨_, rfl, rfl⟩, rfl, rfl⟩
  refine j_w ([.inr (9, [_, _, _, _, _]), z_ia 20 _, z_ia 20 _, .inr (11, [_]), z_ia 7 _], z_no) rfl ?_
  refine j_sipush (v := (-1000)) dX4_join_5 (by decide) ?_
  refine j_icmp_eq (tgt := 19) dX4_join_8 (by decide) (fun c_8 => ?_) (fun c_8 => ?_)
  · refine j_aload_n dX4_join_19 rfl rfl ?_
    refine j_iload_n dX4_join_20 rfl ?_
    refine j_iload_n dX4_join_21 rfl ?_
    refine j_callV (q := (RX4, TX4, 5)) dX4_join_22 kX4_store lX4_62 inX4_store seX4_store rfl rfl (z_frame [0, 1, 2, 3, 4] rfl (by decide) (Nat.le_of_ble_eq_true rfl) (c_X4_store hl _ _ _ _ _ _ _ hm)) (Nat.le_of_ble_eq_true rfl) ⟨(Nat.le_of_ble_eq_true rfl), (Nat.le_of_ble_eq_true rfl)⟩ rfl (Nat.le_of_ble_eq_true rfl) rfl rfl (fun _ _ h => h.elim) ?_
    rintro _ _ ⟨_, _, ⟨_, rfl, _, _, _, _, hm, rfl⟩, rfl, rfl⟩
    refine j_w ([.inr (9, [_, _, _, _, _]), z_ia 20 _, z_ia 20 _, .inr (11, [_]), z_ia 7 _], z_no) rfl ?_
    refine j_pop dX4_join_25 rfl ?_
    refine j_iload_n dX4_join_26 rfl ?_
    refine j_iret dX4_join_27 rfl rfl ?_ (Nat.le_of_ble_eq_true rfl) (Nat.le_of_ble_eq_true rfl)
    exact ⟨rfl, rfl, _, rfl, _, _, _, _, hm, rfl⟩
  · refine j_aload_n dX4_join_11 rfl rfl ?_
    refine j_iload_n dX4_join_12 rfl ?_
    refine j_iload_n dX4_join_13 rfl ?_
    refine j_iload_n dX4_join_14 rfl ?_
    refine j_callV (q := (RX4, TX4, 5)) dX4_join_15 kX4_reckon lX4_66 inX4_reckon seX4_reckon rfl rfl (z_frame [0, 1, 2, 3, 4] rfl (by decide) (Nat.le_of_ble_eq_true rfl) (c_X4_reckon hl _ _ _ _ _ _ _ _ hm)) (Nat.le_of_ble_eq_true rfl) ⟨(Nat.le_of_ble_eq_true rfl), (Nat.le_of_ble_eq_true rfl)⟩ rfl (Nat.le_of_ble_eq_true rfl) rfl rfl (fun _ _ h => h.elim) ?_
    rintro _ _ ⟨_, _, ⟨_, rfl, _, _, _, _, hm, rfl⟩, rfl, rfl⟩
    refine j_w ([.inr (9, [_, _, _, _, _]), z_ia 20 _, z_ia 20 _, .inr (11, [_]), z_ia 7 _], z_no) rfl ?_
    refine j_iret dX4_join_18 rfl rfl ?_ (Nat.le_of_ble_eq_true rfl) (Nat.le_of_ble_eq_true rfl)
    exact ⟨rfl, rfl, _, rfl, _, _, _, _, hm, rfl⟩
set_option maxRecDepth 100000 in
set_option maxHeartbeats 8000000 in
theorem c_X2_isMore (hl : l.stackTraces = false) (k u p m fx : Int32) (f c : Nat → Int32) : z_CF G l mX2_isMore 10 0 0 [.inr (7, [.ref 3, .int k, .int u, .ref 1, .int p]), .inr (6, [.ref 2, .ref 3, .int m, .int fx]), z_ia 12 f, .inr (11, [.ref 4]), z_ia 7 c] [.ref 0] (fun v L => (∃ b : Bool, v = some (.int (z_bi b))) ∧ L = [.inr (7, [.ref 3, .int k, .int u, .ref 1, .int p]), .inr (6, [.ref 2, .ref 3, .int m, .int fx]), z_ia 12 f, .inr (11, [.ref 4]), z_ia 7 c]) := by
  refine z_body hl (by decide) rfl (Nat.le_of_ble_eq_true rfl) ?_
  show z_J G l mX2_isMore (z_SF 10 0 0 [.inr (7, [.ref 3, .int k, .int u, .ref 1, .int p]), .inr (6, [.ref 2, .ref 3, .int m, .int fx]), z_ia 12 f, .inr (11, [.ref 4]), z_ia 7 c] (fun v L => (∃ b : Bool, v = some (.int (z_bi b))) ∧ L = [.inr (7, [.ref 3, .int k, .int u, .ref 1, .int p]), .inr (6, [.ref 2, .ref 3, .int m, .int fx]), z_ia 12 f, .inr (11, [.ref 4]), z_ia 7 c])) 0 [(0, _)] [] _ 0 0
  refine j_aload_n dX2_isMore_0 rfl rfl ?_
  refine j_getf dX2_isMore_1 fX2_21 rfl rfl ?_
  refine j_aload_n dX2_isMore_4 rfl rfl ?_
  refine j_getf dX2_isMore_5 fX2_15 rfl rfl ?_
  refine j_getf dX2_isMore_8 fX2_25 rfl rfl ?_
  refine j_icmp_ge (tgt := 18) dX2_isMore_11 (by decide) (fun c_11 => ?_) (fun c_11 => ?_)
  · refine j_iconst (v := 0) dX2_isMore_18 (by decide) ?_
    refine j_iret dX2_isMore_19 rfl rfl ?_ (Nat.le_of_ble_eq_true rfl) (Nat.le_of_ble_eq_true rfl)
    first | exact ⟨rfl, rfl, ⟨true, rfl⟩, rfl⟩ | exact ⟨rfl, rfl, ⟨false, rfl⟩, rfl⟩
  · refine j_iconst (v := 1) dX2_isMore_14 (by decide) ?_
    refine j_goto (tgt := 19) dX2_isMore_15 (by decide) ?_
    refine j_iret dX2_isMore_19 rfl rfl ?_ (Nat.le_of_ble_eq_true rfl) (Nat.le_of_ble_eq_true rfl)
    first | exact ⟨rfl, rfl, ⟨true, rfl⟩, rfl⟩ | exact ⟨rfl, rfl, ⟨false, rfl⟩, rfl⟩
set_option maxRecDepth 100000 in
set_option maxHeartbeats 8000000 in
theorem c_X2_next (hl : l.stackTraces = false) (k u p m fx : Int32) (f c : Nat → Int32) : z_CF G l mX2_next 12 0 0 [.inr (7, [.ref 3, .int k, .int u, .ref 1, .int p]), .inr (6, [.ref 2, .ref 3, .int m, .int fx]), z_ia 12 f, .inr (11, [.ref 4]), z_ia 7 c] [.ref 0] (fun v L => ∃ (x u' p' : Int32), v = some (.int x) ∧ L = [.inr (7, [.ref 3, .int k, .int u', .ref 1, .int p']), .inr (6, [.ref 2, .ref 3, .int m, .int fx]), z_ia 12 f, .inr (11, [.ref 4]), z_ia 7 c]) := by
  refine z_body hl (by decide) rfl (Nat.le_of_ble_eq_true rfl) ?_
  show z_J G l mX2_next (z_SF 12 0 0 [.inr (7, [.ref 3, .int k, .int u, .ref 1, .int p]), .inr (6, [.ref 2, .ref 3, .int m, .int fx]), z_ia 12 f, .inr (11, [.ref 4]), z_ia 7 c] (fun v L => ∃ (x u' p' : Int32), v = some (.int x) ∧ L = [.inr (7, [.ref 3, .int k, .int u', .ref 1, .int p']), .inr (6, [.ref 2, .ref 3, .int m, .int fx]), z_ia 12 f, .inr (11, [.ref 4]), z_ia 7 c])) 0 [(0, _)] [] _ 0 0
  refine j_aload_n dX2_next_0 rfl rfl ?_
  refine j_aload_n dX2_next_1 rfl rfl ?_
  refine j_getf dX2_next_2 fX2_15 rfl rfl ?_
  refine j_aload_n dX2_next_5 rfl rfl ?_
  refine j_getf dX2_next_6 fX2_21 rfl rfl ?_
  refine j_callV (q := (RX1, TX1, 4)) dX2_next_9 kX1_valueAt lX2_28 inX1_valueAt seX1_valueAt rfl rfl (z_frame [1, 2, 3, 4] rfl (by decide) (Nat.le_of_ble_eq_true rfl) (c_X1_valueAt hl _ _ _ _ _)) (Nat.le_of_ble_eq_true rfl) ⟨(Nat.le_of_ble_eq_true rfl), (Nat.le_of_ble_eq_true rfl)⟩ rfl (Nat.le_of_ble_eq_true rfl) rfl rfl (fun _ _ h => h.elim) ?_
  rintro _ _ ⟨_, _, ⟨_, rfl, rfl⟩, rfl, rfl⟩
  refine j_w ([.inr (7, [_, _, _, _, _]), .inr (6, [_, _, _, _]), z_ia 12 _, .inr (11, [_]), z_ia 7 _], z_no) rfl ?_
  refine j_put (w' := ([.inr (7, [_, _, _, _, _]), .inr (6, [_, _, _, _]), z_ia 12 _, .inr (11, [_]), z_ia 7 _], z_no)) dX2_next_12 fX2_32 tX2_2 rfl ⟨rfl, rfl⟩ rfl ?_
  refine j_aload_n dX2_next_15 rfl rfl ?_
  refine j_dup dX2_next_16 rfl ?_
  refine j_getf dX2_next_17 fX2_21 rfl rfl ?_
  refine j_iconst (v := 1) dX2_next_20 (by decide) ?_
  refine j_iadd dX2_next_21 ?_
  refine j_put (w' := ([.inr (7, [_, _, _, _, _]), .inr (6, [_, _, _, _]), z_ia 12 _, .inr (11, [_]), z_ia 7 _], z_no)) dX2_next_22 fX2_21 tX2_4 rfl ⟨rfl, rfl⟩ rfl ?_
  refine j_aload_n dX2_next_25 rfl rfl ?_
  refine j_getf dX2_next_26 fX2_32 rfl rfl ?_
  refine j_iret dX2_next_29 rfl rfl ?_ (Nat.le_of_ble_eq_true rfl) (Nat.le_of_ble_eq_true rfl)
  exact ⟨rfl, rfl, _, _, _, rfl, rfl⟩
set_option maxRecDepth 100000 in
set_option maxHeartbeats 8000000 in
theorem c_X2_takeAway (hl : l.stackTraces = false) (k u p m fx : Int32) (f c : Nat → Int32) : z_CF G l mX2_takeAway 13 0 0 [.inr (7, [.ref 3, .int k, .int u, .ref 1, .int p]), .inr (6, [.ref 2, .ref 3, .int m, .int fx]), z_ia 12 f, .inr (11, [.ref 4]), z_ia 7 c] [.ref 0] (fun v L => (∃ b : Bool, v = some (.int (z_bi b))) ∧ ∃ (p' m' : Int32) (f' c' : Nat → Int32), L = [.inr (7, [.ref 3, .int k, .int u, .ref 1, .int p']), .inr (6, [.ref 2, .ref 3, .int m', .int fx]), z_ia 12 f', .inr (11, [.ref 4]), z_ia 7 c']) := by
  refine z_body hl (by decide) rfl (Nat.le_of_ble_eq_true rfl) ?_
  show z_J G l mX2_takeAway (z_SF 13 0 0 [.inr (7, [.ref 3, .int k, .int u, .ref 1, .int p]), .inr (6, [.ref 2, .ref 3, .int m, .int fx]), z_ia 12 f, .inr (11, [.ref 4]), z_ia 7 c] (fun v L => (∃ b : Bool, v = some (.int (z_bi b))) ∧ ∃ (p' m' : Int32) (f' c' : Nat → Int32), L = [.inr (7, [.ref 3, .int k, .int u, .ref 1, .int p']), .inr (6, [.ref 2, .ref 3, .int m', .int fx]), z_ia 12 f', .inr (11, [.ref 4]), z_ia 7 c'])) 0 [(0, _)] [] _ 0 0
  refine j_aload_n dX2_takeAway_0 rfl rfl ?_
  refine j_getf dX2_takeAway_1 fX2_15 rfl rfl ?_
  refine j_getf dX2_takeAway_4 fX2_35 rfl rfl ?_
  refine j_if_eq (tgt := 12) dX2_takeAway_7 (by decide) (fun c_7 => ?_) (fun c_7 => ?_)
  · refine j_aload_n dX2_takeAway_12 rfl rfl ?_
    refine j_getf dX2_takeAway_13 fX2_39 rfl rfl ?_
    refine j_iconst (v := 4) dX2_takeAway_16 (by decide) ?_
    refine j_callV (q := (RX6, TX6, 1)) dX2_takeAway_17 kX6_add lX2_40 inX6_add seX6_add rfl rfl (z_frame [3, 4] rfl (by decide) (Nat.le_of_ble_eq_true rfl) (c_X6_add hl _ _)) (Nat.le_of_ble_eq_true rfl) ⟨(Nat.le_of_ble_eq_true rfl), (Nat.le_of_ble_eq_true rfl)⟩ rfl (Nat.le_of_ble_eq_true rfl) rfl rfl (fun _ _ h => h.elim) ?_
    rintro _ _ ⟨_, _, ⟨rfl, _, rfl⟩, rfl, rfl⟩
    refine j_w ([.inr (7, [_, _, _, _, _]), .inr (6, [_, _, _, _]), z_ia 12 _, .inr (11, [_]), z_ia 7 _], z_no) rfl ?_
    refine j_aload_n dX2_takeAway_20 rfl rfl ?_
    refine j_dup dX2_takeAway_21 rfl ?_
    refine j_getf dX2_takeAway_22 fX2_21 rfl rfl ?_
    refine j_iconst (v := 1) dX2_takeAway_25 (by decide) ?_
    refine j_isub dX2_takeAway_26 ?_
    refine j_put (w' := ([.inr (7, [_, _, _, _, _]), .inr (6, [_, _, _, _]), z_ia 12 _, .inr (11, [_]), z_ia 7 _], z_no)) dX2_takeAway_27 fX2_21 tX2_4 rfl ⟨rfl, rfl⟩ rfl ?_
    refine j_aload_n dX2_takeAway_30 rfl rfl ?_
    refine j_getf dX2_takeAway_31 fX2_15 rfl rfl ?_
    refine j_aload_n dX2_takeAway_34 rfl rfl ?_
    refine j_getf dX2_takeAway_35 fX2_21 rfl rfl ?_
    refine j_callV (q := (RX1, TX1, 4)) dX2_takeAway_38 kX1_takeOut lX2_50 inX1_takeOut seX1_takeOut rfl rfl (z_frame [1, 2, 3, 4] rfl (by decide) (Nat.le_of_ble_eq_true rfl) (c_X1_takeOut hl _ _ _ _ _)) (Nat.le_of_ble_eq_true rfl) ⟨(Nat.le_of_ble_eq_true rfl), (Nat.le_of_ble_eq_true rfl)⟩ rfl (Nat.le_of_ble_eq_true rfl) rfl rfl (fun _ _ h => h.elim) ?_
    rintro _ _ ⟨_, _, ⟨rfl, _, _, rfl⟩, rfl, rfl⟩
    refine j_w ([.inr (7, [_, _, _, _, _]), .inr (6, [_, _, _, _]), z_ia 12 _, .inr (11, [_]), z_ia 7 _], z_no) rfl ?_
    refine j_iconst (v := 1) dX2_takeAway_41 (by decide) ?_
    refine j_iret dX2_takeAway_42 rfl rfl ?_ (Nat.le_of_ble_eq_true rfl) (Nat.le_of_ble_eq_true rfl)
    exact ⟨rfl, rfl, ⟨true, rfl⟩, _, _, _, _, rfl⟩
  · refine j_iconst (v := 0) dX2_takeAway_10 (by decide) ?_
    refine j_iret dX2_takeAway_11 rfl rfl ?_ (Nat.le_of_ble_eq_true rfl) (Nat.le_of_ble_eq_true rfl)
    exact ⟨rfl, rfl, ⟨false, rfl⟩, _, _, _, _, rfl⟩
set_option maxRecDepth 100000 in
set_option maxHeartbeats 8000000 in
theorem c_X7_ask_X2 (hl : l.stackTraces = false) (k u p m fx : Int32) (f c : Nat → Int32) : z_CF G l mX7_ask 13 0 0 [.inr (7, [.ref 3, .int k, .int u, .ref 1, .int p]), .inr (6, [.ref 2, .ref 3, .int m, .int fx]), z_ia 12 f, .inr (11, [.ref 4]), z_ia 7 c] [.ref 0] (fun v L => (∃ b : Bool, v = some (.int (z_bi b))) ∧ ∃ c' : Nat → Int32, L = [.inr (7, [.ref 3, .int k, .int u, .ref 1, .int p]), .inr (6, [.ref 2, .ref 3, .int m, .int fx]), z_ia 12 f, .inr (11, [.ref 4]), z_ia 7 c']) := by
  refine z_body hl (by decide) rfl (Nat.le_of_ble_eq_true rfl) ?_
  show z_J G l mX7_ask (z_SF 13 0 0 [.inr (7, [.ref 3, .int k, .int u, .ref 1, .int p]), .inr (6, [.ref 2, .ref 3, .int m, .int fx]), z_ia 12 f, .inr (11, [.ref 4]), z_ia 7 c] (fun v L => (∃ b : Bool, v = some (.int (z_bi b))) ∧ ∃ c' : Nat → Int32, L = [.inr (7, [.ref 3, .int k, .int u, .ref 1, .int p]), .inr (6, [.ref 2, .ref 3, .int m, .int fx]), z_ia 12 f, .inr (11, [.ref 4]), z_ia 7 c'])) 0 [(0, _)] [] _ 0 0
  refine j_aload_n dX7_ask_0 rfl rfl ?_
  refine j_getf dX7_ask_1 fX7_9_X2 rfl rfl ?_
  refine j_iconst (v := 1) dX7_ask_4 (by decide) ?_
  refine j_callV (q := (RX6, TX6, 1)) dX7_ask_5 kX6_add lX7_15 inX6_add seX6_add rfl rfl (z_frame [3, 4] rfl (by decide) (Nat.le_of_ble_eq_true rfl) (c_X6_add hl _ _)) (Nat.le_of_ble_eq_true rfl) ⟨(Nat.le_of_ble_eq_true rfl), (Nat.le_of_ble_eq_true rfl)⟩ rfl (Nat.le_of_ble_eq_true rfl) rfl rfl (fun _ _ h => h.elim) ?_
  rintro _ _ ⟨_, _, ⟨rfl, _, rfl⟩, rfl, rfl⟩
  refine j_w ([.inr (7, [_, _, _, _, _]), .inr (6, [_, _, _, _]), z_ia 12 _, .inr (11, [_]), z_ia 7 _], z_no) rfl ?_
  refine j_aload_n dX7_ask_8 rfl rfl ?_
  refine j_callU (q := (RX2, TX2, 5)) dX7_ask_9 kX2_isMore cuX7_21_X2 rfl rfl (z_frame [0, 1, 2, 3, 4] rfl (by decide) (Nat.le_of_ble_eq_true rfl) (c_X2_isMore hl _ _ _ _ _ _ _)) (Nat.le_of_ble_eq_true rfl) ⟨(Nat.le_of_ble_eq_true rfl), (Nat.le_of_ble_eq_true rfl)⟩ rfl (Nat.le_of_ble_eq_true rfl) rfl rfl (fun _ _ h => h.elim) ?_
  rintro _ _ ⟨_, _, ⟨⟨b, rfl⟩, rfl⟩, rfl, rfl⟩
  refine j_w ([.inr (7, [_, _, _, _, _]), .inr (6, [_, _, _, _]), z_ia 12 _, .inr (11, [_]), z_ia 7 _], z_no) rfl ?_
  refine j_iret dX7_ask_12 rfl (z_bn _) ?_ (Nat.le_of_ble_eq_true rfl) (Nat.le_of_ble_eq_true rfl)
  exact ⟨rfl, rfl, ⟨_, rfl⟩, _, rfl⟩
set_option maxRecDepth 100000 in
set_option maxHeartbeats 8000000 in
theorem c_X7_give_X2 (hl : l.stackTraces = false) (k u p m fx : Int32) (f c : Nat → Int32) : z_CF G l mX7_give 13 0 0 [.inr (7, [.ref 3, .int k, .int u, .ref 1, .int p]), .inr (6, [.ref 2, .ref 3, .int m, .int fx]), z_ia 12 f, .inr (11, [.ref 4]), z_ia 7 c] [.ref 0] (fun v L => ∃ x : Int32, v = some (.int x) ∧ ∃ (k' u' p' : Int32) (c' : Nat → Int32), L = [.inr (7, [.ref 3, .int k', .int u', .ref 1, .int p']), .inr (6, [.ref 2, .ref 3, .int m, .int fx]), z_ia 12 f, .inr (11, [.ref 4]), z_ia 7 c']) := by
  refine z_body hl (by decide) rfl (Nat.le_of_ble_eq_true rfl) ?_
  show z_J G l mX7_give (z_SF 13 0 0 [.inr (7, [.ref 3, .int k, .int u, .ref 1, .int p]), .inr (6, [.ref 2, .ref 3, .int m, .int fx]), z_ia 12 f, .inr (11, [.ref 4]), z_ia 7 c] (fun v L => ∃ x : Int32, v = some (.int x) ∧ ∃ (k' u' p' : Int32) (c' : Nat → Int32), L = [.inr (7, [.ref 3, .int k', .int u', .ref 1, .int p']), .inr (6, [.ref 2, .ref 3, .int m, .int fx]), z_ia 12 f, .inr (11, [.ref 4]), z_ia 7 c'])) 0 [(0, _)] [] _ 0 0
  refine j_aload_n dX7_give_0 rfl rfl ?_
  refine j_getf dX7_give_1 fX7_9_X2 rfl rfl ?_
  refine j_iconst (v := 2) dX7_give_4 (by decide) ?_
  refine j_callV (q := (RX6, TX6, 1)) dX7_give_5 kX6_add lX7_15 inX6_add seX6_add rfl rfl (z_frame [3, 4] rfl (by decide) (Nat.le_of_ble_eq_true rfl) (c_X6_add hl _ _)) (Nat.le_of_ble_eq_true rfl) ⟨(Nat.le_of_ble_eq_true rfl), (Nat.le_of_ble_eq_true rfl)⟩ rfl (Nat.le_of_ble_eq_true rfl) rfl rfl (fun _ _ h => h.elim) ?_
  rintro _ _ ⟨_, _, ⟨rfl, _, rfl⟩, rfl, rfl⟩
  refine j_w ([.inr (7, [_, _, _, _, _]), .inr (6, [_, _, _, _]), z_ia 12 _, .inr (11, [_]), z_ia 7 _], z_no) rfl ?_
  refine j_aload_n dX7_give_8 rfl rfl ?_
  refine j_callU (q := (RX2, TX2, 5)) dX7_give_9 kX2_next cuX7_25_X2 rfl rfl (z_frame [0, 1, 2, 3, 4] rfl (by decide) (Nat.le_of_ble_eq_true rfl) (c_X2_next hl _ _ _ _ _ _ _)) (Nat.le_of_ble_eq_true rfl) ⟨(Nat.le_of_ble_eq_true rfl), (Nat.le_of_ble_eq_true rfl)⟩ rfl (Nat.le_of_ble_eq_true rfl) rfl rfl (fun _ _ h => h.elim) ?_
  rintro _ _ ⟨_, _, ⟨_, _, _, rfl, rfl⟩, rfl, rfl⟩
  refine j_w ([.inr (7, [_, _, _, _, _]), .inr (6, [_, _, _, _]), z_ia 12 _, .inr (11, [_]), z_ia 7 _], z_no) rfl ?_
  refine j_iret dX7_give_12 rfl rfl ?_ (Nat.le_of_ble_eq_true rfl) (Nat.le_of_ble_eq_true rfl)
  exact ⟨rfl, rfl, _, rfl, _, _, _, _, rfl⟩
end ZL3
end ZM2
section ZM3
section ZL4
variable {G : z_G} {l : Launch}
set_option maxRecDepth 100000 in
set_option maxHeartbeats 8000000 in
theorem c_X6_init (hl : l.stackTraces = false)  : z_CN G l mX6_init 10 1 7 1 [.inr (11, [.null])] [.ref 0] (fun v L => v = none ∧ ∃ c : Nat → Int32, L = [.inr (11, [.ref 1]), z_ia 7 c]) := by
  refine z_body hl (by decide) rfl (Nat.le_of_ble_eq_true rfl) ?_
  show z_J G l mX6_init (z_SN 10 1 7 1 [.inr (11, [.null])] (fun v L => v = none ∧ ∃ c : Nat → Int32, L = [.inr (11, [.ref 1]), z_ia 7 c])) 0 [(0, _)] [] _ 0 0
  refine j_aload_n dX6_init_0 rfl rfl ?_
  refine j_objI dX6_init_1 oX6_3 z_oi1 z_oi2 (Nat.le_of_ble_eq_true rfl) (Nat.le_of_ble_eq_true rfl) ?_
  refine j_aload_n dX6_init_4 rfl rfl ?_
  refine j_bipush (v := 7) dX6_init_5 (by decide) ?_
  refine j_newa (kd := 0) (N := 7) (w' := ([.inr (11, [_]), _], z_no)) (n := 1) dX6_init_7 rfl rfl arc_int ⟨rfl, fun _ _ h => h⟩ (by decide) rfl (by decide) rfl (z_al_l rfl rfl) (Nat.le_of_ble_eq_true rfl) (Nat.le_of_ble_eq_true rfl) ?_
  refine j_putF (w' := ([.inr (11, [_]), _], z_no)) dX6_init_9 fX6_9 tX6_0 rfl (z_dc rfl rfl (z_w 103 ((lwg_1 58).trans (by decide +kernel)) (by decide +kernel))) rfl (Or.inr ⟨_, rfl⟩) rfl ?_
  refine j_vret dX6_init_12 rfl ?_ (Nat.le_of_ble_eq_true rfl) (Nat.le_of_ble_eq_true rfl)
  exact ⟨rfl, (Nat.le_of_ble_eq_true rfl), rfl, _, rfl⟩
set_option maxRecDepth 100000 in
set_option maxHeartbeats 8000000 in
theorem c_X0_init (hl : l.stackTraces = false)  : z_CN G l mX0_init 11 1 10 1 [.inr (5, [.null, .int 0, .int 0, .int 0, .int 0, .int 0])] [.ref 0] (fun v L => v = none ∧ ∃ f : Nat → Int32, L = [.inr (5, [.ref 1, .int 0, .int 0, .int 0, .int (-1), .int (-1000)]), z_ia 10 f]) := by
  refine z_body hl (by decide) rfl (Nat.le_of_ble_eq_true rfl) ?_
  show z_J G l mX0_init (z_SN 11 1 10 1 [.inr (5, [.null, .int 0, .int 0, .int 0, .int 0, .int 0])] (fun v L => v = none ∧ ∃ f : Nat → Int32, L = [.inr (5, [.ref 1, .int 0, .int 0, .int 0, .int (-1), .int (-1000)]), z_ia 10 f])) 0 [(0, _)] [] _ 0 0
  refine j_aload_n dX0_init_0 rfl rfl ?_
  refine j_objI dX0_init_1 oX0_3 z_oi1 z_oi2 (Nat.le_of_ble_eq_true rfl) (Nat.le_of_ble_eq_true rfl) ?_
  refine j_aload_n dX0_init_4 rfl rfl ?_
  refine j_bipush (v := 10) dX0_init_5 (by decide) ?_
  refine j_newa (kd := 0) (N := 10) (w' := ([.inr (5, [_, _, _, _, _, _]), _], z_no)) (n := 1) dX0_init_7 rfl rfl arc_int ⟨rfl, fun _ _ h => h⟩ (by decide) rfl (by decide) rfl (z_al_l rfl rfl) (Nat.le_of_ble_eq_true rfl) (Nat.le_of_ble_eq_true rfl) ?_
  refine j_putF (w' := ([.inr (5, [_, _, _, _, _, _]), _], z_no)) dX0_init_9 fX0_9 tX0_0 rfl (z_dc rfl rfl (z_w 163 ((lwg_1 118).trans (by decide +kernel)) (by decide +kernel))) rfl (Or.inr ⟨_, rfl⟩) rfl ?_
  refine j_aload_n dX0_init_12 rfl rfl ?_
  refine j_iconst (v := (-1)) dX0_init_13 (by decide) ?_
  refine j_put (w' := ([.inr (5, [_, _, _, _, _, _]), _], z_no)) dX0_init_14 fX0_15 tX0_4 rfl ⟨rfl, rfl⟩ rfl ?_
  refine j_aload_n dX0_init_17 rfl rfl ?_
  refine j_sipush (v := (-1000)) dX0_init_18 (by decide) ?_
  refine j_put (w' := ([.inr (5, [_, _, _, _, _, _]), _], z_no)) dX0_init_21 fX0_19 tX0_5 rfl ⟨rfl, rfl⟩ rfl ?_
  refine j_vret dX0_init_24 rfl ?_ (Nat.le_of_ble_eq_true rfl) (Nat.le_of_ble_eq_true rfl)
  exact ⟨rfl, (Nat.le_of_ble_eq_true rfl), rfl, _, rfl⟩
set_option maxRecDepth 100000 in
set_option maxHeartbeats 8000000 in
theorem c_X7_init_X2 (hl : l.stackTraces = false) (k u p : Int32) (c : Nat → Int32) : z_CF G l mX7_init 12 0 0 [.inr (7, [.null, .int k, .int u, .null, .int p]), .inr (11, [.ref 2]), z_ia 7 c] [.ref 0, .ref 1] (fun v L => v = none ∧ ∃ c' : Nat → Int32, L = [.inr (7, [.ref 1, .int k, .int u, .null, .int p]), .inr (11, [.ref 2]), z_ia 7 c']) := by
  refine z_body hl (by decide) rfl (Nat.le_of_ble_eq_true rfl) ?_
  show z_J G l mX7_init (z_SF 12 0 0 [.inr (7, [.null, .int k, .int u, .null, .int p]), .inr (11, [.ref 2]), z_ia 7 c] (fun v L => v = none ∧ ∃ c' : Nat → Int32, L = [.inr (7, [.ref 1, .int k, .int u, .null, .int p]), .inr (11, [.ref 2]), z_ia 7 c'])) 0 [(0, _), (1, _)] [] _ 0 0
  refine j_aload_n dX7_init_0 rfl rfl ?_
  refine j_objI dX7_init_1 oX7_3 z_oi1 z_oi2 (Nat.le_of_ble_eq_true rfl) (Nat.le_of_ble_eq_true rfl) ?_
  refine j_aload_n dX7_init_4 rfl rfl ?_
  refine j_aload_n dX7_init_5 rfl rfl ?_
  refine j_putF (w' := ([.inr (7, [_, _, _, _, _]), .inr (11, [_]), z_ia 7 _], z_no)) dX7_init_6 fX7_9_X2 tX2_0 rfl (z_dc rfl rfl (z_w 254 ((lwg_1 209).trans (by decide +kernel)) (by decide +kernel))) rfl (Or.inl ⟨_, rfl⟩) rfl ?_
  refine j_aload_n dX7_init_9 rfl rfl ?_
  refine j_iconst (v := 0) dX7_init_10 (by decide) ?_
  refine j_callV (q := (RX6, TX6, 1)) dX7_init_11 kX6_add lX7_15 inX6_add seX6_add rfl rfl (z_frame [1, 2] rfl (by decide) (Nat.le_of_ble_eq_true rfl) (c_X6_add hl _ _)) (Nat.le_of_ble_eq_true rfl) ⟨(Nat.le_of_ble_eq_true rfl), (Nat.le_of_ble_eq_true rfl)⟩ rfl (Nat.le_of_ble_eq_true rfl) rfl rfl (fun _ _ h => h.elim) ?_
  rintro _ _ ⟨_, _, ⟨rfl, _, rfl⟩, rfl, rfl⟩
  refine j_w ([.inr (7, [_, _, _, _, _]), .inr (11, [_]), z_ia 7 _], z_no) rfl ?_
  refine j_vret dX7_init_14 rfl ?_ (Nat.le_of_ble_eq_true rfl) (Nat.le_of_ble_eq_true rfl)
  exact ⟨rfl, rfl, rfl, _, rfl⟩
set_option maxRecDepth 100000 in
set_option maxHeartbeats 8000000 in
theorem c_X7_init_X3 (hl : l.stackTraces = false) (k u to by9 a : Int32) (c : Nat → Int32) : z_CF G l mX7_init 12 0 0 [.inr (8, [.null, .int k, .int u, .int to, .int by9, .int a]), .inr (11, [.ref 2]), z_ia 7 c] [.ref 0, .ref 1] (fun v L => v = none ∧ ∃ c' : Nat → Int32, L = [.inr (8, [.ref 1, .int k, .int u, .int to, .int by9, .int a]), .inr (11, [.ref 2]), z_ia 7 c']) := by
  refine z_body hl (by decide) rfl (Nat.le_of_ble_eq_true rfl) ?_
  show z_J G l mX7_init (z_SF 12 0 0 [.inr (8, [.null, .int k, .int u, .int to, .int by9, .int a]), .inr (11, [.ref 2]), z_ia 7 c] (fun v L => v = none ∧ ∃ c' : Nat → Int32, L = [.inr (8, [.ref 1, .int k, .int u, .int to, .int by9, .int a]), .inr (11, [.ref 2]), z_ia 7 c'])) 0 [(0, _), (1, _)] [] _ 0 0
  refine j_aload_n dX7_init_0 rfl rfl ?_
  refine j_objI dX7_init_1 oX7_3 z_oi1 z_oi2 (Nat.le_of_ble_eq_true rfl) (Nat.le_of_ble_eq_true rfl) ?_
  refine j_aload_n dX7_init_4 rfl rfl ?_
  refine j_aload_n dX7_init_5 rfl rfl ?_
  refine j_putF (w' := ([.inr (8, [_, _, _, _, _, _]), .inr (11, [_]), z_ia 7 _], z_no)) dX7_init_6 fX7_9_X3 tX3_0 rfl (z_dc rfl rfl (z_w 254 ((lwg_1 209).trans (by decide +kernel)) (by decide +kernel))) rfl (Or.inl ⟨_, rfl⟩) rfl ?_
  refine j_aload_n dX7_init_9 rfl rfl ?_
  refine j_iconst (v := 0) dX7_init_10 (by decide) ?_
  refine j_callV (q := (RX6, TX6, 1)) dX7_init_11 kX6_add lX7_15 inX6_add seX6_add rfl rfl (z_frame [1, 2] rfl (by decide) (Nat.le_of_ble_eq_true rfl) (c_X6_add hl _ _)) (Nat.le_of_ble_eq_true rfl) ⟨(Nat.le_of_ble_eq_true rfl), (Nat.le_of_ble_eq_true rfl)⟩ rfl (Nat.le_of_ble_eq_true rfl) rfl rfl (fun _ _ h => h.elim) ?_
  rintro _ _ ⟨_, _, ⟨rfl, _, rfl⟩, rfl, rfl⟩
  refine j_w ([.inr (8, [_, _, _, _, _, _]), .inr (11, [_]), z_ia 7 _], z_no) rfl ?_
  refine j_vret dX7_init_14 rfl ?_ (Nat.le_of_ble_eq_true rfl) (Nat.le_of_ble_eq_true rfl)
  exact ⟨rfl, rfl, rfl, _, rfl⟩
set_option maxRecDepth 100000 in
set_option maxHeartbeats 8000000 in
theorem c_X2_init (hl : l.stackTraces = false) (m fx : Int32) (f c : Nat → Int32) : z_CF G l mX2_init 13 0 0 [.inr (7, [.null, .int 0, .int 0, .null, .int 0]), .inr (6, [.ref 2, .ref 3, .int m, .int fx]), z_ia 12 f, .inr (11, [.ref 4]), z_ia 7 c] [.ref 0, .ref 1] (fun v L => v = none ∧ ∃ c' : Nat → Int32, L = [.inr (7, [.ref 3, .int 0, .int 0, .ref 1, .int 0]), .inr (6, [.ref 2, .ref 3, .int m, .int fx]), z_ia 12 f, .inr (11, [.ref 4]), z_ia 7 c']) := by
  refine z_body hl (by decide) rfl (Nat.le_of_ble_eq_true rfl) ?_
  show z_J G l mX2_init (z_SF 13 0 0 [.inr (7, [.null, .int 0, .int 0, .null, .int 0]), .inr (6, [.ref 2, .ref 3, .int m, .int fx]), z_ia 12 f, .inr (11, [.ref 4]), z_ia 7 c] (fun v L => v = none ∧ ∃ c' : Nat → Int32, L = [.inr (7, [.ref 3, .int 0, .int 0, .ref 1, .int 0]), .inr (6, [.ref 2, .ref 3, .int m, .int fx]), z_ia 12 f, .inr (11, [.ref 4]), z_ia 7 c'])) 0 [(0, _), (1, _)] [] _ 0 0
  refine j_aload_n dX2_init_0 rfl rfl ?_
  refine j_aload_n dX2_init_1 rfl rfl ?_
  refine j_getf dX2_init_2 fX2_3 rfl rfl ?_
  refine j_callI dX2_init_5 kX7_init rfl lX2_9 inX7_init rfl (z_frame [0, 3, 4] rfl (by decide) (Nat.le_of_ble_eq_true rfl) (c_X7_init_X2 hl _ _ _ _)) (Nat.le_of_ble_eq_true rfl) ⟨(Nat.le_of_ble_eq_true rfl), (Nat.le_of_ble_eq_true rfl)⟩ rfl (Nat.le_of_ble_eq_true rfl) rfl rfl (fun _ _ h => h.elim) ?_
  rintro _ _ ⟨_, _, ⟨rfl, _, rfl⟩, rfl, rfl⟩
  refine j_w ([.inr (7, [_, _, _, _, _]), .inr (6, [_, _, _, _]), z_ia 12 _, .inr (11, [_]), z_ia 7 _], z_no) rfl ?_
  refine j_aload_n dX2_init_8 rfl rfl ?_
  refine j_aload_n dX2_init_9 rfl rfl ?_
  refine j_putF (w' := ([.inr (7, [_, _, _, _, _]), .inr (6, [_, _, _, _]), z_ia 12 _, .inr (11, [_]), z_ia 7 _], z_no)) dX2_init_10 fX2_15 tX2_3 rfl (z_dc rfl rfl (z_w 252 ((lwg_1 207).trans (by decide +kernel)) (by decide +kernel))) rfl (Or.inl ⟨_, rfl⟩) rfl ?_
  refine j_vret dX2_init_13 rfl ?_ (Nat.le_of_ble_eq_true rfl) (Nat.le_of_ble_eq_true rfl)
  exact ⟨rfl, rfl, rfl, _, rfl⟩
set_option maxRecDepth 100000 in
set_option maxHeartbeats 8000000 in
theorem c_X3_init (hl : l.stackTraces = false) (a b e : Int32) : z_CN G l mX3_init 13 2 8 2 [.inr (8, [.null, .int 0, .int 0, .int 0, .int 0, .int 0])] [.ref 0, .int a, .int b, .int e] (fun v L => v = none ∧ ∃ c : Nat → Int32, L = [.inr (8, [.ref 1, .int 0, .int 0, .int b, .int e, .int a]), .inr (11, [.ref 2]), z_ia 7 c]) := by
  refine z_body hl (by decide) rfl (Nat.le_of_ble_eq_true rfl) ?_
  show z_J G l mX3_init (z_SN 13 2 8 2 [.inr (8, [.null, .int 0, .int 0, .int 0, .int 0, .int 0])] (fun v L => v = none ∧ ∃ c : Nat → Int32, L = [.inr (8, [.ref 1, .int 0, .int 0, .int b, .int e, .int a]), .inr (11, [.ref 2]), z_ia 7 c])) 0 [(0, _), (1, _), (2, _), (3, _)] [] _ 0 0
  refine j_aload_n dX3_init_0 rfl rfl ?_
  refine j_new (w' := ([.inr (8, [_, _, _, _, _, _]), _], z_no)) (n := 1) dX3_init_1 nX3_1 rfl (z_al_l rfl rfl) (Nat.le_of_ble_eq_true rfl) (Nat.le_of_ble_eq_true rfl) ?_
  refine j_dup dX3_init_4 rfl ?_
  refine j_callIN dX3_init_5 kX6_init rfl lX3_3 inX6_init rfl (z_frameN [1] rfl (by decide) (Nat.le_of_ble_eq_true rfl) (Nat.le_of_ble_eq_true rfl) (c_X6_init hl)) (Nat.le_of_ble_eq_true rfl) ⟨(Nat.le_of_ble_eq_true rfl), (Nat.le_of_ble_eq_true rfl)⟩ rfl (Nat.le_of_ble_eq_true rfl) rfl rfl (fun _ _ h => h.elim) ?_
  rintro _ _ ⟨_, _, ⟨rfl, _, rfl⟩, rfl, rfl⟩
  refine j_w ([.inr (8, [_, _, _, _, _, _]), _, _], z_no) rfl ?_
  refine j_callI dX3_init_8 kX7_init rfl lX3_7 inX7_init rfl (z_frame [0, 1, 2] rfl (by decide) (Nat.le_of_ble_eq_true rfl) (c_X7_init_X3 hl _ _ _ _ _ _)) (Nat.le_of_ble_eq_true rfl) ⟨(Nat.le_of_ble_eq_true rfl), (Nat.le_of_ble_eq_true rfl)⟩ rfl (Nat.le_of_ble_eq_true rfl) rfl rfl (fun _ _ h => h.elim) ?_
  rintro _ _ ⟨_, _, ⟨rfl, _, rfl⟩, rfl, rfl⟩
  refine j_w ([.inr (8, [_, _, _, _, _, _]), .inr (11, [_]), z_ia 7 _], z_no) rfl ?_
  refine j_aload_n dX3_init_11 rfl rfl ?_
  refine j_iload_n dX3_init_12 rfl ?_
  refine j_put (w' := ([.inr (8, [_, _, _, _, _, _]), .inr (11, [_]), z_ia 7 _], z_no)) dX3_init_13 fX3_12 tX3_5 rfl ⟨rfl, rfl⟩ rfl ?_
  refine j_aload_n dX3_init_16 rfl rfl ?_
  refine j_iload_n dX3_init_17 rfl ?_
  refine j_putF (w' := ([.inr (8, [_, _, _, _, _, _]), .inr (11, [_]), z_ia 7 _], z_no)) dX3_init_18 fX3_18 tX3_3 rfl (z_dc rfl rfl (z_w 1161 ((lwg_5 156).trans (by decide +kernel)) (by decide +kernel))) rfl ⟨rfl, rfl⟩ rfl ?_
  refine j_aload_n dX3_init_21 rfl rfl ?_
  refine j_iload_n dX3_init_22 rfl ?_
  refine j_putF (w' := ([.inr (8, [_, _, _, _, _, _]), .inr (11, [_]), z_ia 7 _], z_no)) dX3_init_23 fX3_21 tX3_4 rfl (z_dc rfl rfl (z_w 1162 ((lwg_5 157).trans (by decide +kernel)) (by decide +kernel))) rfl ⟨rfl, rfl⟩ rfl ?_
  refine j_vret dX3_init_26 rfl ?_ (Nat.le_of_ble_eq_true rfl) (Nat.le_of_ble_eq_true rfl)
  exact ⟨rfl, (Nat.le_of_ble_eq_true rfl), rfl, _, rfl⟩
set_option maxRecDepth 100000 in
set_option maxHeartbeats 8000000 in
theorem c_X8_takeEach (hl : l.stackTraces = false) (k u p m fx : Int32) (f c : Nat → Int32) (r t : Int32) : z_CF G l mX8_takeEach 15 0 0 [.inr (7, [.ref 3, .int k, .int u, .ref 1, .int p]), .inr (6, [.ref 2, .ref 3, .int m, .int fx]), z_ia 12 f, .inr (11, [.ref 4]), z_ia 7 c] [.ref 0, .int r, .int t] (fun v L => (∃ x : Int32, v = some (.int x)) ∧ ∃ (k' u' p' : Int32) (c' : Nat → Int32) (f' : Nat → Int32) (m' : Int32), L = [.inr (7, [.ref 3, .int k', .int u', .ref 1, .int p']), .inr (6, [.ref 2, .ref 3, .int m', .int fx]), z_ia 12 f', .inr (11, [.ref 4]), z_ia 7 c']) := by
  refine z_body hl (by decide) rfl (Nat.le_of_ble_eq_true rfl) ?_
  show z_J G l mX8_takeEach (z_SF 15 0 0 [.inr (7, [.ref 3, .int k, .int u, .ref 1, .int p]), .inr (6, [.ref 2, .ref 3, .int m, .int fx]), z_ia 12 f, .inr (11, [.ref 4]), z_ia 7 c] (fun v L => (∃ x : Int32, v = some (.int x)) ∧ ∃ (k' u' p' : Int32) (c' : Nat → Int32) (f' : Nat → Int32) (m' : Int32), L = [.inr (7, [.ref 3, .int k', .int u', .ref 1, .int p']), .inr (6, [.ref 2, .ref 3, .int m', .int fx]), z_ia 12 f', .inr (11, [.ref 4]), z_ia 7 c'])) 0 [(0, _), (1, _), (2, _)] [] _ 0 0
  refine j_iconst (v := 0) dX8_takeEach_0 (by decide) ?_
  refine j_istore_n (lo' := [(3, _), (0, _), (1, _), (2, _)]) dX8_takeEach_1 (by decide) rfl ?_
  refine j_iconst (v := 0) dX8_takeEach_2 (by decide) ?_
  refine j_istore (lo' := [(4, _), (3, _), (0, _), (1, _), (2, _)]) dX8_takeEach_3 (by decide) rfl ?_
  have loop : ∀ (n j : Nat) (q : Int32) (k' u' p' : Int32) (c' : Nat → Int32) (f' : Nat → Int32) (m' : Int32), j ≤ 1000 → 1000 < j + n → z_J G l mX8_takeEach (z_SF 15 0 0 [.inr (7, [.ref 3, .int k, .int u, .ref 1, .int p]), .inr (6, [.ref 2, .ref 3, .int m, .int fx]), z_ia 12 f, .inr (11, [.ref 4]), z_ia 7 c] (fun v L => (∃ x : Int32, v = some (.int x)) ∧ ∃ (k' u' p' : Int32) (c' : Nat → Int32) (f' : Nat → Int32) (m' : Int32), L = [.inr (7, [.ref 3, .int k', .int u', .ref 1, .int p']), .inr (6, [.ref 2, .ref 3, .int m', .int fx]), z_ia 12 f', .inr (11, [.ref 4]), z_ia 7 c'])) 5 [(0, .ref 0), (1, .int r), (2, .int t), (3, .int q), (4, .int (nI j))] [] ([.inr (7, [.ref 3, .int k', .int u', .ref 1, .int p']), .inr (6, [.ref 2, .ref 3, .int m', .int fx]), z_ia 12 f', .inr (11, [.ref 4]), z_ia 7 c'], z_no) 0 0 := by
    intro n
    induction n with
    | zero => intro j q k' u' p' c' f' m' h1 h2 ; exact absurd h2 (by omega)
    | succ n ih =>
      intro j q k' u' p' c' f' m' h1 h2
      refine j_iload dX8_takeEach_5 rfl ?_
      refine j_sipush (v := 1000) dX8_takeEach_7 (by decide) ?_
      refine j_icmp_ge (tgt := 70) dX8_takeEach_10 (by decide) (fun c_10 => ?_) (fun c_10 => ?_)
      · refine j_iload_n dX8_takeEach_70 rfl ?_
        refine j_iret dX8_takeEach_71 rfl rfl ?_ (Nat.le_of_ble_eq_true rfl) (Nat.le_of_ble_eq_true rfl)
        exact ⟨rfl, rfl, ⟨_, rfl⟩, _, _, _, _, _, _, rfl⟩
      · have hj : j < 1000 := z_ltZ 1000 rfl c_10 (by omega) (by decide)
        refine j_aload_n dX8_takeEach_13 rfl rfl ?_
        refine j_callU (q := (RX2, TX2, 5)) dX8_takeEach_14 kX7_ask cuX8_335_X2 rfl rfl (z_frame [0, 1, 2, 3, 4] rfl (by decide) (Nat.le_of_ble_eq_true rfl) (c_X7_ask_X2 hl _ _ _ _ _ _ _)) (Nat.le_of_ble_eq_true rfl) ⟨(Nat.le_of_ble_eq_true rfl), (Nat.le_of_ble_eq_true rfl)⟩ rfl (Nat.le_of_ble_eq_true rfl) rfl rfl (fun _ _ h => h.elim) ?_
        rintro _ _ ⟨_, _, ⟨⟨b, rfl⟩, _, rfl⟩, rfl, rfl⟩
        refine j_w ([.inr (7, [_, _, _, _, _]), .inr (6, [_, _, _, _]), z_ia 12 _, .inr (11, [_]), z_ia 7 _], z_no) rfl ?_
        refine j_if_eq (tgt := 70) dX8_takeEach_17 (by decide) (fun c_17 => ?_) (fun c_17 => ?_)
        · refine j_iload_n dX8_takeEach_70 rfl ?_
          refine j_iret dX8_takeEach_71 rfl rfl ?_ (Nat.le_of_ble_eq_true rfl) (Nat.le_of_ble_eq_true rfl)
          exact ⟨rfl, rfl, ⟨_, rfl⟩, _, _, _, _, _, _, rfl⟩
        · refine j_iload_n dX8_takeEach_20 rfl ?_
          refine j_aload_n dX8_takeEach_21 rfl rfl ?_
          refine j_callU (q := (RX2, TX2, 5)) dX8_takeEach_22 kX7_give cuX8_336_X2 rfl rfl (z_frame [0, 1, 2, 3, 4] rfl (by decide) (Nat.le_of_ble_eq_true rfl) (c_X7_give_X2 hl _ _ _ _ _ _ _)) (Nat.le_of_ble_eq_true rfl) ⟨(Nat.le_of_ble_eq_true rfl), (Nat.le_of_ble_eq_true rfl)⟩ rfl (Nat.le_of_ble_eq_true rfl) rfl rfl (fun _ _ h => h.elim) ?_
          rintro _ _ ⟨_, _, ⟨_, rfl, _, _, _, _, rfl⟩, rfl, rfl⟩
          refine j_w ([.inr (7, [_, _, _, _, _]), .inr (6, [_, _, _, _]), z_ia 12 _, .inr (11, [_]), z_ia 7 _], z_no) rfl ?_
          refine j_iload_n dX8_takeEach_25 rfl ?_
          refine j_callS dX8_takeEach_26 kX8_testTells lX8_241 stX8_testTells (c_X8_testTells hl _ _ _ _) (Nat.le_of_ble_eq_true rfl) ⟨(Nat.le_of_ble_eq_true rfl), (Nat.le_of_ble_eq_true rfl)⟩ rfl (Nat.le_of_ble_eq_true rfl) rfl rfl (fun _ _ h => h.elim) ?_
          rintro _ _ ⟨⟨_, rfl⟩, rfl⟩
          refine j_istore (lo' := [(5, _), (0, _), (1, _), (2, _), (3, _), (4, _)]) dX8_takeEach_29 (by decide) rfl ?_
          refine j_iload dX8_takeEach_31 rfl ?_
          refine j_sipush (v := (-1001)) dX8_takeEach_33 (by decide) ?_
          refine j_icmp_eq (tgt := 52) dX8_takeEach_36 (by decide) (fun c_36 => ?_) (fun c_36 => ?_)
          · refine j_sipush (v := (-1001)) dX8_takeEach_52 (by decide) ?_
            refine j_iret dX8_takeEach_55 rfl rfl ?_ (Nat.le_of_ble_eq_true rfl) (Nat.le_of_ble_eq_true rfl)
            exact ⟨rfl, rfl, ⟨_, rfl⟩, _, _, _, _, _, _, rfl⟩
          · refine j_iload dX8_takeEach_39 rfl ?_
            refine j_iconst (v := 1) dX8_takeEach_41 (by decide) ?_
            refine j_icmp_ne (tgt := 56) dX8_takeEach_42 (by decide) (fun c_42 => ?_) (fun c_42 => ?_)
            · refine j_iload dX8_takeEach_56 rfl ?_
              refine j_iconst (v := 1) dX8_takeEach_58 (by decide) ?_
              refine j_icmp_ne (tgt := 64) dX8_takeEach_59 (by decide) (fun c_59 => ?_) (fun c_59 => ?_)
              · refine j_iinc (lo' := [(4, _), (5, _), (0, _), (1, _), (2, _), (3, _)]) dX8_takeEach_64 rfl (z_inc _) (by decide) rfl ?_
                refine j_goto (tgt := 5) dX8_takeEach_67 (by decide) ?_
                exact j_lo2 (ih (j + 1) _ _ _ _ _ _ _ (by omega) (by omega)) (z_q1 rfl (z_q1 rfl (z_q1 rfl (z_q1 rfl (z_q1 rfl z_q0)))))
              · refine j_iconst (v := 1) dX8_takeEach_62 (by decide) ?_
                refine j_istore_n (lo' := [(3, _), (5, _), (0, _), (1, _), (2, _), (4, _)]) dX8_takeEach_63 (by decide) rfl ?_
                refine j_iinc (lo' := [(4, _), (3, _), (5, _), (0, _), (1, _), (2, _)]) dX8_takeEach_64 rfl (z_inc _) (by decide) rfl ?_
                refine j_goto (tgt := 5) dX8_takeEach_67 (by decide) ?_
                exact j_lo2 (ih (j + 1) _ _ _ _ _ _ _ (by omega) (by omega)) (z_q1 rfl (z_q1 rfl (z_q1 rfl (z_q1 rfl (z_q1 rfl z_q0)))))
            · refine j_aload_n dX8_takeEach_45 rfl rfl ?_
              refine j_callV (q := (RX2, TX2, 5)) dX8_takeEach_46 kX2_takeAway lX8_337 inX2_takeAway seX2_takeAway rfl rfl (z_frame [0, 1, 2, 3, 4] rfl (by decide) (Nat.le_of_ble_eq_true rfl) (c_X2_takeAway hl _ _ _ _ _ _ _)) (Nat.le_of_ble_eq_true rfl) ⟨(Nat.le_of_ble_eq_true rfl), (Nat.le_of_ble_eq_true rfl)⟩ rfl (Nat.le_of_ble_eq_true rfl) rfl rfl (fun _ _ h => h.elim) ?_
              rintro _ _ ⟨_, _, ⟨⟨b, rfl⟩, _, _, _, _, rfl⟩, rfl, rfl⟩
              refine j_w ([.inr (7, [_, _, _, _, _]), .inr (6, [_, _, _, _]), z_ia 12 _, .inr (11, [_]), z_ia 7 _], z_no) rfl ?_
              refine j_if_ne (tgt := 56) dX8_takeEach_49 (by decide) (fun c_49 => ?_) (fun c_49 => ?_)
              · refine j_iload dX8_takeEach_56 rfl ?_
                refine j_iconst (v := 1) dX8_takeEach_58 (by decide) ?_
                refine j_icmp_ne (tgt := 64) dX8_takeEach_59 (by decide) (fun c_59 => ?_) (fun c_59 => ?_)
                · refine j_iinc (lo' := [(4, _), (5, _), (0, _), (1, _), (2, _), (3, _)]) dX8_takeEach_64 rfl (z_inc _) (by decide) rfl ?_
                  refine j_goto (tgt := 5) dX8_takeEach_67 (by decide) ?_
                  exact j_lo2 (ih (j + 1) _ _ _ _ _ _ _ (by omega) (by omega)) (z_q1 rfl (z_q1 rfl (z_q1 rfl (z_q1 rfl (z_q1 rfl z_q0)))))
                · refine j_iconst (v := 1) dX8_takeEach_62 (by decide) ?_
                  refine j_istore_n (lo' := [(3, _), (5, _), (0, _), (1, _), (2, _), (4, _)]) dX8_takeEach_63 (by decide) rfl ?_
                  refine j_iinc (lo' := [(4, _), (3, _), (5, _), (0, _), (1, _), (2, _)]) dX8_takeEach_64 rfl (z_inc _) (by decide) rfl ?_
                  refine j_goto (tgt := 5) dX8_takeEach_67 (by decide) ?_
                  exact j_lo2 (ih (j + 1) _ _ _ _ _ _ _ (by omega) (by omega)) (z_q1 rfl (z_q1 rfl (z_q1 rfl (z_q1 rfl (z_q1 rfl z_q0)))))
              · refine j_sipush (v := (-1001)) dX8_takeEach_52 (by decide) ?_
                refine j_iret dX8_takeEach_55 rfl rfl ?_ (Nat.le_of_ble_eq_true rfl) (Nat.le_of_ble_eq_true rfl)
                exact ⟨rfl, rfl, ⟨_, rfl⟩, _, _, _, _, _, _, rfl⟩
  exact j_lo2 (loop (1000 + 1) 0 _ _ _ _ _ _ _ (by omega) (by omega)) (z_q1 rfl (z_q1 rfl (z_q1 rfl (z_q1 rfl (z_q1 rfl z_q0)))))
set_option maxRecDepth 100000 in
set_option maxHeartbeats 8000000 in
theorem c_X8_isWhatIsLeft (hl : l.stackTraces = false) (m fx : Int32) (f c : Nat → Int32) (m2 fx2 : Int32) (f2 c2 : Nat → Int32) (t : Int32) : z_CF G l mX8_isWhatIsLeft 13 0 0 [.inr (6, [.ref 1, .ref 2, .int m, .int fx]), z_ia 12 f, .inr (11, [.ref 3]), z_ia 7 c, .inr (6, [.ref 5, .ref 6, .int m2, .int fx2]), z_ia 12 f2, .inr (11, [.ref 7]), z_ia 7 c2] [.ref 0, .ref 4, .int t] (fun v L => (∃ b : Bool, v = some (.int (z_bi b))) ∧ L = [.inr (6, [.ref 1, .ref 2, .int m, .int fx]), z_ia 12 f, .inr (11, [.ref 3]), z_ia 7 c, .inr (6, [.ref 5, .ref 6, .int m2, .int fx2]), z_ia 12 f2, .inr (11, [.ref 7]), z_ia 7 c2]) := by
  refine z_body hl (by decide) rfl (Nat.le_of_ble_eq_true rfl) ?_
  show z_J G l mX8_isWhatIsLeft (z_SF 13 0 0 [.inr (6, [.ref 1, .ref 2, .int m, .int fx]), z_ia 12 f, .inr (11, [.ref 3]), z_ia 7 c, .inr (6, [.ref 5, .ref 6, .int m2, .int fx2]), z_ia 12 f2, .inr (11, [.ref 7]), z_ia 7 c2] (fun v L => (∃ b : Bool, v = some (.int (z_bi b))) ∧ L = [.inr (6, [.ref 1, .ref 2, .int m, .int fx]), z_ia 12 f, .inr (11, [.ref 3]), z_ia 7 c, .inr (6, [.ref 5, .ref 6, .int m2, .int fx2]), z_ia 12 f2, .inr (11, [.ref 7]), z_ia 7 c2])) 0 [(0, _), (1, _), (2, _)] [] _ 0 0
  refine j_iconst (v := 0) dX8_isWhatIsLeft_0 (by decide) ?_
  refine j_istore_n (lo' := [(3, _), (0, _), (1, _), (2, _)]) dX8_isWhatIsLeft_1 (by decide) rfl ?_
  refine j_iconst (v := 0) dX8_isWhatIsLeft_2 (by decide) ?_
  refine j_istore (lo' := [(4, _), (3, _), (0, _), (1, _), (2, _)]) dX8_isWhatIsLeft_3 (by decide) rfl ?_
  have loop : ∀ (n : Nat) (p : Int32) (q : Int32), ((m2).toInt - (p).toInt).toNat < n → z_J G l mX8_isWhatIsLeft (z_SF 13 0 0 [.inr (6, [.ref 1, .ref 2, .int m, .int fx]), z_ia 12 f, .inr (11, [.ref 3]), z_ia 7 c, .inr (6, [.ref 5, .ref 6, .int m2, .int fx2]), z_ia 12 f2, .inr (11, [.ref 7]), z_ia 7 c2] (fun v L => (∃ b : Bool, v = some (.int (z_bi b))) ∧ L = [.inr (6, [.ref 1, .ref 2, .int m, .int fx]), z_ia 12 f, .inr (11, [.ref 3]), z_ia 7 c, .inr (6, [.ref 5, .ref 6, .int m2, .int fx2]), z_ia 12 f2, .inr (11, [.ref 7]), z_ia 7 c2])) 5 [(0, .ref 0), (1, .ref 4), (2, .int t), (3, .int q), (4, .int p)] [] ([.inr (6, [.ref 1, .ref 2, .int m, .int fx]), z_ia 12 f, .inr (11, [.ref 3]), z_ia 7 c, .inr (6, [.ref 5, .ref 6, .int m2, .int fx2]), z_ia 12 f2, .inr (11, [.ref 7]), z_ia 7 c2], z_no) 0 0 := by
    intro n
    induction n with
    | zero => intro p q h1; exact absurd h1 (Nat.not_lt_zero _)
    | succ n ih =>
      intro p q h1
      refine j_iload dX8_isWhatIsLeft_5 rfl ?_
      refine j_aload_n dX8_isWhatIsLeft_7 rfl rfl ?_
      refine j_getf dX8_isWhatIsLeft_8 fX8_68 rfl rfl ?_
      refine j_icmp_ge (tgt := 61) dX8_isWhatIsLeft_11 (by decide) (fun c_11 => ?_) (fun c_11 => ?_)
      · refine j_aload_n dX8_isWhatIsLeft_61 rfl rfl ?_
        refine j_getf dX8_isWhatIsLeft_62 fX8_68 rfl rfl ?_
        refine j_iload_n dX8_isWhatIsLeft_65 rfl ?_
        refine j_icmp_ne (tgt := 73) dX8_isWhatIsLeft_66 (by decide) (fun c_66 => ?_) (fun c_66 => ?_)
        · refine j_iconst (v := 0) dX8_isWhatIsLeft_73 (by decide) ?_
          refine j_iret dX8_isWhatIsLeft_74 rfl rfl ?_ (Nat.le_of_ble_eq_true rfl) (Nat.le_of_ble_eq_true rfl)
          first | exact ⟨rfl, rfl, ⟨true, rfl⟩, rfl⟩ | exact ⟨rfl, rfl, ⟨false, rfl⟩, rfl⟩
        · refine j_iconst (v := 1) dX8_isWhatIsLeft_69 (by decide) ?_
          refine j_goto (tgt := 74) dX8_isWhatIsLeft_70 (by decide) ?_
          refine j_iret dX8_isWhatIsLeft_74 rfl rfl ?_ (Nat.le_of_ble_eq_true rfl) (Nat.le_of_ble_eq_true rfl)
          first | exact ⟨rfl, rfl, ⟨true, rfl⟩, rfl⟩ | exact ⟨rfl, rfl, ⟨false, rfl⟩, rfl⟩
      · refine j_aload_n dX8_isWhatIsLeft_14 rfl rfl ?_
        refine j_iload dX8_isWhatIsLeft_15 rfl ?_
        refine j_callV (q := (RX1, TX1, 4)) dX8_isWhatIsLeft_17 kX1_valueAt lX8_203 inX1_valueAt seX1_valueAt rfl rfl (z_frame [4, 5, 6, 7] rfl (by decide) (Nat.le_of_ble_eq_true rfl) (c_X1_valueAt hl _ _ _ _ _)) (Nat.le_of_ble_eq_true rfl) ⟨(Nat.le_of_ble_eq_true rfl), (Nat.le_of_ble_eq_true rfl)⟩ rfl (Nat.le_of_ble_eq_true rfl) rfl rfl (fun _ _ h => h.elim) ?_
        rintro _ _ ⟨_, _, ⟨_, rfl, rfl⟩, rfl, rfl⟩
        refine j_w ([.inr (6, [_, _, _, _]), z_ia 12 _, .inr (11, [_]), z_ia 7 _, .inr (6, [_, _, _, _]), z_ia 12 _, .inr (11, [_]), z_ia 7 _], z_no) rfl ?_
        refine j_istore (lo' := [(5, _), (0, _), (1, _), (2, _), (3, _), (4, _)]) dX8_isWhatIsLeft_20 (by decide) rfl ?_
        refine j_iload_n dX8_isWhatIsLeft_22 rfl ?_
        refine j_iload dX8_isWhatIsLeft_23 rfl ?_
        refine j_iconst (v := 0) dX8_isWhatIsLeft_25 (by decide) ?_
        refine j_callS dX8_isWhatIsLeft_26 kX8_testTells lX8_241 stX8_testTells (c_X8_testTells hl _ _ _ _) (Nat.le_of_ble_eq_true rfl) ⟨(Nat.le_of_ble_eq_true rfl), (Nat.le_of_ble_eq_true rfl)⟩ rfl (Nat.le_of_ble_eq_true rfl) rfl rfl (fun _ _ h => h.elim) ?_
        rintro _ _ ⟨⟨_, rfl⟩, rfl⟩
        refine j_if_ne (tgt := 55) dX8_isWhatIsLeft_29 (by decide) (fun c_29 => ?_) (fun c_29 => ?_)
        · refine j_iinc (lo' := [(4, _), (5, _), (0, _), (1, _), (2, _), (3, _)]) dX8_isWhatIsLeft_55 rfl rfl (by decide) rfl ?_
          refine j_goto (tgt := 5) dX8_isWhatIsLeft_58 (by decide) ?_
          exact j_lo2 (ih _ _ (z_ms c_11 h1)) (z_q1 rfl (z_q1 rfl (z_q1 rfl (z_q1 rfl (z_q1 rfl z_q0)))))
        · refine j_aload_n dX8_isWhatIsLeft_32 rfl rfl ?_
          refine j_iload_n dX8_isWhatIsLeft_33 rfl ?_
          refine j_callV (q := (RX1, TX1, 4)) dX8_isWhatIsLeft_34 kX1_isPlace lX8_194 inX1_isPlace seX1_isPlace rfl rfl (z_frame [0, 1, 2, 3] rfl (by decide) (Nat.le_of_ble_eq_true rfl) (c_X1_isPlace hl _ _ _ _ _)) (Nat.le_of_ble_eq_true rfl) ⟨(Nat.le_of_ble_eq_true rfl), (Nat.le_of_ble_eq_true rfl)⟩ rfl (Nat.le_of_ble_eq_true rfl) rfl rfl (fun _ _ h => h.elim) ?_
          rintro _ _ ⟨_, _, ⟨b, rfl, rfl, hb⟩, rfl, rfl⟩
          refine j_w ([.inr (6, [_, _, _, _]), z_ia 12 _, .inr (11, [_]), z_ia 7 _, .inr (6, [_, _, _, _]), z_ia 12 _, .inr (11, [_]), z_ia 7 _], z_no) rfl ?_
          refine j_if_eq (tgt := 50) dX8_isWhatIsLeft_37 (by decide) (fun c_37 => ?_) (fun c_37 => ?_)
          · refine j_iconst (v := 0) dX8_isWhatIsLeft_50 (by decide) ?_
            refine j_iret dX8_isWhatIsLeft_51 rfl rfl ?_ (Nat.le_of_ble_eq_true rfl) (Nat.le_of_ble_eq_true rfl)
            first | exact ⟨rfl, rfl, ⟨true, rfl⟩, rfl⟩ | exact ⟨rfl, rfl, ⟨false, rfl⟩, rfl⟩
          · refine j_aload_n dX8_isWhatIsLeft_40 rfl rfl ?_
            refine j_iload_n dX8_isWhatIsLeft_41 rfl ?_
            refine j_callV (q := (RX1, TX1, 4)) dX8_isWhatIsLeft_42 kX1_valueAt lX8_203 inX1_valueAt seX1_valueAt rfl rfl (z_frame [0, 1, 2, 3] rfl (by decide) (Nat.le_of_ble_eq_true rfl) (c_X1_valueAt hl _ _ _ _ _)) (Nat.le_of_ble_eq_true rfl) ⟨(Nat.le_of_ble_eq_true rfl), (Nat.le_of_ble_eq_true rfl)⟩ rfl (Nat.le_of_ble_eq_true rfl) rfl rfl (fun _ _ h => h.elim) ?_
            rintro _ _ ⟨_, _, ⟨_, rfl, rfl⟩, rfl, rfl⟩
            refine j_w ([.inr (6, [_, _, _, _]), z_ia 12 _, .inr (11, [_]), z_ia 7 _, .inr (6, [_, _, _, _]), z_ia 12 _, .inr (11, [_]), z_ia 7 _], z_no) rfl ?_
            refine j_iload dX8_isWhatIsLeft_45 rfl ?_
            refine j_icmp_eq (tgt := 52) dX8_isWhatIsLeft_47 (by decide) (fun c_47 => ?_) (fun c_47 => ?_)
            · refine j_iinc (lo' := [(3, _), (5, _), (0, _), (1, _), (2, _), (4, _)]) dX8_isWhatIsLeft_52 rfl rfl (by decide) rfl ?_
              refine j_iinc (lo' := [(4, _), (3, _), (5, _), (0, _), (1, _), (2, _)]) dX8_isWhatIsLeft_55 rfl rfl (by decide) rfl ?_
              refine j_goto (tgt := 5) dX8_isWhatIsLeft_58 (by decide) ?_
              exact j_lo2 (ih _ _ (z_ms c_11 h1)) (z_q1 rfl (z_q1 rfl (z_q1 rfl (z_q1 rfl (z_q1 rfl z_q0)))))
            · refine j_iconst (v := 0) dX8_isWhatIsLeft_50 (by decide) ?_
              refine j_iret dX8_isWhatIsLeft_51 rfl rfl ?_ (Nat.le_of_ble_eq_true rfl) (Nat.le_of_ble_eq_true rfl)
              first | exact ⟨rfl, rfl, ⟨true, rfl⟩, rfl⟩ | exact ⟨rfl, rfl, ⟨false, rfl⟩, rfl⟩
  exact j_lo2 (loop _ _ _ (Nat.lt_succ_self _)) (z_q1 rfl (z_q1 rfl (z_q1 rfl (z_q1 rfl (z_q1 rfl z_q0)))))
set_option maxRecDepth 100000 in
set_option maxHeartbeats 8000000 in
theorem c_X8_mixedRow (hl : l.stackTraces = false) (m fx : Int32) (f c : Nat → Int32) (a : Int64) : z_CF G l mX8_mixedRow 12 0 0 [.inr (6, [.ref 1, .ref 2, .int m, .int fx]), z_ia 12 f, .inr (11, [.ref 3]), z_ia 7 c] [.long a, .ref 0] (fun v L => (∃ x : Int64, v = some (.long x)) ∧ L = [.inr (6, [.ref 1, .ref 2, .int m, .int fx]), z_ia 12 f, .inr (11, [.ref 3]), z_ia 7 c]) := by
  refine z_body hl (by decide) rfl (Nat.le_of_ble_eq_true rfl) ?_
  show z_J G l mX8_mixedRow (z_SF 12 0 0 [.inr (6, [.ref 1, .ref 2, .int m, .int fx]), z_ia 12 f, .inr (11, [.ref 3]), z_ia 7 c] (fun v L => (∃ x : Int64, v = some (.long x)) ∧ L = [.inr (6, [.ref 1, .ref 2, .int m, .int fx]), z_ia 12 f, .inr (11, [.ref 3]), z_ia 7 c])) 0 [(0, _), (2, _)] [] _ 0 0
  refine j_lload_n dX8_mixedRow_0 rfl ?_
  refine j_aload_n dX8_mixedRow_1 rfl rfl ?_
  refine j_getf dX8_mixedRow_2 fX8_68 rfl rfl ?_
  refine j_callS dX8_mixedRow_5 kX8_mixed lX8_277 stX8_mixed (c_X8_mixed hl _ _ _) (Nat.le_of_ble_eq_true rfl) ⟨(Nat.le_of_ble_eq_true rfl), (Nat.le_of_ble_eq_true rfl)⟩ rfl (Nat.le_of_ble_eq_true rfl) rfl rfl (fun _ _ h => h.elim) ?_
  rintro _ _ ⟨⟨_, rfl⟩, rfl⟩
  refine j_lstore_n (lo' := [(3, _), (0, _), (2, _)]) dX8_mixedRow_8 (by decide) rfl ?_
  refine j_iconst (v := 0) dX8_mixedRow_9 (by decide) ?_
  refine j_istore (lo' := [(5, _), (3, _), (0, _), (2, _)]) dX8_mixedRow_10 (by decide) rfl ?_
  have loop : ∀ (n : Nat) (p : Int32) (q : Int64), ((m).toInt - (p).toInt).toNat < n → z_J G l mX8_mixedRow (z_SF 12 0 0 [.inr (6, [.ref 1, .ref 2, .int m, .int fx]), z_ia 12 f, .inr (11, [.ref 3]), z_ia 7 c] (fun v L => (∃ x : Int64, v = some (.long x)) ∧ L = [.inr (6, [.ref 1, .ref 2, .int m, .int fx]), z_ia 12 f, .inr (11, [.ref 3]), z_ia 7 c])) 12 [(0, .long a), (2, .ref 0), (3, .long q), (5, .int p)] [] ([.inr (6, [.ref 1, .ref 2, .int m, .int fx]), z_ia 12 f, .inr (11, [.ref 3]), z_ia 7 c], z_no) 0 0 := by
    intro n
    induction n with
    | zero => intro p q h1; exact absurd h1 (Nat.not_lt_zero _)
    | succ n ih =>
      intro p q h1
      refine j_iload dX8_mixedRow_12 rfl ?_
      refine j_aload_n dX8_mixedRow_14 rfl rfl ?_
      refine j_getf dX8_mixedRow_15 fX8_68 rfl rfl ?_
      refine j_icmp_ge (tgt := 38) dX8_mixedRow_18 (by decide) (fun c_18 => ?_) (fun c_18 => ?_)
      · refine j_lload_n dX8_mixedRow_38 rfl ?_
        refine j_aload_n dX8_mixedRow_39 rfl rfl ?_
        refine j_getf dX8_mixedRow_40 fX8_79 rfl rfl ?_
        refine j_callS dX8_mixedRow_43 kX8_oneIf lX8_83 stX8_oneIf (c_X8_oneIf hl _ _) (Nat.le_of_ble_eq_true rfl) ⟨(Nat.le_of_ble_eq_true rfl), (Nat.le_of_ble_eq_true rfl)⟩ rfl (Nat.le_of_ble_eq_true rfl) rfl rfl (fun _ _ h => h.elim) ?_
        rintro _ _ ⟨⟨_, rfl⟩, rfl⟩
        refine j_callS dX8_mixedRow_46 kX8_mixed lX8_277 stX8_mixed (c_X8_mixed hl _ _ _) (Nat.le_of_ble_eq_true rfl) ⟨(Nat.le_of_ble_eq_true rfl), (Nat.le_of_ble_eq_true rfl)⟩ rfl (Nat.le_of_ble_eq_true rfl) rfl rfl (fun _ _ h => h.elim) ?_
        rintro _ _ ⟨⟨_, rfl⟩, rfl⟩
        refine j_lstore_n (lo' := [(3, _), (0, _), (2, _), (5, _)]) dX8_mixedRow_49 (by decide) rfl ?_
        refine j_iconst (v := 0) dX8_mixedRow_50 (by decide) ?_
        refine j_istore (lo' := [(5, _), (3, _), (0, _), (2, _)]) dX8_mixedRow_51 (by decide) rfl ?_
        have loop2 : ∀ (n j : Nat) (q : Int64), j ≤ 5 → 5 < j + n → z_J G l mX8_mixedRow (z_SF 12 0 0 [.inr (6, [.ref 1, .ref 2, .int m, .int fx]), z_ia 12 f, .inr (11, [.ref 3]), z_ia 7 c] (fun v L => (∃ x : Int64, v = some (.long x)) ∧ L = [.inr (6, [.ref 1, .ref 2, .int m, .int fx]), z_ia 12 f, .inr (11, [.ref 3]), z_ia 7 c])) 53 [(0, .long a), (2, .ref 0), (3, .long q), (5, .int (nI j))] [] ([.inr (6, [.ref 1, .ref 2, .int m, .int fx]), z_ia 12 f, .inr (11, [.ref 3]), z_ia 7 c], z_no) 0 0 := by
          intro n
          induction n with
          | zero => intro j q h1 h2 ; exact absurd h2 (by omega)
          | succ n ih =>
            intro j q h1 h2
            refine j_iload dX8_mixedRow_53 rfl ?_
            refine j_iconst (v := 4) dX8_mixedRow_55 (by decide) ?_
            refine j_icmp_gt (tgt := 79) dX8_mixedRow_56 (by decide) (fun c_56 => ?_) (fun c_56 => ?_)
            · refine j_lload_n dX8_mixedRow_79 rfl ?_
              refine j_lret dX8_mixedRow_80 rfl ?_ (Nat.le_of_ble_eq_true rfl) (Nat.le_of_ble_eq_true rfl)
              exact ⟨rfl, rfl, ⟨_, rfl⟩, rfl⟩
            · have hj : j ≤ 4 := z_leZ 4 rfl c_56 (by omega) (by decide)
              refine j_lload_n dX8_mixedRow_59 rfl ?_
              refine j_aload_n dX8_mixedRow_60 rfl rfl ?_
              refine j_getf dX8_mixedRow_61 fX8_214 rfl rfl ?_
              refine j_iload dX8_mixedRow_64 rfl ?_
              refine j_callV (q := (RX6, TX6, 1)) dX8_mixedRow_66 kX6_of lX8_218 inX6_of seX6_of rfl rfl (z_frame [2, 3] rfl (by decide) (Nat.le_of_ble_eq_true rfl) (c_X6_of hl _ _)) (Nat.le_of_ble_eq_true rfl) ⟨(Nat.le_of_ble_eq_true rfl), (Nat.le_of_ble_eq_true rfl)⟩ rfl (Nat.le_of_ble_eq_true rfl) rfl rfl (fun _ _ h => h.elim) ?_
              rintro _ _ ⟨_, _, ⟨_, rfl, rfl⟩, rfl, rfl⟩
              refine j_w ([.inr (6, [_, _, _, _]), z_ia 12 _, .inr (11, [_]), z_ia 7 _], z_no) rfl ?_
              refine j_callS dX8_mixedRow_69 kX8_mixed lX8_277 stX8_mixed (c_X8_mixed hl _ _ _) (Nat.le_of_ble_eq_true rfl) ⟨(Nat.le_of_ble_eq_true rfl), (Nat.le_of_ble_eq_true rfl)⟩ rfl (Nat.le_of_ble_eq_true rfl) rfl rfl (fun _ _ h => h.elim) ?_
              rintro _ _ ⟨⟨_, rfl⟩, rfl⟩
              refine j_lstore_n (lo' := [(3, _), (0, _), (2, _), (5, _)]) dX8_mixedRow_72 (by decide) rfl ?_
              refine j_iinc (lo' := [(5, _), (3, _), (0, _), (2, _)]) dX8_mixedRow_73 rfl (z_inc _) (by decide) rfl ?_
              refine j_goto (tgt := 53) dX8_mixedRow_76 (by decide) ?_
              exact j_lo2 (ih (j + 1) _ (by omega) (by omega)) (z_q1 rfl (z_q1 rfl (z_q1 rfl (z_q1 rfl z_q0))))
        exact j_lo2 (loop2 (5 + 1) 0 _ (by omega) (by omega)) (z_q1 rfl (z_q1 rfl (z_q1 rfl (z_q1 rfl z_q0))))
      · refine j_lload_n dX8_mixedRow_21 rfl ?_
        refine j_aload_n dX8_mixedRow_22 rfl rfl ?_
        refine j_iload dX8_mixedRow_23 rfl ?_
        refine j_callV (q := (RX1, TX1, 4)) dX8_mixedRow_25 kX1_valueAt lX8_203 inX1_valueAt seX1_valueAt rfl rfl (z_frame [0, 1, 2, 3] rfl (by decide) (Nat.le_of_ble_eq_true rfl) (c_X1_valueAt hl _ _ _ _ _)) (Nat.le_of_ble_eq_true rfl) ⟨(Nat.le_of_ble_eq_true rfl), (Nat.le_of_ble_eq_true rfl)⟩ rfl (Nat.le_of_ble_eq_true rfl) rfl rfl (fun _ _ h => h.elim) ?_
        rintro _ _ ⟨_, _, ⟨_, rfl, rfl⟩, rfl, rfl⟩
        refine j_w ([.inr (6, [_, _, _, _]), z_ia 12 _, .inr (11, [_]), z_ia 7 _], z_no) rfl ?_
        refine j_callS dX8_mixedRow_28 kX8_mixed lX8_277 stX8_mixed (c_X8_mixed hl _ _ _) (Nat.le_of_ble_eq_true rfl) ⟨(Nat.le_of_ble_eq_true rfl), (Nat.le_of_ble_eq_true rfl)⟩ rfl (Nat.le_of_ble_eq_true rfl) rfl rfl (fun _ _ h => h.elim) ?_
        rintro _ _ ⟨⟨_, rfl⟩, rfl⟩
        refine j_lstore_n (lo' := [(3, _), (0, _), (2, _), (5, _)]) dX8_mixedRow_31 (by decide) rfl ?_
        refine j_iinc (lo' := [(5, _), (3, _), (0, _), (2, _)]) dX8_mixedRow_32 rfl rfl (by decide) rfl ?_
        refine j_goto (tgt := 12) dX8_mixedRow_35 (by decide) ?_
        exact j_lo2 (ih _ _ (z_ms c_18 h1)) (z_q1 rfl (z_q1 rfl (z_q1 rfl (z_q1 rfl z_q0))))
  exact j_lo2 (loop _ _ _ (Nat.lt_succ_self _)) (z_q1 rfl (z_q1 rfl (z_q1 rfl (z_q1 rfl z_q0))))
set_option maxRecDepth 100000 in
set_option maxHeartbeats 8000000 in
theorem c_X8_mixedTable (hl : l.stackTraces = false) (f g c : Nat → Int32) (m so : Int32) (a : Int64) : z_CF G l mX8_mixedTable 12 0 0 [.inr (9, [.int so, .ref 1, .ref 2, .ref 3, .int m]), z_ia 20 f, z_ia 20 g, .inr (11, [.ref 4]), z_ia 7 c] [.long a, .ref 0] (fun v L => (∃ x : Int64, v = some (.long x)) ∧ L = [.inr (9, [.int so, .ref 1, .ref 2, .ref 3, .int m]), z_ia 20 f, z_ia 20 g, .inr (11, [.ref 4]), z_ia 7 c]) := by
  refine z_body hl (by decide) rfl (Nat.le_of_ble_eq_true rfl) ?_
  show z_J G l mX8_mixedTable (z_SF 12 0 0 [.inr (9, [.int so, .ref 1, .ref 2, .ref 3, .int m]), z_ia 20 f, z_ia 20 g, .inr (11, [.ref 4]), z_ia 7 c] (fun v L => (∃ x : Int64, v = some (.long x)) ∧ L = [.inr (9, [.int so, .ref 1, .ref 2, .ref 3, .int m]), z_ia 20 f, z_ia 20 g, .inr (11, [.ref 4]), z_ia 7 c])) 0 [(0, _), (2, _)] [] _ 0 0
  refine j_lload_n dX8_mixedTable_0 rfl ?_
  refine j_aload_n dX8_mixedTable_1 rfl rfl ?_
  refine j_getf dX8_mixedTable_2 fX8_165 rfl rfl ?_
  refine j_callS dX8_mixedTable_5 kX8_mixed lX8_277 stX8_mixed (c_X8_mixed hl _ _ _) (Nat.le_of_ble_eq_true rfl) ⟨(Nat.le_of_ble_eq_true rfl), (Nat.le_of_ble_eq_true rfl)⟩ rfl (Nat.le_of_ble_eq_true rfl) rfl rfl (fun _ _ h => h.elim) ?_
  rintro _ _ ⟨⟨_, rfl⟩, rfl⟩
  refine j_lstore_n (lo' := [(3, _), (0, _), (2, _)]) dX8_mixedTable_8 (by decide) rfl ?_
  refine j_iconst (v := 0) dX8_mixedTable_9 (by decide) ?_
  refine j_istore (lo' := [(5, _), (3, _), (0, _), (2, _)]) dX8_mixedTable_10 (by decide) rfl ?_
  have loop : ∀ (n : Nat) (p : Int32) (q : Int64), ((m).toInt - (p).toInt).toNat < n → z_J G l mX8_mixedTable (z_SF 12 0 0 [.inr (9, [.int so, .ref 1, .ref 2, .ref 3, .int m]), z_ia 20 f, z_ia 20 g, .inr (11, [.ref 4]), z_ia 7 c] (fun v L => (∃ x : Int64, v = some (.long x)) ∧ L = [.inr (9, [.int so, .ref 1, .ref 2, .ref 3, .int m]), z_ia 20 f, z_ia 20 g, .inr (11, [.ref 4]), z_ia 7 c])) 12 [(0, .long a), (2, .ref 0), (3, .long q), (5, .int p)] [] ([.inr (9, [.int so, .ref 1, .ref 2, .ref 3, .int m]), z_ia 20 f, z_ia 20 g, .inr (11, [.ref 4]), z_ia 7 c], z_no) 0 0 := by
    intro n
    induction n with
    | zero => intro p q h1; exact absurd h1 (Nat.not_lt_zero _)
    | succ n ih =>
      intro p q h1
      refine j_iload dX8_mixedTable_12 rfl ?_
      refine j_aload_n dX8_mixedTable_14 rfl rfl ?_
      refine j_getf dX8_mixedTable_15 fX8_165 rfl rfl ?_
      refine j_icmp_ge (tgt := 51) dX8_mixedTable_18 (by decide) (fun c_18 => ?_) (fun c_18 => ?_)
      · refine j_lload_n dX8_mixedTable_51 rfl ?_
        refine j_lret dX8_mixedTable_52 rfl ?_ (Nat.le_of_ble_eq_true rfl) (Nat.le_of_ble_eq_true rfl)
        exact ⟨rfl, rfl, ⟨_, rfl⟩, rfl⟩
      · refine j_aload_n dX8_mixedTable_21 rfl rfl ?_
        refine j_iload dX8_mixedTable_22 rfl ?_
        refine j_callV (q := (RX4, TX4, 5)) dX8_mixedTable_24 kX4_keyAt lX8_352 inX4_keyAt seX4_keyAt rfl rfl (z_frame [0, 1, 2, 3, 4] rfl (by decide) (Nat.le_of_ble_eq_true rfl) (c_X4_keyAt hl _ _ _ _ _ _)) (Nat.le_of_ble_eq_true rfl) ⟨(Nat.le_of_ble_eq_true rfl), (Nat.le_of_ble_eq_true rfl)⟩ rfl (Nat.le_of_ble_eq_true rfl) rfl rfl (fun _ _ h => h.elim) ?_
        rintro _ _ ⟨_, _, ⟨_, rfl, rfl⟩, rfl, rfl⟩
        refine j_w ([.inr (9, [_, _, _, _, _]), z_ia 20 _, z_ia 20 _, .inr (11, [_]), z_ia 7 _], z_no) rfl ?_
        refine j_istore (lo' := [(6, _), (0, _), (2, _), (3, _), (5, _)]) dX8_mixedTable_27 (by decide) rfl ?_
        refine j_lload_n dX8_mixedTable_29 rfl ?_
        refine j_iload dX8_mixedTable_30 rfl ?_
        refine j_callS dX8_mixedTable_32 kX8_mixed lX8_277 stX8_mixed (c_X8_mixed hl _ _ _) (Nat.le_of_ble_eq_true rfl) ⟨(Nat.le_of_ble_eq_true rfl), (Nat.le_of_ble_eq_true rfl)⟩ rfl (Nat.le_of_ble_eq_true rfl) rfl rfl (fun _ _ h => h.elim) ?_
        rintro _ _ ⟨⟨_, rfl⟩, rfl⟩
        refine j_aload_n dX8_mixedTable_35 rfl rfl ?_
        refine j_iload dX8_mixedTable_36 rfl ?_
        refine j_callV (q := (RX4, TX4, 5)) dX8_mixedTable_38 kX4_look lX8_137 inX4_look seX4_look rfl rfl (z_frame [0, 1, 2, 3, 4] rfl (by decide) (Nat.le_of_ble_eq_true rfl) (c_X4_look hl _ _ _ _ _ _)) (Nat.le_of_ble_eq_true rfl) ⟨(Nat.le_of_ble_eq_true rfl), (Nat.le_of_ble_eq_true rfl)⟩ rfl (Nat.le_of_ble_eq_true rfl) rfl rfl (fun _ _ h => h.elim) ?_
        rintro _ _ ⟨_, _, ⟨_, rfl, rfl⟩, rfl, rfl⟩
        refine j_w ([.inr (9, [_, _, _, _, _]), z_ia 20 _, z_ia 20 _, .inr (11, [_]), z_ia 7 _], z_no) rfl ?_
        refine j_callS dX8_mixedTable_41 kX8_mixed lX8_277 stX8_mixed (c_X8_mixed hl _ _ _) (Nat.le_of_ble_eq_true rfl) ⟨(Nat.le_of_ble_eq_true rfl), (Nat.le_of_ble_eq_true rfl)⟩ rfl (Nat.le_of_ble_eq_true rfl) rfl rfl (fun _ _ h => h.elim) ?_
        rintro _ _ ⟨⟨_, rfl⟩, rfl⟩
        refine j_lstore_n (lo' := [(3, _), (6, _), (0, _), (2, _), (5, _)]) dX8_mixedTable_44 (by decide) rfl ?_
        refine j_iinc (lo' := [(5, _), (3, _), (6, _), (0, _), (2, _)]) dX8_mixedTable_45 rfl rfl (by decide) rfl ?_
        refine j_goto (tgt := 12) dX8_mixedTable_48 (by decide) ?_
        exact j_lo2 (ih _ _ (z_ms c_18 h1)) (z_q1 rfl (z_q1 rfl (z_q1 rfl (z_q1 rfl z_q0))))
  exact j_lo2 (loop _ _ _ (Nat.lt_succ_self _)) (z_q1 rfl (z_q1 rfl (z_q1 rfl (z_q1 rfl z_q0))))
end ZL4
end ZM3
section ZM4
section ZL5
variable {G : z_G} {l : Launch}
theorem z_m20z : z_m20 0 := by unfold z_m20; decide
set_option maxRecDepth 100000 in
set_option maxHeartbeats 8000000 in
theorem c_X8_rowFor (hl : l.stackTraces = false) (rf : Int32) (kn : Int32) (ma : Int32) (xa : Bool) (fa : Nat → Int32) (ca : Nat → Int32) (mb : Int32) (xb : Bool) (fb : Nat → Int32) (cb : Nat → Int32) (mt : Int32) (xt : Bool) (ft : Nat → Int32) (ct : Nat → Int32) (f0 : Nat → Int32) (g0 : Nat → Int32) (c0 : Nat → Int32) (m0 : Int32) (s0 : Int32) (f1 : Nat → Int32) (g1 : Nat → Int32) (c1 : Nat → Int32) (m1 : Int32) (s1 : Int32) (f2 : Nat → Int32) (g2 : Nat → Int32) (c2 : Nat → Int32) (m2 : Int32) (s2 : Int32) (f3 : Nat → Int32) (g3 : Nat → Int32) (c3 : Nat → Int32) (m3 : Int32) (s3 : Int32) (f4 : Nat → Int32) (g4 : Nat → Int32) (c4 : Nat → Int32) (m4 : Int32) (s4 : Int32) (f5 : Nat → Int32) (g5 : Nat → Int32) (c5 : Nat → Int32) (m5 : Int32) (s5 : Int32) (ek0 : Int32) (em0 : Int32) (es0 : Int32) (el0 : Int32) (b0 : Int32) (ef0 : Nat → Int32) (ek1 : Int32) (em1 : Int32) (es1 : Int32) (el1 : Int32) (b1 : Int32) (ef1 : Nat → Int32) (r : Int32) : z_CX G l mX8_rowFor 10 1 6 (z_cw rf kn ma xa fa ca mb xb fb cb mt xt ft ct f0 g0 c0 m0 s0 f1 g1 c1 m1 s1 f2 g2 c2 m2 s2 f3 g3 c3 m3 s3 f4 g4 c4 m4 s4 f5 g5 c5 m5 s5 ek0 em0 es0 el0 b0 ef0 ek1 em1 es1 el1 b1 ef1 []) [.ref 0, .int r] (fun v L => ∃ n : Nat, v = some (.ref n) ∧ ((r = 0 ∧ n = 2) ∨ (r = 1 ∧ n = 6)) ∧ L = (z_cw rf kn ma xa fa ca mb xb fb cb mt xt ft ct f0 g0 c0 m0 s0 f1 g1 c1 m1 s1 f2 g2 c2 m2 s2 f3 g3 c3 m3 s3 f4 g4 c4 m4 s4 f5 g5 c5 m5 s5 ek0 em0 es0 el0 b0 ef0 ek1 em1 es1 el1 b1 ef1 [])) (fun E L => z_xI E ∧ L = (z_cw rf kn ma xa fa ca mb xb fb cb mt xt ft ct f0 g0 c0 m0 s0 f1 g1 c1 m1 s1 f2 g2 c2 m2 s2 f3 g3 c3 m3 s3 f4 g4 c4 m4 s4 f5 g5 c5 m5 s5 ek0 em0 es0 el0 b0 ef0 ek1 em1 es1 el1 b1 ef1 [])) := by
  refine z_body hl (by decide) rfl (Nat.le_of_ble_eq_true rfl) ?_
  show z_J G l mX8_rowFor (z_SX 10 1 6 (z_cw rf kn ma xa fa ca mb xb fb cb mt xt ft ct f0 g0 c0 m0 s0 f1 g1 c1 m1 s1 f2 g2 c2 m2 s2 f3 g3 c3 m3 s3 f4 g4 c4 m4 s4 f5 g5 c5 m5 s5 ek0 em0 es0 el0 b0 ef0 ek1 em1 es1 el1 b1 ef1 []) (fun v L => ∃ n : Nat, v = some (.ref n) ∧ ((r = 0 ∧ n = 2) ∨ (r = 1 ∧ n = 6)) ∧ L = (z_cw rf kn ma xa fa ca mb xb fb cb mt xt ft ct f0 g0 c0 m0 s0 f1 g1 c1 m1 s1 f2 g2 c2 m2 s2 f3 g3 c3 m3 s3 f4 g4 c4 m4 s4 f5 g5 c5 m5 s5 ek0 em0 es0 el0 b0 ef0 ek1 em1 es1 el1 b1 ef1 [])) (fun E L => z_xI E ∧ L = (z_cw rf kn ma xa fa ca mb xb fb cb mt xt ft ct f0 g0 c0 m0 s0 f1 g1 c1 m1 s1 f2 g2 c2 m2 s2 f3 g3 c3 m3 s3 f4 g4 c4 m4 s4 f5 g5 c5 m5 s5 ek0 em0 es0 el0 b0 ef0 ek1 em1 es1 el1 b1 ef1 []))) 0 [(0, _), (1, _)] [] _ 0 0
  refine j_iload_n dX8_rowFor_0 rfl ?_
  refine j_if_lt (tgt := 13) dX8_rowFor_1 (by decide) (fun c_1 => ?_) (fun c_1 => ?_)
  · exact j_throwSW (text := "there is no such row") rfl th_I (by decide +kernel) dX8_rowFor_13 dX8_rowFor_16 dX8_rowFor_17 dX8_rowFor_20 dX8_rowFor_23 (Nat.le_of_ble_eq_true rfl) (Nat.le_of_ble_eq_true rfl) ⟨rfl, rfl, rfl, rfl⟩ (Nat.le_of_ble_eq_true rfl) (Nat.le_of_ble_eq_true rfl)
  · refine j_iload_n dX8_rowFor_4 rfl ?_
    refine j_aload_n dX8_rowFor_5 rfl rfl ?_
    refine j_getf dX8_rowFor_6 fX8_10 rfl rfl ?_
    refine j_alen dX8_rowFor_9 rfl rfl rfl ?_
    refine j_icmp_lt (tgt := 24) dX8_rowFor_10 (by decide) (fun c_10 => ?_) (fun c_10 => ?_)
    · rcases z_r2 c_1 c_10 with rfl | rfl
      · refine j_aload_n dX8_rowFor_24 rfl rfl ?_
        refine j_getf dX8_rowFor_25 fX8_10 rfl rfl ?_
        refine j_iload_n dX8_rowFor_28 rfl ?_
        refine j_aald (v := .ref 2) dX8_rowFor_29 rfl rfl rfl (vp_in_iff.mpr (by decide)) rfl ?_
        refine j_aret dX8_rowFor_30 rfl (Or.inl ⟨_, rfl⟩) rfl ?_ (Nat.le_of_ble_eq_true rfl) (Nat.le_of_ble_eq_true rfl)
        exact ⟨rfl, rfl, _, rfl, (by first | exact Or.inl ⟨rfl, rfl⟩ | exact Or.inr (⟨rfl, rfl⟩)), rfl⟩
      · refine j_aload_n dX8_rowFor_24 rfl rfl ?_
        refine j_getf dX8_rowFor_25 fX8_10 rfl rfl ?_
        refine j_iload_n dX8_rowFor_28 rfl ?_
        refine j_aald (v := .ref 6) dX8_rowFor_29 rfl rfl rfl (vp_in_iff.mpr (by decide)) rfl ?_
        refine j_aret dX8_rowFor_30 rfl (Or.inl ⟨_, rfl⟩) rfl ?_ (Nat.le_of_ble_eq_true rfl) (Nat.le_of_ble_eq_true rfl)
        exact ⟨rfl, rfl, _, rfl, (by first | exact Or.inl ⟨rfl, rfl⟩ | exact Or.inr (⟨rfl, rfl⟩)), rfl⟩
    · exact j_throwSW (text := "there is no such row") rfl th_I (by decide +kernel) dX8_rowFor_13 dX8_rowFor_16 dX8_rowFor_17 dX8_rowFor_20 dX8_rowFor_23 (Nat.le_of_ble_eq_true rfl) (Nat.le_of_ble_eq_true rfl) ⟨rfl, rfl, rfl, rfl⟩ (Nat.le_of_ble_eq_true rfl) (Nat.le_of_ble_eq_true rfl)
set_option maxRecDepth 100000 in
set_option maxHeartbeats 8000000 in
theorem c_X8_tableFor (hl : l.stackTraces = false) (rf : Int32) (kn : Int32) (ma : Int32) (xa : Bool) (fa : Nat → Int32) (ca : Nat → Int32) (mb : Int32) (xb : Bool) (fb : Nat → Int32) (cb : Nat → Int32) (mt : Int32) (xt : Bool) (ft : Nat → Int32) (ct : Nat → Int32) (f0 : Nat → Int32) (g0 : Nat → Int32) (c0 : Nat → Int32) (m0 : Int32) (s0 : Int32) (f1 : Nat → Int32) (g1 : Nat → Int32) (c1 : Nat → Int32) (m1 : Int32) (s1 : Int32) (f2 : Nat → Int32) (g2 : Nat → Int32) (c2 : Nat → Int32) (m2 : Int32) (s2 : Int32) (f3 : Nat → Int32) (g3 : Nat → Int32) (c3 : Nat → Int32) (m3 : Int32) (s3 : Int32) (f4 : Nat → Int32) (g4 : Nat → Int32) (c4 : Nat → Int32) (m4 : Int32) (s4 : Int32) (f5 : Nat → Int32) (g5 : Nat → Int32) (c5 : Nat → Int32) (m5 : Int32) (s5 : Int32) (ek0 : Int32) (em0 : Int32) (es0 : Int32) (el0 : Int32) (b0 : Int32) (ef0 : Nat → Int32) (ek1 : Int32) (em1 : Int32) (es1 : Int32) (el1 : Int32) (b1 : Int32) (ef1 : Nat → Int32) (r : Int32) : z_CX G l mX8_tableFor 10 1 6 (z_cw rf kn ma xa fa ca mb xb fb cb mt xt ft ct f0 g0 c0 m0 s0 f1 g1 c1 m1 s1 f2 g2 c2 m2 s2 f3 g3 c3 m3 s3 f4 g4 c4 m4 s4 f5 g5 c5 m5 s5 ek0 em0 es0 el0 b0 ef0 ek1 em1 es1 el1 b1 ef1 []) [.ref 0, .int r] (fun v L => ∃ n : Nat, v = some (.ref n) ∧ ((r = 0 ∧ n = 10) ∨ (r = 1 ∧ n = 16) ∨ (r = 2 ∧ n = 21)) ∧ L = (z_cw rf kn ma xa fa ca mb xb fb cb mt xt ft ct f0 g0 c0 m0 s0 f1 g1 c1 m1 s1 f2 g2 c2 m2 s2 f3 g3 c3 m3 s3 f4 g4 c4 m4 s4 f5 g5 c5 m5 s5 ek0 em0 es0 el0 b0 ef0 ek1 em1 es1 el1 b1 ef1 [])) (fun E L => z_xI E ∧ L = (z_cw rf kn ma xa fa ca mb xb fb cb mt xt ft ct f0 g0 c0 m0 s0 f1 g1 c1 m1 s1 f2 g2 c2 m2 s2 f3 g3 c3 m3 s3 f4 g4 c4 m4 s4 f5 g5 c5 m5 s5 ek0 em0 es0 el0 b0 ef0 ek1 em1 es1 el1 b1 ef1 [])) := by
  refine z_body hl (by decide) rfl (Nat.le_of_ble_eq_true rfl) ?_
  show z_J G l mX8_tableFor (z_SX 10 1 6 (z_cw rf kn ma xa fa ca mb xb fb cb mt xt ft ct f0 g0 c0 m0 s0 f1 g1 c1 m1 s1 f2 g2 c2 m2 s2 f3 g3 c3 m3 s3 f4 g4 c4 m4 s4 f5 g5 c5 m5 s5 ek0 em0 es0 el0 b0 ef0 ek1 em1 es1 el1 b1 ef1 []) (fun v L => ∃ n : Nat, v = some (.ref n) ∧ ((r = 0 ∧ n = 10) ∨ (r = 1 ∧ n = 16) ∨ (r = 2 ∧ n = 21)) ∧ L = (z_cw rf kn ma xa fa ca mb xb fb cb mt xt ft ct f0 g0 c0 m0 s0 f1 g1 c1 m1 s1 f2 g2 c2 m2 s2 f3 g3 c3 m3 s3 f4 g4 c4 m4 s4 f5 g5 c5 m5 s5 ek0 em0 es0 el0 b0 ef0 ek1 em1 es1 el1 b1 ef1 [])) (fun E L => z_xI E ∧ L = (z_cw rf kn ma xa fa ca mb xb fb cb mt xt ft ct f0 g0 c0 m0 s0 f1 g1 c1 m1 s1 f2 g2 c2 m2 s2 f3 g3 c3 m3 s3 f4 g4 c4 m4 s4 f5 g5 c5 m5 s5 ek0 em0 es0 el0 b0 ef0 ek1 em1 es1 el1 b1 ef1 []))) 0 [(0, _), (1, _)] [] _ 0 0
  refine j_iload_n dX8_tableFor_0 rfl ?_
  refine j_if_lt (tgt := 13) dX8_tableFor_1 (by decide) (fun c_1 => ?_) (fun c_1 => ?_)
  · exact j_throwSW (text := "there is no such table") rfl th_I (by decide +kernel) dX8_tableFor_13 dX8_tableFor_16 dX8_tableFor_17 dX8_tableFor_20 dX8_tableFor_23 (Nat.le_of_ble_eq_true rfl) (Nat.le_of_ble_eq_true rfl) ⟨rfl, rfl, rfl, rfl⟩ (Nat.le_of_ble_eq_true rfl) (Nat.le_of_ble_eq_true rfl)
  · refine j_iload_n dX8_tableFor_4 rfl ?_
    refine j_aload_n dX8_tableFor_5 rfl rfl ?_
    refine j_getf dX8_tableFor_6 fX8_25 rfl rfl ?_
    refine j_alen dX8_tableFor_9 rfl rfl rfl ?_
    refine j_icmp_lt (tgt := 24) dX8_tableFor_10 (by decide) (fun c_10 => ?_) (fun c_10 => ?_)
    · rcases z_r3 c_1 c_10 with rfl | rfl | rfl
      · refine j_aload_n dX8_tableFor_24 rfl rfl ?_
        refine j_getf dX8_tableFor_25 fX8_25 rfl rfl ?_
        refine j_iload_n dX8_tableFor_28 rfl ?_
        refine j_aald (v := .ref 10) dX8_tableFor_29 rfl rfl rfl (vp_in_iff.mpr (by decide)) rfl ?_
        refine j_aret dX8_tableFor_30 rfl (Or.inl ⟨_, rfl⟩) rfl ?_ (Nat.le_of_ble_eq_true rfl) (Nat.le_of_ble_eq_true rfl)
        exact ⟨rfl, rfl, _, rfl, (by first | exact Or.inl ⟨rfl, rfl⟩ | exact Or.inr (Or.inl ⟨rfl, rfl⟩) | exact Or.inr (Or.inr (⟨rfl, rfl⟩))), rfl⟩
      · refine j_aload_n dX8_tableFor_24 rfl rfl ?_
        refine j_getf dX8_tableFor_25 fX8_25 rfl rfl ?_
        refine j_iload_n dX8_tableFor_28 rfl ?_
        refine j_aald (v := .ref 16) dX8_tableFor_29 rfl rfl rfl (vp_in_iff.mpr (by decide)) rfl ?_
        refine j_aret dX8_tableFor_30 rfl (Or.inl ⟨_, rfl⟩) rfl ?_ (Nat.le_of_ble_eq_true rfl) (Nat.le_of_ble_eq_true rfl)
        exact ⟨rfl, rfl, _, rfl, (by first | exact Or.inl ⟨rfl, rfl⟩ | exact Or.inr (Or.inl ⟨rfl, rfl⟩) | exact Or.inr (Or.inr (⟨rfl, rfl⟩))), rfl⟩
      · refine j_aload_n dX8_tableFor_24 rfl rfl ?_
        refine j_getf dX8_tableFor_25 fX8_25 rfl rfl ?_
        refine j_iload_n dX8_tableFor_28 rfl ?_
        refine j_aald (v := .ref 21) dX8_tableFor_29 rfl rfl rfl (vp_in_iff.mpr (by decide)) rfl ?_
        refine j_aret dX8_tableFor_30 rfl (Or.inl ⟨_, rfl⟩) rfl ?_ (Nat.le_of_ble_eq_true rfl) (Nat.le_of_ble_eq_true rfl)
        exact ⟨rfl, rfl, _, rfl, (by first | exact Or.inl ⟨rfl, rfl⟩ | exact Or.inr (Or.inl ⟨rfl, rfl⟩) | exact Or.inr (Or.inr (⟨rfl, rfl⟩))), rfl⟩
    · exact j_throwSW (text := "there is no such table") rfl th_I (by decide +kernel) dX8_tableFor_13 dX8_tableFor_16 dX8_tableFor_17 dX8_tableFor_20 dX8_tableFor_23 (Nat.le_of_ble_eq_true rfl) (Nat.le_of_ble_eq_true rfl) ⟨rfl, rfl, rfl, rfl⟩ (Nat.le_of_ble_eq_true rfl) (Nat.le_of_ble_eq_true rfl)
set_option maxRecDepth 100000 in
set_option maxHeartbeats 8000000 in
theorem c_X8_hearerFor (hl : l.stackTraces = false) (rf : Int32) (kn : Int32) (ma : Int32) (xa : Bool) (fa : Nat → Int32) (ca : Nat → Int32) (mb : Int32) (xb : Bool) (fb : Nat → Int32) (cb : Nat → Int32) (mt : Int32) (xt : Bool) (ft : Nat → Int32) (ct : Nat → Int32) (f0 : Nat → Int32) (g0 : Nat → Int32) (c0 : Nat → Int32) (m0 : Int32) (s0 : Int32) (f1 : Nat → Int32) (g1 : Nat → Int32) (c1 : Nat → Int32) (m1 : Int32) (s1 : Int32) (f2 : Nat → Int32) (g2 : Nat → Int32) (c2 : Nat → Int32) (m2 : Int32) (s2 : Int32) (f3 : Nat → Int32) (g3 : Nat → Int32) (c3 : Nat → Int32) (m3 : Int32) (s3 : Int32) (f4 : Nat → Int32) (g4 : Nat → Int32) (c4 : Nat → Int32) (m4 : Int32) (s4 : Int32) (f5 : Nat → Int32) (g5 : Nat → Int32) (c5 : Nat → Int32) (m5 : Int32) (s5 : Int32) (ek0 : Int32) (em0 : Int32) (es0 : Int32) (el0 : Int32) (b0 : Int32) (ef0 : Nat → Int32) (ek1 : Int32) (em1 : Int32) (es1 : Int32) (el1 : Int32) (b1 : Int32) (ef1 : Nat → Int32) (r : Int32) : z_CX G l mX8_hearerFor 10 1 6 (z_cw rf kn ma xa fa ca mb xb fb cb mt xt ft ct f0 g0 c0 m0 s0 f1 g1 c1 m1 s1 f2 g2 c2 m2 s2 f3 g3 c3 m3 s3 f4 g4 c4 m4 s4 f5 g5 c5 m5 s5 ek0 em0 es0 el0 b0 ef0 ek1 em1 es1 el1 b1 ef1 []) [.ref 0, .int r] (fun v L => ∃ n : Nat, v = some (.ref n) ∧ ((r = 0 ∧ n = 27) ∨ (r = 1 ∧ n = 29)) ∧ L = (z_cw rf kn ma xa fa ca mb xb fb cb mt xt ft ct f0 g0 c0 m0 s0 f1 g1 c1 m1 s1 f2 g2 c2 m2 s2 f3 g3 c3 m3 s3 f4 g4 c4 m4 s4 f5 g5 c5 m5 s5 ek0 em0 es0 el0 b0 ef0 ek1 em1 es1 el1 b1 ef1 [])) (fun E L => z_xI E ∧ L = (z_cw rf kn ma xa fa ca mb xb fb cb mt xt ft ct f0 g0 c0 m0 s0 f1 g1 c1 m1 s1 f2 g2 c2 m2 s2 f3 g3 c3 m3 s3 f4 g4 c4 m4 s4 f5 g5 c5 m5 s5 ek0 em0 es0 el0 b0 ef0 ek1 em1 es1 el1 b1 ef1 [])) := by
  refine z_body hl (by decide) rfl (Nat.le_of_ble_eq_true rfl) ?_
  show z_J G l mX8_hearerFor (z_SX 10 1 6 (z_cw rf kn ma xa fa ca mb xb fb cb mt xt ft ct f0 g0 c0 m0 s0 f1 g1 c1 m1 s1 f2 g2 c2 m2 s2 f3 g3 c3 m3 s3 f4 g4 c4 m4 s4 f5 g5 c5 m5 s5 ek0 em0 es0 el0 b0 ef0 ek1 em1 es1 el1 b1 ef1 []) (fun v L => ∃ n : Nat, v = some (.ref n) ∧ ((r = 0 ∧ n = 27) ∨ (r = 1 ∧ n = 29)) ∧ L = (z_cw rf kn ma xa fa ca mb xb fb cb mt xt ft ct f0 g0 c0 m0 s0 f1 g1 c1 m1 s1 f2 g2 c2 m2 s2 f3 g3 c3 m3 s3 f4 g4 c4 m4 s4 f5 g5 c5 m5 s5 ek0 em0 es0 el0 b0 ef0 ek1 em1 es1 el1 b1 ef1 [])) (fun E L => z_xI E ∧ L = (z_cw rf kn ma xa fa ca mb xb fb cb mt xt ft ct f0 g0 c0 m0 s0 f1 g1 c1 m1 s1 f2 g2 c2 m2 s2 f3 g3 c3 m3 s3 f4 g4 c4 m4 s4 f5 g5 c5 m5 s5 ek0 em0 es0 el0 b0 ef0 ek1 em1 es1 el1 b1 ef1 []))) 0 [(0, _), (1, _)] [] _ 0 0
  refine j_iload_n dX8_hearerFor_0 rfl ?_
  refine j_if_lt (tgt := 13) dX8_hearerFor_1 (by decide) (fun c_1 => ?_) (fun c_1 => ?_)
  · exact j_throwSW (text := "there is no such hearer") rfl th_I (by decide +kernel) dX8_hearerFor_13 dX8_hearerFor_16 dX8_hearerFor_17 dX8_hearerFor_20 dX8_hearerFor_23 (Nat.le_of_ble_eq_true rfl) (Nat.le_of_ble_eq_true rfl) ⟨rfl, rfl, rfl, rfl⟩ (Nat.le_of_ble_eq_true rfl) (Nat.le_of_ble_eq_true rfl)
  · refine j_iload_n dX8_hearerFor_4 rfl ?_
    refine j_aload_n dX8_hearerFor_5 rfl rfl ?_
    refine j_getf dX8_hearerFor_6 fX8_32 rfl rfl ?_
    refine j_alen dX8_hearerFor_9 rfl rfl rfl ?_
    refine j_icmp_lt (tgt := 24) dX8_hearerFor_10 (by decide) (fun c_10 => ?_) (fun c_10 => ?_)
    · rcases z_r2 c_1 c_10 with rfl | rfl
      · refine j_aload_n dX8_hearerFor_24 rfl rfl ?_
        refine j_getf dX8_hearerFor_25 fX8_32 rfl rfl ?_
        refine j_iload_n dX8_hearerFor_28 rfl ?_
        refine j_aald (v := .ref 27) dX8_hearerFor_29 rfl rfl rfl (vp_in_iff.mpr (by decide)) rfl ?_
        refine j_aret dX8_hearerFor_30 rfl (Or.inl ⟨_, rfl⟩) rfl ?_ (Nat.le_of_ble_eq_true rfl) (Nat.le_of_ble_eq_true rfl)
        exact ⟨rfl, rfl, _, rfl, (by first | exact Or.inl ⟨rfl, rfl⟩ | exact Or.inr (⟨rfl, rfl⟩)), rfl⟩
      · refine j_aload_n dX8_hearerFor_24 rfl rfl ?_
        refine j_getf dX8_hearerFor_25 fX8_32 rfl rfl ?_
        refine j_iload_n dX8_hearerFor_28 rfl ?_
        refine j_aald (v := .ref 29) dX8_hearerFor_29 rfl rfl rfl (vp_in_iff.mpr (by decide)) rfl ?_
        refine j_aret dX8_hearerFor_30 rfl (Or.inl ⟨_, rfl⟩) rfl ?_ (Nat.le_of_ble_eq_true rfl) (Nat.le_of_ble_eq_true rfl)
        exact ⟨rfl, rfl, _, rfl, (by first | exact Or.inl ⟨rfl, rfl⟩ | exact Or.inr (⟨rfl, rfl⟩)), rfl⟩
    · exact j_throwSW (text := "there is no such hearer") rfl th_I (by decide +kernel) dX8_hearerFor_13 dX8_hearerFor_16 dX8_hearerFor_17 dX8_hearerFor_20 dX8_hearerFor_23 (Nat.le_of_ble_eq_true rfl) (Nat.le_of_ble_eq_true rfl) ⟨rfl, rfl, rfl, rfl⟩ (Nat.le_of_ble_eq_true rfl) (Nat.le_of_ble_eq_true rfl)
set_option maxRecDepth 100000 in
set_option maxHeartbeats 8000000 in
theorem c_X8_oneIf_b (hl : l.stackTraces = false) (w : z_W) (b : Bool) : z_Con G l mX8_oneIf 10 0 0 w [.int (z_bi b)] (fun v w9 => (v = some (.int (z_bi b))) ∧ w9 = w) (fun _ _ => False) := by
  refine z_body hl (by decide) rfl (Nat.le_of_ble_eq_true rfl) ?_
  show z_J G l mX8_oneIf ((10, 0, 0, w, (fun v w9 => (v = some (.int (z_bi b))) ∧ w9 = w), fun _ _ => False)) 0 [(0, _)] [] _ 0 0
  refine j_iload_n dX8_oneIf_0 rfl ?_
  refine j_if_eq (tgt := 8) dX8_oneIf_1 (by decide) (fun c_1 => ?_) (fun c_1 => ?_)
  · refine j_iconst (v := 0) dX8_oneIf_8 (by decide) ?_
    refine j_iret dX8_oneIf_9 rfl rfl ?_ (Nat.le_of_ble_eq_true rfl) (Nat.le_of_ble_eq_true rfl)
    first | exact ⟨by rw [z_bF c_1]; rfl, rfl⟩ | exact ⟨by rw [z_bt c_1]; rfl, rfl⟩
  · refine j_iconst (v := 1) dX8_oneIf_4 (by decide) ?_
    refine j_goto (tgt := 9) dX8_oneIf_5 (by decide) ?_
    refine j_iret dX8_oneIf_9 rfl rfl ?_ (Nat.le_of_ble_eq_true rfl) (Nat.le_of_ble_eq_true rfl)
    first | exact ⟨by rw [z_bF c_1]; rfl, rfl⟩ | exact ⟨by rw [z_bt c_1]; rfl, rfl⟩
end ZL5
end ZM4
section ZM5
section ZL7
variable {G : z_G} {l : Launch}
set_option maxRecDepth 100000 in
set_option maxHeartbeats 8000000 in
theorem c_X8_valuesOfRows (hl : l.stackTraces = false) (rf : Int32) (kn : Int32) (ma : Int32) (xa : Bool) (fa : Nat → Int32) (ca : Nat → Int32) (mb : Int32) (xb : Bool) (fb : Nat → Int32) (cb : Nat → Int32) (mt : Int32) (xt : Bool) (ft : Nat → Int32) (ct : Nat → Int32) (f0 : Nat → Int32) (g0 : Nat → Int32) (c0 : Nat → Int32) (m0 : Int32) (s0 : Int32) (f1 : Nat → Int32) (g1 : Nat → Int32) (c1 : Nat → Int32) (m1 : Int32) (s1 : Int32) (f2 : Nat → Int32) (g2 : Nat → Int32) (c2 : Nat → Int32) (m2 : Int32) (s2 : Int32) (f3 : Nat → Int32) (g3 : Nat → Int32) (c3 : Nat → Int32) (m3 : Int32) (s3 : Int32) (f4 : Nat → Int32) (g4 : Nat → Int32) (c4 : Nat → Int32) (m4 : Int32) (s4 : Int32) (f5 : Nat → Int32) (g5 : Nat → Int32) (c5 : Nat → Int32) (m5 : Int32) (s5 : Int32) (ek0 : Int32) (em0 : Int32) (es0 : Int32) (el0 : Int32) (b0 : Int32) (ef0 : Nat → Int32) (ek1 : Int32) (em1 : Int32) (es1 : Int32) (el1 : Int32) (b1 : Int32) (ef1 : Nat → Int32) : z_CF G l mX8_valuesOfRows 10 0 0 (z_cw rf kn ma xa fa ca mb xb fb cb mt xt ft ct f0 g0 c0 m0 s0 f1 g1 c1 m1 s1 f2 g2 c2 m2 s2 f3 g3 c3 m3 s3 f4 g4 c4 m4 s4 f5 g5 c5 m5 s5 ek0 em0 es0 el0 b0 ef0 ek1 em1 es1 el1 b1 ef1 []) [.ref 0] (fun v L => (∃ x : Int32, v = some (.int x)) ∧ L = (z_cw rf kn ma xa fa ca mb xb fb cb mt xt ft ct f0 g0 c0 m0 s0 f1 g1 c1 m1 s1 f2 g2 c2 m2 s2 f3 g3 c3 m3 s3 f4 g4 c4 m4 s4 f5 g5 c5 m5 s5 ek0 em0 es0 el0 b0 ef0 ek1 em1 es1 el1 b1 ef1 [])) := by
  refine z_body hl (by decide) rfl (Nat.le_of_ble_eq_true rfl) ?_
  show z_J G l mX8_valuesOfRows (z_SF 10 0 0 (z_cw rf kn ma xa fa ca mb xb fb cb mt xt ft ct f0 g0 c0 m0 s0 f1 g1 c1 m1 s1 f2 g2 c2 m2 s2 f3 g3 c3 m3 s3 f4 g4 c4 m4 s4 f5 g5 c5 m5 s5 ek0 em0 es0 el0 b0 ef0 ek1 em1 es1 el1 b1 ef1 []) (fun v L => (∃ x : Int32, v = some (.int x)) ∧ L = (z_cw rf kn ma xa fa ca mb xb fb cb mt xt ft ct f0 g0 c0 m0 s0 f1 g1 c1 m1 s1 f2 g2 c2 m2 s2 f3 g3 c3 m3 s3 f4 g4 c4 m4 s4 f5 g5 c5 m5 s5 ek0 em0 es0 el0 b0 ef0 ek1 em1 es1 el1 b1 ef1 []))) 0 [(0, _)] [] _ 0 0
  refine j_iconst (v := 0) dX8_valuesOfRows_0 (by decide) ?_
  refine j_istore_n (lo' := [(1, _), (0, _)]) dX8_valuesOfRows_1 (by decide) rfl ?_
  refine j_aload_n dX8_valuesOfRows_2 rfl rfl ?_
  refine j_getf dX8_valuesOfRows_3 fX8_10 rfl rfl ?_
  refine j_astore_n (lo' := [(2, _), (1, _), (0, _)]) dX8_valuesOfRows_6 rfl (by decide) rfl ?_
  refine j_aload_n dX8_valuesOfRows_7 rfl rfl ?_
  refine j_alen dX8_valuesOfRows_8 rfl rfl rfl ?_
  refine j_istore_n (lo' := [(3, _), (2, _), (1, _), (0, _)]) dX8_valuesOfRows_9 (by decide) rfl ?_
  refine j_iconst (v := 0) dX8_valuesOfRows_10 (by decide) ?_
  refine j_istore (lo' := [(4, _), (3, _), (2, _), (1, _), (0, _)]) dX8_valuesOfRows_11 (by decide) rfl ?_
  refine j_iload dX8_valuesOfRows_13 rfl ?_
  refine j_iload_n dX8_valuesOfRows_15 rfl ?_
  refine j_icmp_ge (tgt := 39) dX8_valuesOfRows_16 (by decide) (fun c_16 => ?_) (fun c_16 => ?_)
  · exact absurd c_16 (by decide)
  · refine j_aload_n dX8_valuesOfRows_19 rfl rfl ?_
    refine j_iload dX8_valuesOfRows_20 rfl ?_
    refine j_aald (v := .ref 2) dX8_valuesOfRows_22 rfl rfl rfl (vp_in_iff.mpr (by decide)) rfl ?_
    refine j_astore (lo' := [(5, _), (4, _), (3, _), (2, _), (1, _), (0, _)]) dX8_valuesOfRows_23 rfl (by decide) rfl ?_
    refine j_iload_n dX8_valuesOfRows_25 rfl ?_
    refine j_aload dX8_valuesOfRows_26 rfl rfl ?_
    refine j_getf dX8_valuesOfRows_28 fX8_68 rfl rfl ?_
    refine j_iadd dX8_valuesOfRows_31 ?_
    refine j_istore_n (lo' := [(1, _), (5, _), (4, _), (3, _), (2, _), (0, _)]) dX8_valuesOfRows_32 (by decide) rfl ?_
    refine j_iinc (lo' := [(4, _), (1, _), (5, _), (3, _), (2, _), (0, _)]) dX8_valuesOfRows_33 rfl rfl (by decide) rfl ?_
    refine j_goto (tgt := 13) dX8_valuesOfRows_36 (by decide) ?_
    refine j_iload dX8_valuesOfRows_13 rfl ?_
    refine j_iload_n dX8_valuesOfRows_15 rfl ?_
    refine j_icmp_ge (tgt := 39) dX8_valuesOfRows_16 (by decide) (fun c_16 => ?_) (fun c_16 => ?_)
    · exact absurd c_16 (by decide)
    · refine j_aload_n dX8_valuesOfRows_19 rfl rfl ?_
      refine j_iload dX8_valuesOfRows_20 rfl ?_
      refine j_aald (v := .ref 6) dX8_valuesOfRows_22 rfl rfl rfl (vp_in_iff.mpr (by decide)) rfl ?_
      refine j_astore (lo' := [(5, _), (4, _), (1, _), (3, _), (2, _), (0, _)]) dX8_valuesOfRows_23 rfl (by decide) rfl ?_
      refine j_iload_n dX8_valuesOfRows_25 rfl ?_
      refine j_aload dX8_valuesOfRows_26 rfl rfl ?_
      refine j_getf dX8_valuesOfRows_28 fX8_68 rfl rfl ?_
      refine j_iadd dX8_valuesOfRows_31 ?_
      refine j_istore_n (lo' := [(1, _), (5, _), (4, _), (3, _), (2, _), (0, _)]) dX8_valuesOfRows_32 (by decide) rfl ?_
      refine j_iinc (lo' := [(4, _), (1, _), (5, _), (3, _), (2, _), (0, _)]) dX8_valuesOfRows_33 rfl rfl (by decide) rfl ?_
      refine j_goto (tgt := 13) dX8_valuesOfRows_36 (by decide) ?_
      refine j_iload dX8_valuesOfRows_13 rfl ?_
      refine j_iload_n dX8_valuesOfRows_15 rfl ?_
      refine j_icmp_ge (tgt := 39) dX8_valuesOfRows_16 (by decide) (fun c_16 => ?_) (fun c_16 => ?_)
      · refine j_iload_n dX8_valuesOfRows_39 rfl ?_
        refine j_iret dX8_valuesOfRows_40 rfl rfl ?_ (Nat.le_of_ble_eq_true rfl) (Nat.le_of_ble_eq_true rfl)
        exact ⟨rfl, rfl, ⟨_, rfl⟩, rfl⟩
      · exact absurd (by decide) c_16
set_option maxRecDepth 100000 in
set_option maxHeartbeats 8000000 in
theorem c_X8_pairsOfTables (hl : l.stackTraces = false) (rf : Int32) (kn : Int32) (ma : Int32) (xa : Bool) (fa : Nat → Int32) (ca : Nat → Int32) (mb : Int32) (xb : Bool) (fb : Nat → Int32) (cb : Nat → Int32) (mt : Int32) (xt : Bool) (ft : Nat → Int32) (ct : Nat → Int32) (f0 : Nat → Int32) (g0 : Nat → Int32) (c0 : Nat → Int32) (m0 : Int32) (s0 : Int32) (f1 : Nat → Int32) (g1 : Nat → Int32) (c1 : Nat → Int32) (m1 : Int32) (s1 : Int32) (f2 : Nat → Int32) (g2 : Nat → Int32) (c2 : Nat → Int32) (m2 : Int32) (s2 : Int32) (f3 : Nat → Int32) (g3 : Nat → Int32) (c3 : Nat → Int32) (m3 : Int32) (s3 : Int32) (f4 : Nat → Int32) (g4 : Nat → Int32) (c4 : Nat → Int32) (m4 : Int32) (s4 : Int32) (f5 : Nat → Int32) (g5 : Nat → Int32) (c5 : Nat → Int32) (m5 : Int32) (s5 : Int32) (ek0 : Int32) (em0 : Int32) (es0 : Int32) (el0 : Int32) (b0 : Int32) (ef0 : Nat → Int32) (ek1 : Int32) (em1 : Int32) (es1 : Int32) (el1 : Int32) (b1 : Int32) (ef1 : Nat → Int32) : z_CF G l mX8_pairsOfTables 10 0 0 (z_cw rf kn ma xa fa ca mb xb fb cb mt xt ft ct f0 g0 c0 m0 s0 f1 g1 c1 m1 s1 f2 g2 c2 m2 s2 f3 g3 c3 m3 s3 f4 g4 c4 m4 s4 f5 g5 c5 m5 s5 ek0 em0 es0 el0 b0 ef0 ek1 em1 es1 el1 b1 ef1 []) [.ref 0] (fun v L => (∃ x : Int32, v = some (.int x)) ∧ L = (z_cw rf kn ma xa fa ca mb xb fb cb mt xt ft ct f0 g0 c0 m0 s0 f1 g1 c1 m1 s1 f2 g2 c2 m2 s2 f3 g3 c3 m3 s3 f4 g4 c4 m4 s4 f5 g5 c5 m5 s5 ek0 em0 es0 el0 b0 ef0 ek1 em1 es1 el1 b1 ef1 [])) := by
  refine z_body hl (by decide) rfl (Nat.le_of_ble_eq_true rfl) ?_
  show z_J G l mX8_pairsOfTables (z_SF 10 0 0 (z_cw rf kn ma xa fa ca mb xb fb cb mt xt ft ct f0 g0 c0 m0 s0 f1 g1 c1 m1 s1 f2 g2 c2 m2 s2 f3 g3 c3 m3 s3 f4 g4 c4 m4 s4 f5 g5 c5 m5 s5 ek0 em0 es0 el0 b0 ef0 ek1 em1 es1 el1 b1 ef1 []) (fun v L => (∃ x : Int32, v = some (.int x)) ∧ L = (z_cw rf kn ma xa fa ca mb xb fb cb mt xt ft ct f0 g0 c0 m0 s0 f1 g1 c1 m1 s1 f2 g2 c2 m2 s2 f3 g3 c3 m3 s3 f4 g4 c4 m4 s4 f5 g5 c5 m5 s5 ek0 em0 es0 el0 b0 ef0 ek1 em1 es1 el1 b1 ef1 []))) 0 [(0, _)] [] _ 0 0
  refine j_iconst (v := 0) dX8_pairsOfTables_0 (by decide) ?_
  refine j_istore_n (lo' := [(1, _), (0, _)]) dX8_pairsOfTables_1 (by decide) rfl ?_
  refine j_aload_n dX8_pairsOfTables_2 rfl rfl ?_
  refine j_getf dX8_pairsOfTables_3 fX8_25 rfl rfl ?_
  refine j_astore_n (lo' := [(2, _), (1, _), (0, _)]) dX8_pairsOfTables_6 rfl (by decide) rfl ?_
  refine j_aload_n dX8_pairsOfTables_7 rfl rfl ?_
  refine j_alen dX8_pairsOfTables_8 rfl rfl rfl ?_
  refine j_istore_n (lo' := [(3, _), (2, _), (1, _), (0, _)]) dX8_pairsOfTables_9 (by decide) rfl ?_
  refine j_iconst (v := 0) dX8_pairsOfTables_10 (by decide) ?_
  refine j_istore (lo' := [(4, _), (3, _), (2, _), (1, _), (0, _)]) dX8_pairsOfTables_11 (by decide) rfl ?_
  refine j_iload dX8_pairsOfTables_13 rfl ?_
  refine j_iload_n dX8_pairsOfTables_15 rfl ?_
  refine j_icmp_ge (tgt := 39) dX8_pairsOfTables_16 (by decide) (fun c_16 => ?_) (fun c_16 => ?_)
  · exact absurd c_16 (by decide)
  · refine j_aload_n dX8_pairsOfTables_19 rfl rfl ?_
    refine j_iload dX8_pairsOfTables_20 rfl ?_
    refine j_aald (v := .ref 10) dX8_pairsOfTables_22 rfl rfl rfl (vp_in_iff.mpr (by decide)) rfl ?_
    refine j_astore (lo' := [(5, _), (4, _), (3, _), (2, _), (1, _), (0, _)]) dX8_pairsOfTables_23 rfl (by decide) rfl ?_
    refine j_iload_n dX8_pairsOfTables_25 rfl ?_
    refine j_aload dX8_pairsOfTables_26 rfl rfl ?_
    refine j_getf dX8_pairsOfTables_28 fX8_165 rfl rfl ?_
    refine j_iadd dX8_pairsOfTables_31 ?_
    refine j_istore_n (lo' := [(1, _), (5, _), (4, _), (3, _), (2, _), (0, _)]) dX8_pairsOfTables_32 (by decide) rfl ?_
    refine j_iinc (lo' := [(4, _), (1, _), (5, _), (3, _), (2, _), (0, _)]) dX8_pairsOfTables_33 rfl rfl (by decide) rfl ?_
    refine j_goto (tgt := 13) dX8_pairsOfTables_36 (by decide) ?_
    refine j_iload dX8_pairsOfTables_13 rfl ?_
    refine j_iload_n dX8_pairsOfTables_15 rfl ?_
    refine j_icmp_ge (tgt := 39) dX8_pairsOfTables_16 (by decide) (fun c_16 => ?_) (fun c_16 => ?_)
    · exact absurd c_16 (by decide)
    · refine j_aload_n dX8_pairsOfTables_19 rfl rfl ?_
      refine j_iload dX8_pairsOfTables_20 rfl ?_
      refine j_aald (v := .ref 16) dX8_pairsOfTables_22 rfl rfl rfl (vp_in_iff.mpr (by decide)) rfl ?_
      refine j_astore (lo' := [(5, _), (4, _), (1, _), (3, _), (2, _), (0, _)]) dX8_pairsOfTables_23 rfl (by decide) rfl ?_
      refine j_iload_n dX8_pairsOfTables_25 rfl ?_
      refine j_aload dX8_pairsOfTables_26 rfl rfl ?_
      refine j_getf dX8_pairsOfTables_28 fX8_165 rfl rfl ?_
      refine j_iadd dX8_pairsOfTables_31 ?_
      refine j_istore_n (lo' := [(1, _), (5, _), (4, _), (3, _), (2, _), (0, _)]) dX8_pairsOfTables_32 (by decide) rfl ?_
      refine j_iinc (lo' := [(4, _), (1, _), (5, _), (3, _), (2, _), (0, _)]) dX8_pairsOfTables_33 rfl rfl (by decide) rfl ?_
      refine j_goto (tgt := 13) dX8_pairsOfTables_36 (by decide) ?_
      refine j_iload dX8_pairsOfTables_13 rfl ?_
      refine j_iload_n dX8_pairsOfTables_15 rfl ?_
      refine j_icmp_ge (tgt := 39) dX8_pairsOfTables_16 (by decide) (fun c_16 => ?_) (fun c_16 => ?_)
      · exact absurd c_16 (by decide)
      · refine j_aload_n dX8_pairsOfTables_19 rfl rfl ?_
        refine j_iload dX8_pairsOfTables_20 rfl ?_
        refine j_aald (v := .ref 21) dX8_pairsOfTables_22 rfl rfl rfl (vp_in_iff.mpr (by decide)) rfl ?_
        refine j_astore (lo' := [(5, _), (4, _), (1, _), (3, _), (2, _), (0, _)]) dX8_pairsOfTables_23 rfl (by decide) rfl ?_
        refine j_iload_n dX8_pairsOfTables_25 rfl ?_
        refine j_aload dX8_pairsOfTables_26 rfl rfl ?_
        refine j_getf dX8_pairsOfTables_28 fX8_165 rfl rfl ?_
        refine j_iadd dX8_pairsOfTables_31 ?_
        refine j_istore_n (lo' := [(1, _), (5, _), (4, _), (3, _), (2, _), (0, _)]) dX8_pairsOfTables_32 (by decide) rfl ?_
        refine j_iinc (lo' := [(4, _), (1, _), (5, _), (3, _), (2, _), (0, _)]) dX8_pairsOfTables_33 rfl rfl (by decide) rfl ?_
        refine j_goto (tgt := 13) dX8_pairsOfTables_36 (by decide) ?_
        refine j_iload dX8_pairsOfTables_13 rfl ?_
        refine j_iload_n dX8_pairsOfTables_15 rfl ?_
        refine j_icmp_ge (tgt := 39) dX8_pairsOfTables_16 (by decide) (fun c_16 => ?_) (fun c_16 => ?_)
        · refine j_iload_n dX8_pairsOfTables_39 rfl ?_
          refine j_iret dX8_pairsOfTables_40 rfl rfl ?_ (Nat.le_of_ble_eq_true rfl) (Nat.le_of_ble_eq_true rfl)
          exact ⟨rfl, rfl, ⟨_, rfl⟩, rfl⟩
        · exact absurd (by decide) c_16
set_option maxRecDepth 100000 in
set_option maxHeartbeats 8000000 in
theorem c_X8_numbersHeard (hl : l.stackTraces = false) (rf : Int32) (kn : Int32) (ma : Int32) (xa : Bool) (fa : Nat → Int32) (ca : Nat → Int32) (mb : Int32) (xb : Bool) (fb : Nat → Int32) (cb : Nat → Int32) (mt : Int32) (xt : Bool) (ft : Nat → Int32) (ct : Nat → Int32) (f0 : Nat → Int32) (g0 : Nat → Int32) (c0 : Nat → Int32) (m0 : Int32) (s0 : Int32) (f1 : Nat → Int32) (g1 : Nat → Int32) (c1 : Nat → Int32) (m1 : Int32) (s1 : Int32) (f2 : Nat → Int32) (g2 : Nat → Int32) (c2 : Nat → Int32) (m2 : Int32) (s2 : Int32) (f3 : Nat → Int32) (g3 : Nat → Int32) (c3 : Nat → Int32) (m3 : Int32) (s3 : Int32) (f4 : Nat → Int32) (g4 : Nat → Int32) (c4 : Nat → Int32) (m4 : Int32) (s4 : Int32) (f5 : Nat → Int32) (g5 : Nat → Int32) (c5 : Nat → Int32) (m5 : Int32) (s5 : Int32) (ek0 : Int32) (em0 : Int32) (es0 : Int32) (el0 : Int32) (b0 : Int32) (ef0 : Nat → Int32) (ek1 : Int32) (em1 : Int32) (es1 : Int32) (el1 : Int32) (b1 : Int32) (ef1 : Nat → Int32) : z_CF G l mX8_numbersHeard 10 0 0 (z_cw rf kn ma xa fa ca mb xb fb cb mt xt ft ct f0 g0 c0 m0 s0 f1 g1 c1 m1 s1 f2 g2 c2 m2 s2 f3 g3 c3 m3 s3 f4 g4 c4 m4 s4 f5 g5 c5 m5 s5 ek0 em0 es0 el0 b0 ef0 ek1 em1 es1 el1 b1 ef1 []) [.ref 0] (fun v L => (∃ x : Int32, v = some (.int x)) ∧ L = (z_cw rf kn ma xa fa ca mb xb fb cb mt xt ft ct f0 g0 c0 m0 s0 f1 g1 c1 m1 s1 f2 g2 c2 m2 s2 f3 g3 c3 m3 s3 f4 g4 c4 m4 s4 f5 g5 c5 m5 s5 ek0 em0 es0 el0 b0 ef0 ek1 em1 es1 el1 b1 ef1 [])) := by
  refine z_body hl (by decide) rfl (Nat.le_of_ble_eq_true rfl) ?_
  show z_J G l mX8_numbersHeard (z_SF 10 0 0 (z_cw rf kn ma xa fa ca mb xb fb cb mt xt ft ct f0 g0 c0 m0 s0 f1 g1 c1 m1 s1 f2 g2 c2 m2 s2 f3 g3 c3 m3 s3 f4 g4 c4 m4 s4 f5 g5 c5 m5 s5 ek0 em0 es0 el0 b0 ef0 ek1 em1 es1 el1 b1 ef1 []) (fun v L => (∃ x : Int32, v = some (.int x)) ∧ L = (z_cw rf kn ma xa fa ca mb xb fb cb mt xt ft ct f0 g0 c0 m0 s0 f1 g1 c1 m1 s1 f2 g2 c2 m2 s2 f3 g3 c3 m3 s3 f4 g4 c4 m4 s4 f5 g5 c5 m5 s5 ek0 em0 es0 el0 b0 ef0 ek1 em1 es1 el1 b1 ef1 []))) 0 [(0, _)] [] _ 0 0
  refine j_iconst (v := 0) dX8_numbersHeard_0 (by decide) ?_
  refine j_istore_n (lo' := [(1, _), (0, _)]) dX8_numbersHeard_1 (by decide) rfl ?_
  refine j_aload_n dX8_numbersHeard_2 rfl rfl ?_
  refine j_getf dX8_numbersHeard_3 fX8_32 rfl rfl ?_
  refine j_astore_n (lo' := [(2, _), (1, _), (0, _)]) dX8_numbersHeard_6 rfl (by decide) rfl ?_
  refine j_aload_n dX8_numbersHeard_7 rfl rfl ?_
  refine j_alen dX8_numbersHeard_8 rfl rfl rfl ?_
  refine j_istore_n (lo' := [(3, _), (2, _), (1, _), (0, _)]) dX8_numbersHeard_9 (by decide) rfl ?_
  refine j_iconst (v := 0) dX8_numbersHeard_10 (by decide) ?_
  refine j_istore (lo' := [(4, _), (3, _), (2, _), (1, _), (0, _)]) dX8_numbersHeard_11 (by decide) rfl ?_
  refine j_iload dX8_numbersHeard_13 rfl ?_
  refine j_iload_n dX8_numbersHeard_15 rfl ?_
  refine j_icmp_ge (tgt := 39) dX8_numbersHeard_16 (by decide) (fun c_16 => ?_) (fun c_16 => ?_)
  · exact absurd c_16 (by decide)
  · refine j_aload_n dX8_numbersHeard_19 rfl rfl ?_
    refine j_iload dX8_numbersHeard_20 rfl ?_
    refine j_aald (v := .ref 27) dX8_numbersHeard_22 rfl rfl rfl (vp_in_iff.mpr (by decide)) rfl ?_
    refine j_astore (lo' := [(5, _), (4, _), (3, _), (2, _), (1, _), (0, _)]) dX8_numbersHeard_23 rfl (by decide) rfl ?_
    refine j_iload_n dX8_numbersHeard_25 rfl ?_
    refine j_aload dX8_numbersHeard_26 rfl rfl ?_
    refine j_getf dX8_numbersHeard_28 fX8_183 rfl rfl ?_
    refine j_iadd dX8_numbersHeard_31 ?_
    refine j_istore_n (lo' := [(1, _), (5, _), (4, _), (3, _), (2, _), (0, _)]) dX8_numbersHeard_32 (by decide) rfl ?_
    refine j_iinc (lo' := [(4, _), (1, _), (5, _), (3, _), (2, _), (0, _)]) dX8_numbersHeard_33 rfl rfl (by decide) rfl ?_
    refine j_goto (tgt := 13) dX8_numbersHeard_36 (by decide) ?_
    refine j_iload dX8_numbersHeard_13 rfl ?_
    refine j_iload_n dX8_numbersHeard_15 rfl ?_
    refine j_icmp_ge (tgt := 39) dX8_numbersHeard_16 (by decide) (fun c_16 => ?_) (fun c_16 => ?_)
    · exact absurd c_16 (by decide)
    · refine j_aload_n dX8_numbersHeard_19 rfl rfl ?_
      refine j_iload dX8_numbersHeard_20 rfl ?_
      refine j_aald (v := .ref 29) dX8_numbersHeard_22 rfl rfl rfl (vp_in_iff.mpr (by decide)) rfl ?_
      refine j_astore (lo' := [(5, _), (4, _), (1, _), (3, _), (2, _), (0, _)]) dX8_numbersHeard_23 rfl (by decide) rfl ?_
      refine j_iload_n dX8_numbersHeard_25 rfl ?_
      refine j_aload dX8_numbersHeard_26 rfl rfl ?_
      refine j_getf dX8_numbersHeard_28 fX8_183 rfl rfl ?_
      refine j_iadd dX8_numbersHeard_31 ?_
      refine j_istore_n (lo' := [(1, _), (5, _), (4, _), (3, _), (2, _), (0, _)]) dX8_numbersHeard_32 (by decide) rfl ?_
      refine j_iinc (lo' := [(4, _), (1, _), (5, _), (3, _), (2, _), (0, _)]) dX8_numbersHeard_33 rfl rfl (by decide) rfl ?_
      refine j_goto (tgt := 13) dX8_numbersHeard_36 (by decide) ?_
      refine j_iload dX8_numbersHeard_13 rfl ?_
      refine j_iload_n dX8_numbersHeard_15 rfl ?_
      refine j_icmp_ge (tgt := 39) dX8_numbersHeard_16 (by decide) (fun c_16 => ?_) (fun c_16 => ?_)
      · refine j_iload_n dX8_numbersHeard_39 rfl ?_
        refine j_iret dX8_numbersHeard_40 rfl rfl ?_ (Nat.le_of_ble_eq_true rfl) (Nat.le_of_ble_eq_true rfl)
        exact ⟨rfl, rfl, ⟨_, rfl⟩, rfl⟩
      · exact absurd (by decide) c_16
end ZL7
end ZM5
