section ZM0
section ZL1
variable {G : z_G} {l : Launch}
set_option maxRecDepth 100000 in
set_option maxHeartbeats 4000000 in
theorem c_X6_add (hl : l.stackTraces = false) (f : Nat → Int32) (p : Int32) : z_CF G l mX6_add 10 0 0 [.inr (11, [.ref 1]), z_ia 7 f] [.ref 0, .int p] (fun v L => v = none ∧ ∃ f' : Nat → Int32, L = [.inr (11, [.ref 1]), z_ia 7 f']) := by
  refine z_body hl (by decide) rfl (Nat.le_of_ble_eq_true rfl) ?_
  show z_J G l mX6_add (z_SF 10 0 0 [.inr (11, [.ref 1]), z_ia 7 f] (fun v L => v = none ∧ ∃ f' : Nat → Int32, L = [.inr (11, [.ref 1]), z_ia 7 f'])) 0 [(0, _), (1, _)] [] _ 0 0
  refine j_iload_n dX6_add_0 rfl ?_
  refine j_if_lt (tgt := 23) dX6_add_1 (by decide) (fun c_1 => ?_) (fun c_1 => ?_)
  · refine j_vret dX6_add_23 rfl ?_ (Nat.le_of_ble_eq_true rfl) (Nat.le_of_ble_eq_true rfl)
    exact ⟨rfl, rfl, rfl, _, rfl⟩
  · refine j_iload_n dX6_add_4 rfl ?_
    refine j_aload_n dX6_add_5 rfl rfl ?_
    refine j_getf dX6_add_6 fX6_9 rfl rfl ?_
    refine j_alen dX6_add_9 rfl rfl rfl ?_
    refine j_icmp_ge (tgt := 23) dX6_add_10 (by decide) (fun c_10 => ?_) (fun c_10 => ?_)
    · refine j_vret dX6_add_23 rfl ?_ (Nat.le_of_ble_eq_true rfl) (Nat.le_of_ble_eq_true rfl)
      exact ⟨rfl, rfl, rfl, _, rfl⟩
    · refine j_aload_n dX6_add_13 rfl rfl ?_
      refine j_getf dX6_add_14 fX6_9 rfl rfl ?_
      refine j_iload_n dX6_add_17 rfl ?_
      refine j_dup2 dX6_add_18 rfl rfl ?_
      refine j_ld dX6_add_19 rfl (z_in c_1 c_10 (by decide)) ?_
      refine j_iconst (v := 1) dX6_add_20 (by decide) ?_
      refine j_iadd dX6_add_21 ?_
      refine j_sto (w' := ([.inr (11, [_]), z_ia 7 _], z_no)) dX6_add_22 rfl (z_in c_1 c_10 (by decide)) rfl ?_
      refine j_vret dX6_add_23 rfl ?_ (Nat.le_of_ble_eq_true rfl) (Nat.le_of_ble_eq_true rfl)
      exact ⟨rfl, rfl, rfl, _, rfl⟩
set_option maxRecDepth 100000 in
set_option maxHeartbeats 4000000 in
theorem c_X6_of (hl : l.stackTraces = false) (f : Nat → Int32) (p : Int32) : z_CF G l mX6_of 10 0 0 [.inr (11, [.ref 1]), z_ia 7 f] [.ref 0, .int p] (fun v L => ∃ x : Int32, v = some (.int x) ∧ L = [.inr (11, [.ref 1]), z_ia 7 f]) := by
  refine z_body hl (by decide) rfl (Nat.le_of_ble_eq_true rfl) ?_
  show z_J G l mX6_of (z_SF 10 0 0 [.inr (11, [.ref 1]), z_ia 7 f] (fun v L => ∃ x : Int32, v = some (.int x) ∧ L = [.inr (11, [.ref 1]), z_ia 7 f])) 0 [(0, _), (1, _)] [] _ 0 0
  refine j_iload_n dX6_of_0 rfl ?_
  refine j_if_lt (tgt := 22) dX6_of_1 (by decide) (fun c_1 => ?_) (fun c_1 => ?_)
  · refine j_iconst (v := 0) dX6_of_22 (by decide) ?_
    refine j_iret dX6_of_23 rfl rfl ?_ (Nat.le_of_ble_eq_true rfl) (Nat.le_of_ble_eq_true rfl)
    exact ⟨rfl, rfl, _, rfl, rfl⟩
  · refine j_iload_n dX6_of_4 rfl ?_
    refine j_aload_n dX6_of_5 rfl rfl ?_
    refine j_getf dX6_of_6 fX6_9 rfl rfl ?_
    refine j_alen dX6_of_9 rfl rfl rfl ?_
    refine j_icmp_ge (tgt := 22) dX6_of_10 (by decide) (fun c_10 => ?_) (fun c_10 => ?_)
    · refine j_iconst (v := 0) dX6_of_22 (by decide) ?_
      refine j_iret dX6_of_23 rfl rfl ?_ (Nat.le_of_ble_eq_true rfl) (Nat.le_of_ble_eq_true rfl)
      exact ⟨rfl, rfl, _, rfl, rfl⟩
    · refine j_aload_n dX6_of_13 rfl rfl ?_
      refine j_getf dX6_of_14 fX6_9 rfl rfl ?_
      refine j_iload_n dX6_of_17 rfl ?_
      refine j_ld dX6_of_18 rfl (z_in c_1 c_10 (by decide)) ?_
      refine j_goto (tgt := 23) dX6_of_19 (by decide) ?_
      refine j_iret dX6_of_23 rfl rfl ?_ (Nat.le_of_ble_eq_true rfl) (Nat.le_of_ble_eq_true rfl)
      exact ⟨rfl, rfl, _, rfl, rfl⟩
set_option maxRecDepth 100000 in
set_option maxHeartbeats 4000000 in
theorem c_X1_isPlace (hl : l.stackTraces = false) (m fx : Int32) (f c : Nat → Int32) (p : Int32) : z_CF G l mX1_isPlace 10 0 0 [.inr (6, [.ref 1, .ref 2, .int m, .int fx]), z_ia 12 f, .inr (11, [.ref 3]), z_ia 7 c] [.ref 0, .int p] (fun v L => ∃ b : Bool, v = some (.int (z_bi b)) ∧ L = [.inr (6, [.ref 1, .ref 2, .int m, .int fx]), z_ia 12 f, .inr (11, [.ref 3]), z_ia 7 c] ∧ (b = true → vp_in p 12)) := by
  refine z_body hl (by decide) rfl (Nat.le_of_ble_eq_true rfl) ?_
  show z_J G l mX1_isPlace (z_SF 10 0 0 [.inr (6, [.ref 1, .ref 2, .int m, .int fx]), z_ia 12 f, .inr (11, [.ref 3]), z_ia 7 c] (fun v L => ∃ b : Bool, v = some (.int (z_bi b)) ∧ L = [.inr (6, [.ref 1, .ref 2, .int m, .int fx]), z_ia 12 f, .inr (11, [.ref 3]), z_ia 7 c] ∧ (b = true → vp_in p 12))) 0 [(0, _), (1, _)] [] _ 0 0
  refine j_iload_n dX1_isPlace_0 rfl ?_
  refine j_if_lt (tgt := 25) dX1_isPlace_1 (by decide) (fun c_1 => ?_) (fun c_1 => ?_)
  · refine j_iconst (v := 0) dX1_isPlace_25 (by decide) ?_
    refine j_iret dX1_isPlace_26 rfl rfl ?_ (Nat.le_of_ble_eq_true rfl) (Nat.le_of_ble_eq_true rfl)
    first | exact ⟨rfl, rfl, true, rfl, rfl, fun _ => z_in c_1 c_18 (by decide)⟩ | exact ⟨rfl, rfl, false, rfl, rfl, fun z => Bool.noConfusion z⟩
  · refine j_iload_n dX1_isPlace_4 rfl ?_
    refine j_aload_n dX1_isPlace_5 rfl rfl ?_
    refine j_getf dX1_isPlace_6 fX1_22 rfl rfl ?_
    refine j_icmp_ge (tgt := 25) dX1_isPlace_9 (by decide) (fun c_9 => ?_) (fun c_9 => ?_)
    · refine j_iconst (v := 0) dX1_isPlace_25 (by decide) ?_
      refine j_iret dX1_isPlace_26 rfl rfl ?_ (Nat.le_of_ble_eq_true rfl) (Nat.le_of_ble_eq_true rfl)
      first | exact ⟨rfl, rfl, true, rfl, rfl, fun _ => z_in c_1 c_18 (by decide)⟩ | exact ⟨rfl, rfl, false, rfl, rfl, fun z => Bool.noConfusion z⟩
    · refine j_iload_n dX1_isPlace_12 rfl ?_
      refine j_aload_n dX1_isPlace_13 rfl rfl ?_
      refine j_getf dX1_isPlace_14 fX1_9 rfl rfl ?_
      refine j_alen dX1_isPlace_17 rfl rfl rfl ?_
      refine j_icmp_ge (tgt := 25) dX1_isPlace_18 (by decide) (fun c_18 => ?_) (fun c_18 => ?_)
      · refine j_iconst (v := 0) dX1_isPlace_25 (by decide) ?_
        refine j_iret dX1_isPlace_26 rfl rfl ?_ (Nat.le_of_ble_eq_true rfl) (Nat.le_of_ble_eq_true rfl)
        first | exact ⟨rfl, rfl, true, rfl, rfl, fun _ => z_in c_1 c_18 (by decide)⟩ | exact ⟨rfl, rfl, false, rfl, rfl, fun z => Bool.noConfusion z⟩
      · refine j_iconst (v := 1) dX1_isPlace_21 (by decide) ?_
        refine j_goto (tgt := 26) dX1_isPlace_22 (by decide) ?_
        refine j_iret dX1_isPlace_26 rfl rfl ?_ (Nat.le_of_ble_eq_true rfl) (Nat.le_of_ble_eq_true rfl)
        first | exact ⟨rfl, rfl, true, rfl, rfl, fun _ => z_in c_1 c_18 (by decide)⟩ | exact ⟨rfl, rfl, false, rfl, rfl, fun z => Bool.noConfusion z⟩
set_option maxRecDepth 100000 in
set_option maxHeartbeats 4000000 in
theorem c_X1_valueAt (hl : l.stackTraces = false) (m fx : Int32) (f c : Nat → Int32) (p : Int32) : z_CF G l mX1_valueAt 11 0 0 [.inr (6, [.ref 1, .ref 2, .int m, .int fx]), z_ia 12 f, .inr (11, [.ref 3]), z_ia 7 c] [.ref 0, .int p] (fun v L => ∃ x : Int32, v = some (.int x) ∧ L = [.inr (6, [.ref 1, .ref 2, .int m, .int fx]), z_ia 12 f, .inr (11, [.ref 3]), z_ia 7 c]) := by
  refine z_body hl (by decide) rfl (Nat.le_of_ble_eq_true rfl) ?_
  show z_J G l mX1_valueAt (z_SF 11 0 0 [.inr (6, [.ref 1, .ref 2, .int m, .int fx]), z_ia 12 f, .inr (11, [.ref 3]), z_ia 7 c] (fun v L => ∃ x : Int32, v = some (.int x) ∧ L = [.inr (6, [.ref 1, .ref 2, .int m, .int fx]), z_ia 12 f, .inr (11, [.ref 3]), z_ia 7 c])) 0 [(0, _), (1, _)] [] _ 0 0
  refine j_aload_n dX1_valueAt_0 rfl rfl ?_
  refine j_iload_n dX1_valueAt_1 rfl ?_
  refine j_callV (q := (RX1, TX1, 4)) dX1_valueAt_2 kX1_isPlace lX1_26 inX1_isPlace seX1_isPlace rfl rfl (z_frame [0, 1, 2, 3] rfl (by decide) (Nat.le_of_ble_eq_true rfl) (c_X1_isPlace hl _ _ _ _ _)) (Nat.le_of_ble_eq_true rfl) ⟨(Nat.le_of_ble_eq_true rfl), (Nat.le_of_ble_eq_true rfl)⟩ rfl (Nat.le_of_ble_eq_true rfl) rfl rfl (fun _ _ h => h.elim) ?_
  rintro _ _ ⟨_, _, ⟨b, rfl, rfl, hb⟩, rfl, rfl⟩
  refine j_ws (L' := [.inr (6, [_, _, _, _]), z_ia 12 _, .inr (11, [_]), z_ia 7 _]) (by decide) rfl rfl ?_
  refine j_if_eq (tgt := 17) dX1_valueAt_5 (by decide) (fun c_5 => ?_) (fun c_5 => ?_)
  · refine j_iconst (v := 0) dX1_valueAt_17 (by decide) ?_
    refine j_iret dX1_valueAt_18 rfl rfl ?_ (Nat.le_of_ble_eq_true rfl) (Nat.le_of_ble_eq_true rfl)
    exact ⟨rfl, rfl, _, rfl, rfl⟩
  · refine j_aload_n dX1_valueAt_8 rfl rfl ?_
    refine j_getf dX1_valueAt_9 fX1_9 rfl rfl ?_
    refine j_iload_n dX1_valueAt_12 rfl ?_
    refine j_ld dX1_valueAt_13 rfl (hb (z_bt c_5)) ?_
    refine j_goto (tgt := 18) dX1_valueAt_14 (by decide) ?_
    refine j_iret dX1_valueAt_18 rfl rfl ?_ (Nat.le_of_ble_eq_true rfl) (Nat.le_of_ble_eq_true rfl)
    exact ⟨rfl, rfl, _, rfl, rfl⟩
set_option maxRecDepth 100000 in
set_option maxHeartbeats 4000000 in
theorem c_X0_tells (hl : l.stackTraces = false) (k m su la ba : Int32) (f : Nat → Int32) (p : Int32) : z_CF G l mX0_tells 10 0 0 [.inr (5, [.ref 1, .int k, .int m, .int su, .int la, .int ba]), z_ia 10 f] [.ref 0, .int p] (fun v L => ∃ x : Int32, v = some (.int x) ∧ L = [.inr (5, [.ref 1, .int k, .int m, .int su, .int la, .int ba]), z_ia 10 f]) := by
  refine z_body hl (by decide) rfl (Nat.le_of_ble_eq_true rfl) ?_
  show z_J G l mX0_tells (z_SF 10 0 0 [.inr (5, [.ref 1, .int k, .int m, .int su, .int la, .int ba]), z_ia 10 f] (fun v L => ∃ x : Int32, v = some (.int x) ∧ L = [.inr (5, [.ref 1, .int k, .int m, .int su, .int la, .int ba]), z_ia 10 f])) 0 [(0, _), (1, _)] [] _ 0 0
  refine j_iload_n dX0_tells_0 rfl ?_
  rcases z_sw3 p with rfl | rfl | rfl | hp
  · refine j_tsIn (tgt := 28) dX0_tells_1 (by decide) (by decide) rfl (by decide) ?_
    refine j_aload_n dX0_tells_28 rfl rfl ?_
    refine j_getf dX0_tells_29 fX0_22 rfl rfl ?_
    refine j_iret dX0_tells_32 rfl rfl ?_ (Nat.le_of_ble_eq_true rfl) (Nat.le_of_ble_eq_true rfl)
    exact ⟨rfl, rfl, _, rfl, rfl⟩
  · refine j_tsIn (tgt := 33) dX0_tells_1 (by decide) (by decide) rfl (by decide) ?_
    refine j_aload_n dX0_tells_33 rfl rfl ?_
    refine j_getf dX0_tells_34 fX0_25 rfl rfl ?_
    refine j_iret dX0_tells_37 rfl rfl ?_ (Nat.le_of_ble_eq_true rfl) (Nat.le_of_ble_eq_true rfl)
    exact ⟨rfl, rfl, _, rfl, rfl⟩
  · refine j_tsIn (tgt := 38) dX0_tells_1 (by decide) (by decide) rfl (by decide) ?_
    refine j_aload_n dX0_tells_38 rfl rfl ?_
    refine j_getf dX0_tells_39 fX0_15 rfl rfl ?_
    refine j_iret dX0_tells_42 rfl rfl ?_ (Nat.le_of_ble_eq_true rfl) (Nat.le_of_ble_eq_true rfl)
    exact ⟨rfl, rfl, _, rfl, rfl⟩
  · refine j_tsOut (tgt := 43) dX0_tells_1 hp (by decide) ?_
    refine j_aload_n dX0_tells_43 rfl rfl ?_
    refine j_getf dX0_tells_44 fX0_19 rfl rfl ?_
    refine j_iret dX0_tells_47 rfl rfl ?_ (Nat.le_of_ble_eq_true rfl) (Nat.le_of_ble_eq_true rfl)
    exact ⟨rfl, rfl, _, rfl, rfl⟩
end ZL1
end ZM0
section ZM1
section ZL2
variable {G : z_G} {l : Launch}
set_option maxRecDepth 100000 in
set_option maxHeartbeats 4000000 in
theorem c_X4_look (hl : l.stackTraces = false) (f g c : Nat → Int32) (m so : Int32) (p : Int32) : z_CF G l mX4_look 10 0 0 [.inr (9, [.int so, .ref 1, .ref 2, .ref 3, .int m]), z_ia 20 f, z_ia 20 g, .inr (11, [.ref 4]), z_ia 7 c] [.ref 0, .int p] (fun v L => ∃ x : Int32, v = some (.int x) ∧ L = [.inr (9, [.int so, .ref 1, .ref 2, .ref 3, .int m]), z_ia 20 f, z_ia 20 g, .inr (11, [.ref 4]), z_ia 7 c]) := by
  refine z_body hl (by decide) rfl (Nat.le_of_ble_eq_true rfl) ?_
  show z_J G l mX4_look (z_SF 10 0 0 [.inr (9, [.int so, .ref 1, .ref 2, .ref 3, .int m]), z_ia 20 f, z_ia 20 g, .inr (11, [.ref 4]), z_ia 7 c] (fun v L => ∃ x : Int32, v = some (.int x) ∧ L = [.inr (9, [.int so, .ref 1, .ref 2, .ref 3, .int m]), z_ia 20 f, z_ia 20 g, .inr (11, [.ref 4]), z_ia 7 c])) 0 [(0, _), (1, _)] [] _ 0 0
  refine j_iload_n dX4_look_0 rfl ?_
  refine j_if_lt (tgt := 22) dX4_look_1 (by decide) (fun c_1 => ?_) (fun c_1 => ?_)
  · refine j_sipush (v := (-1000)) dX4_look_22 (by decide) ?_
    refine j_iret dX4_look_25 rfl rfl ?_ (Nat.le_of_ble_eq_true rfl) (Nat.le_of_ble_eq_true rfl)
    exact ⟨rfl, rfl, _, rfl, rfl⟩
  · refine j_iload_n dX4_look_4 rfl ?_
    refine j_aload_n dX4_look_5 rfl rfl ?_
    refine j_getf dX4_look_6 fX4_9 rfl rfl ?_
    refine j_alen dX4_look_9 rfl rfl rfl ?_
    refine j_icmp_ge (tgt := 22) dX4_look_10 (by decide) (fun c_10 => ?_) (fun c_10 => ?_)
    · refine j_sipush (v := (-1000)) dX4_look_22 (by decide) ?_
      refine j_iret dX4_look_25 rfl rfl ?_ (Nat.le_of_ble_eq_true rfl) (Nat.le_of_ble_eq_true rfl)
      exact ⟨rfl, rfl, _, rfl, rfl⟩
    · refine j_aload_n dX4_look_13 rfl rfl ?_
      refine j_getf dX4_look_14 fX4_9 rfl rfl ?_
      refine j_iload_n dX4_look_17 rfl ?_
      refine j_ld dX4_look_18 rfl (z_in c_1 c_10 (by decide)) ?_
      refine j_goto (tgt := 25) dX4_look_19 (by decide) ?_
      refine j_iret dX4_look_25 rfl rfl ?_ (Nat.le_of_ble_eq_true rfl) (Nat.le_of_ble_eq_true rfl)
      exact ⟨rfl, rfl, _, rfl, rfl⟩
set_option maxRecDepth 100000 in
set_option maxHeartbeats 4000000 in
theorem c_X4_keyAt (hl : l.stackTraces = false) (f g c : Nat → Int32) (m so : Int32) (p : Int32) : z_CF G l mX4_keyAt 10 0 0 [.inr (9, [.int so, .ref 1, .ref 2, .ref 3, .int m]), z_ia 20 f, z_ia 20 g, .inr (11, [.ref 4]), z_ia 7 c] [.ref 0, .int p] (fun v L => ∃ x : Int32, v = some (.int x) ∧ L = [.inr (9, [.int so, .ref 1, .ref 2, .ref 3, .int m]), z_ia 20 f, z_ia 20 g, .inr (11, [.ref 4]), z_ia 7 c]) := by
  refine z_body hl (by decide) rfl (Nat.le_of_ble_eq_true rfl) ?_
  show z_J G l mX4_keyAt (z_SF 10 0 0 [.inr (9, [.int so, .ref 1, .ref 2, .ref 3, .int m]), z_ia 20 f, z_ia 20 g, .inr (11, [.ref 4]), z_ia 7 c] (fun v L => ∃ x : Int32, v = some (.int x) ∧ L = [.inr (9, [.int so, .ref 1, .ref 2, .ref 3, .int m]), z_ia 20 f, z_ia 20 g, .inr (11, [.ref 4]), z_ia 7 c])) 0 [(0, _), (1, _)] [] _ 0 0
  refine j_iload_n dX4_keyAt_0 rfl ?_
  refine j_if_lt (tgt := 30) dX4_keyAt_1 (by decide) (fun c_1 => ?_) (fun c_1 => ?_)
  · refine j_iconst (v := 0) dX4_keyAt_30 (by decide) ?_
    refine j_iret dX4_keyAt_31 rfl rfl ?_ (Nat.le_of_ble_eq_true rfl) (Nat.le_of_ble_eq_true rfl)
    exact ⟨rfl, rfl, _, rfl, rfl⟩
  · refine j_iload_n dX4_keyAt_4 rfl ?_
    refine j_aload_n dX4_keyAt_5 rfl rfl ?_
    refine j_getf dX4_keyAt_6 fX4_29 rfl rfl ?_
    refine j_icmp_ge (tgt := 30) dX4_keyAt_9 (by decide) (fun c_9 => ?_) (fun c_9 => ?_)
    · refine j_iconst (v := 0) dX4_keyAt_30 (by decide) ?_
      refine j_iret dX4_keyAt_31 rfl rfl ?_ (Nat.le_of_ble_eq_true rfl) (Nat.le_of_ble_eq_true rfl)
      exact ⟨rfl, rfl, _, rfl, rfl⟩
    · refine j_iload_n dX4_keyAt_12 rfl ?_
      refine j_aload_n dX4_keyAt_13 rfl rfl ?_
      refine j_getf dX4_keyAt_14 fX4_15 rfl rfl ?_
      refine j_alen dX4_keyAt_17 rfl rfl rfl ?_
      refine j_icmp_ge (tgt := 30) dX4_keyAt_18 (by decide) (fun c_18 => ?_) (fun c_18 => ?_)
      · refine j_iconst (v := 0) dX4_keyAt_30 (by decide) ?_
        refine j_iret dX4_keyAt_31 rfl rfl ?_ (Nat.le_of_ble_eq_true rfl) (Nat.le_of_ble_eq_true rfl)
        exact ⟨rfl, rfl, _, rfl, rfl⟩
      · refine j_aload_n dX4_keyAt_21 rfl rfl ?_
        refine j_getf dX4_keyAt_22 fX4_15 rfl rfl ?_
        refine j_iload_n dX4_keyAt_25 rfl ?_
        refine j_ld dX4_keyAt_26 rfl (z_in c_1 c_18 (by decide)) ?_
        refine j_goto (tgt := 31) dX4_keyAt_27 (by decide) ?_
        refine j_iret dX4_keyAt_31 rfl rfl ?_ (Nat.le_of_ble_eq_true rfl) (Nat.le_of_ble_eq_true rfl)
        exact ⟨rfl, rfl, _, rfl, rfl⟩
end ZL2
end ZM1
section ZM2
section ZL3
variable {G : z_G} {l : Launch}
set_option maxRecDepth 100000 in
set_option maxHeartbeats 8000000 in
theorem c_X8_oneIf (hl : l.stackTraces = false) (w : z_W) (a : Int32) : z_Con G l mX8_oneIf 10 0 0 w [.int a] (fun v w9 => (∃ x : Int32, v = some (.int x)) ∧ w9 = w) (fun _ _ => False) := by
  refine z_body hl (by decide) rfl (Nat.le_of_ble_eq_true rfl) ?_
  show z_J G l mX8_oneIf ((10, 0, 0, w, (fun v w9 => (∃ x : Int32, v = some (.int x)) ∧ w9 = w), fun _ _ => False)) 0 [(0, _)] [] _ 0 0
  refine j_iload_n dX8_oneIf_0 rfl ?_
  refine j_if_eq (tgt := 8) dX8_oneIf_1 (by decide) (fun c_1 => ?_) (fun c_1 => ?_)
  · refine j_iconst (v := 0) dX8_oneIf_8 (by decide) ?_
    refine j_iret dX8_oneIf_9 rfl rfl ?_ (Nat.le_of_ble_eq_true rfl) (Nat.le_of_ble_eq_true rfl)
    exact ⟨⟨_, rfl⟩, rfl⟩
  · refine j_iconst (v := 1) dX8_oneIf_4 (by decide) ?_
    refine j_goto (tgt := 9) dX8_oneIf_5 (by decide) ?_
    refine j_iret dX8_oneIf_9 rfl rfl ?_ (Nat.le_of_ble_eq_true rfl) (Nat.le_of_ble_eq_true rfl)
    exact ⟨⟨_, rfl⟩, rfl⟩
set_option maxRecDepth 100000 in
set_option maxHeartbeats 8000000 in
theorem c_X8_mixed (hl : l.stackTraces = false) (w : z_W) (a : Int64) (b : Int32) : z_Con G l mX8_mixed 10 0 0 w [.long a, .int b] (fun v w9 => (∃ x : Int64, v = some (.long x)) ∧ w9 = w) (fun _ _ => False) := by
  refine z_body hl (by decide) rfl (Nat.le_of_ble_eq_true rfl) ?_
  show z_J G l mX8_mixed ((10, 0, 0, w, (fun v w9 => (∃ x : Int64, v = some (.long x)) ∧ w9 = w), fun _ _ => False)) 0 [(0, _), (2, _)] [] _ 0 0
  refine j_lload_n dX8_mixed_0 rfl ?_
  refine j_ldc2 dX8_mixed_1 kcX8_350 ?_
  refine j_lmul dX8_mixed_4 ?_
  refine j_iload_n dX8_mixed_5 rfl ?_
  refine j_i2l dX8_mixed_6 ?_
  refine j_ladd dX8_mixed_7 ?_
  refine j_lret dX8_mixed_8 rfl ?_ (Nat.le_of_ble_eq_true rfl) (Nat.le_of_ble_eq_true rfl)
  exact ⟨⟨_, rfl⟩, rfl⟩
end ZL3
end ZM2
section ZM3
section ZL4
variable {G : z_G} {l : Launch}
set_option maxRecDepth 100000 in
set_option maxHeartbeats 8000000 in
theorem c_X6_init (hl : l.stackTraces = false)  : z_CN G l mX6_init 10 1 7 1 [.inr (11, [.null])] [.ref 0] (fun v L => v = none ∧ ∃ c : Nat → Int32, L = [.inr (11, [.ref 1]), z_ia 7 c]) := by
  refine z_body hl (by decide) rfl (Nat.le_of_ble_eq_true rfl) ?_
  show z_J G l mX6_init (z_SN 10 1 7 1 [.inr (11, [.null])] (fun v L => v = none ∧ ∃ c : Nat → Int32, L = [.inr (11, [.ref 1]), z_ia 7 c])) 0 [(0, _)] [] _ 0 0
  refine j_aload_n dX6_init_0 rfl rfl ?_
  refine j_objI dX6_init_1 oX6_3 z_oi1 z_oi2 (Nat.le_of_ble_eq_true rfl) (Nat.le_of_ble_eq_true rfl) ?_
  refine j_aload_n dX6_init_4 rfl rfl ?_
  refine j_bipush (v := 7) dX6_init_5 (by decide) ?_
  refine j_newa (kd := 0) (N := 7) (w' := ([.inr (11, [_]), _], z_no)) (n := 1) dX6_init_7 rfl rfl arc_int ⟨rfl, fun _ _ h => h⟩ (by decide) rfl (by decide) rfl (z_al_l rfl rfl) (Nat.le_of_ble_eq_true rfl) (Nat.le_of_ble_eq_true rfl) ?_
  refine j_putF (w' := ([.inr (11, [_]), _], z_no)) dX6_init_9 fX6_9 tX6_0 rfl (z_dc rfl rfl (z_w 103 ((lwg_1 58).trans rfl) (by decide +kernel))) rfl (Or.inr ⟨_, rfl⟩) rfl ?_
  refine j_vret dX6_init_12 rfl ?_ (Nat.le_of_ble_eq_true rfl) (Nat.le_of_ble_eq_true rfl)
  exact ⟨rfl, (Nat.le_of_ble_eq_true rfl), rfl, _, rfl⟩
set_option maxRecDepth 100000 in
set_option maxHeartbeats 8000000 in
theorem c_X0_init (hl : l.stackTraces = false)  : z_CN G l mX0_init 11 1 10 1 [.inr (5, [.null, .int 0, .int 0, .int 0, .int 0, .int 0])] [.ref 0] (fun v L => v = none ∧ ∃ f : Nat → Int32, L = [.inr (5, [.ref 1, .int 0, .int 0, .int 0, .int (-1), .int (-1000)]), z_ia 10 f]) := by
  refine z_body hl (by decide) rfl (Nat.le_of_ble_eq_true rfl) ?_
  show z_J G l mX0_init (z_SN 11 1 10 1 [.inr (5, [.null, .int 0, .int 0, .int 0, .int 0, .int 0])] (fun v L => v = none ∧ ∃ f : Nat → Int32, L = [.inr (5, [.ref 1, .int 0, .int 0, .int 0, .int (-1), .int (-1000)]), z_ia 10 f])) 0 [(0, _)] [] _ 0 0
  refine j_aload_n dX0_init_0 rfl rfl ?_
  refine j_objI dX0_init_1 oX0_3 z_oi1 z_oi2 (Nat.le_of_ble_eq_true rfl) (Nat.le_of_ble_eq_true rfl) ?_
  refine j_aload_n dX0_init_4 rfl rfl ?_
  refine j_bipush (v := 10) dX0_init_5 (by decide) ?_
  refine j_newa (kd := 0) (N := 10) (w' := ([.inr (5, [_, _, _, _, _, _]), _], z_no)) (n := 1) dX0_init_7 rfl rfl arc_int ⟨rfl, fun _ _ h => h⟩ (by decide) rfl (by decide) rfl (z_al_l rfl rfl) (Nat.le_of_ble_eq_true rfl) (Nat.le_of_ble_eq_true rfl) ?_
  refine j_putF (w' := ([.inr (5, [_, _, _, _, _, _]), _], z_no)) dX0_init_9 fX0_9 tX0_0 rfl (z_dc rfl rfl (z_w 163 ((lwg_1 118).trans rfl) (by decide +kernel))) rfl (Or.inr ⟨_, rfl⟩) rfl ?_
  refine j_aload_n dX0_init_12 rfl rfl ?_
  refine j_iconst (v := (-1)) dX0_init_13 (by decide) ?_
  refine j_put (w' := ([.inr (5, [_, _, _, _, _, _]), _], z_no)) dX0_init_14 fX0_15 tX0_4 rfl ⟨rfl, rfl⟩ rfl ?_
  refine j_aload_n dX0_init_17 rfl rfl ?_
  refine j_sipush (v := (-1000)) dX0_init_18 (by decide) ?_
  refine j_put (w' := ([.inr (5, [_, _, _, _, _, _]), _], z_no)) dX0_init_21 fX0_19 tX0_5 rfl ⟨rfl, rfl⟩ rfl ?_
  refine j_vret dX0_init_24 rfl ?_ (Nat.le_of_ble_eq_true rfl) (Nat.le_of_ble_eq_true rfl)
  exact ⟨rfl, (Nat.le_of_ble_eq_true rfl), rfl, _, rfl⟩
set_option maxRecDepth 100000 in
set_option maxHeartbeats 8000000 in
theorem c_X7_init_X3 (hl : l.stackTraces = false) (k u to by9 a : Int32) (c : Nat → Int32) : z_CF G l mX7_init 12 0 0 [.inr (8, [.null, .int k, .int u, .int to, .int by9, .int a]), .inr (11, [.ref 2]), z_ia 7 c] [.ref 0, .ref 1] (fun v L => v = none ∧ ∃ c' : Nat → Int32, L = [.inr (8, [.ref 1, .int k, .int u, .int to, .int by9, .int a]), .inr (11, [.ref 2]), z_ia 7 c']) := by
  refine z_body hl (by decide) rfl (Nat.le_of_ble_eq_true rfl) ?_
  show z_J G l mX7_init (z_SF 12 0 0 [.inr (8, [.null, .int k, .int u, .int to, .int by9, .int a]), .inr (11, [.ref 2]), z_ia 7 c] (fun v L => v = none ∧ ∃ c' : Nat → Int32, L = [.inr (8, [.ref 1, .int k, .int u, .int to, .int by9, .int a]), .inr (11, [.ref 2]), z_ia 7 c'])) 0 [(0, _), (1, _)] [] _ 0 0
  refine j_aload_n dX7_init_0 rfl rfl ?_
  refine j_objI dX7_init_1 oX7_3 z_oi1 z_oi2 (Nat.le_of_ble_eq_true rfl) (Nat.le_of_ble_eq_true rfl) ?_
  refine j_aload_n dX7_init_4 rfl rfl ?_
  refine j_aload_n dX7_init_5 rfl rfl ?_
  refine j_putF (w' := ([.inr (8, [_, _, _, _, _, _]), .inr (11, [_]), z_ia 7 _], z_no)) dX7_init_6 fX7_9_X3 tX3_0 rfl (z_dc rfl rfl (z_w 254 ((lwg_1 209).trans rfl) (by decide +kernel))) rfl (Or.inl ⟨_, rfl⟩) rfl ?_
  refine j_aload_n dX7_init_9 rfl rfl ?_
  refine j_iconst (v := 0) dX7_init_10 (by decide) ?_
  refine j_callV (q := (RX6, TX6, 1)) dX7_init_11 kX6_add lX7_15 inX6_add seX6_add rfl rfl (z_frame [1, 2] rfl (by decide) (Nat.le_of_ble_eq_true rfl) (c_X6_add hl _ _)) (Nat.le_of_ble_eq_true rfl) ⟨(Nat.le_of_ble_eq_true rfl), (Nat.le_of_ble_eq_true rfl)⟩ rfl (Nat.le_of_ble_eq_true rfl) rfl rfl (fun _ _ h => h.elim) ?_
  rintro _ _ ⟨_, _, ⟨rfl, _, rfl⟩, rfl, rfl⟩
  refine j_ws (L' := [.inr (8, [_, _, _, _, _, _]), .inr (11, [_]), z_ia 7 _]) (by decide) rfl rfl ?_
  refine j_vret dX7_init_14 rfl ?_ (Nat.le_of_ble_eq_true rfl) (Nat.le_of_ble_eq_true rfl)
  exact ⟨rfl, rfl, rfl, _, rfl⟩
set_option maxRecDepth 100000 in
set_option maxHeartbeats 8000000 in
theorem c_X3_init (hl : l.stackTraces = false) (a b e : Int32) : z_CN G l mX3_init 13 2 8 2 [.inr (8, [.null, .int 0, .int 0, .int 0, .int 0, .int 0])] [.ref 0, .int a, .int b, .int e] (fun v L => v = none ∧ ∃ c : Nat → Int32, L = [.inr (8, [.ref 1, .int 0, .int 0, .int b, .int e, .int a]), .inr (11, [.ref 2]), z_ia 7 c]) := by
  refine z_body hl (by decide) rfl (Nat.le_of_ble_eq_true rfl) ?_
  show z_J G l mX3_init (z_SN 13 2 8 2 [.inr (8, [.null, .int 0, .int 0, .int 0, .int 0, .int 0])] (fun v L => v = none ∧ ∃ c : Nat → Int32, L = [.inr (8, [.ref 1, .int 0, .int 0, .int b, .int e, .int a]), .inr (11, [.ref 2]), z_ia 7 c])) 0 [(0, _), (1, _), (2, _), (3, _)] [] _ 0 0
  refine j_aload_n dX3_init_0 rfl rfl ?_
  refine j_new (w' := ([.inr (8, [_, _, _, _, _, _]), _], z_no)) (n := 1) dX3_init_1 nX3_1 rfl (z_al_l rfl rfl) (Nat.le_of_ble_eq_true rfl) (Nat.le_of_ble_eq_true rfl) ?_
  refine j_dup dX3_init_4 rfl ?_
  refine j_callIN dX3_init_5 kX6_init rfl lX3_3 inX6_init rfl (z_frameN [1] rfl (by decide) (Nat.le_of_ble_eq_true rfl) (Nat.le_of_ble_eq_true rfl) (c_X6_init hl)) (Nat.le_of_ble_eq_true rfl) ⟨(Nat.le_of_ble_eq_true rfl), (Nat.le_of_ble_eq_true rfl)⟩ rfl (Nat.le_of_ble_eq_true rfl) rfl rfl (fun _ _ h => h.elim) ?_
  rintro _ _ ⟨_, _, ⟨rfl, _, rfl⟩, rfl, rfl⟩
  refine j_w ([.inr (8, [_, _, _, _, _, _]), _, _], z_no) rfl ?_
  refine j_callI dX3_init_8 kX7_init rfl lX3_7 inX7_init rfl (z_frame [0, 1, 2] rfl (by decide) (Nat.le_of_ble_eq_true rfl) (c_X7_init_X3 hl _ _ _ _ _ _)) (Nat.le_of_ble_eq_true rfl) ⟨(Nat.le_of_ble_eq_true rfl), (Nat.le_of_ble_eq_true rfl)⟩ rfl (Nat.le_of_ble_eq_true rfl) rfl rfl (fun _ _ h => h.elim) ?_
  rintro _ _ ⟨_, _, ⟨rfl, _, rfl⟩, rfl, rfl⟩
  refine j_ws (L' := [.inr (8, [_, _, _, _, _, _]), .inr (11, [_]), z_ia 7 _]) (by decide) rfl rfl ?_
  refine j_aload_n dX3_init_11 rfl rfl ?_
  refine j_iload_n dX3_init_12 rfl ?_
  refine j_put (w' := ([.inr (8, [_, _, _, _, _, _]), .inr (11, [_]), z_ia 7 _], z_no)) dX3_init_13 fX3_12 tX3_5 rfl ⟨rfl, rfl⟩ rfl ?_
  refine j_aload_n dX3_init_16 rfl rfl ?_
  refine j_iload_n dX3_init_17 rfl ?_
  refine j_putF (w' := ([.inr (8, [_, _, _, _, _, _]), .inr (11, [_]), z_ia 7 _], z_no)) dX3_init_18 fX3_18 tX3_3 rfl (z_dc rfl rfl (z_w 1161 ((lwg_5 156).trans rfl) (by decide +kernel))) rfl ⟨rfl, rfl⟩ rfl ?_
  refine j_aload_n dX3_init_21 rfl rfl ?_
  refine j_iload_n dX3_init_22 rfl ?_
  refine j_putF (w' := ([.inr (8, [_, _, _, _, _, _]), .inr (11, [_]), z_ia 7 _], z_no)) dX3_init_23 fX3_21 tX3_4 rfl (z_dc rfl rfl (z_w 1162 ((lwg_5 157).trans rfl) (by decide +kernel))) rfl ⟨rfl, rfl⟩ rfl ?_
  refine j_vret dX3_init_26 rfl ?_ (Nat.le_of_ble_eq_true rfl) (Nat.le_of_ble_eq_true rfl)
  exact ⟨rfl, (Nat.le_of_ble_eq_true rfl), rfl, _, rfl⟩
set_option maxRecDepth 100000 in
set_option maxHeartbeats 8000000 in
theorem c_X8_mixedRow (hl : l.stackTraces = false) (m fx : Int32) (f c : Nat → Int32) (a : Int64) : z_CF G l mX8_mixedRow 12 0 0 [.inr (6, [.ref 1, .ref 2, .int m, .int fx]), z_ia 12 f, .inr (11, [.ref 3]), z_ia 7 c] [.long a, .ref 0] (fun v L => (∃ x : Int64, v = some (.long x)) ∧ L = [.inr (6, [.ref 1, .ref 2, .int m, .int fx]), z_ia 12 f, .inr (11, [.ref 3]), z_ia 7 c]) := by
  refine z_body hl (by decide) rfl (Nat.le_of_ble_eq_true rfl) ?_
  show z_J G l mX8_mixedRow (z_SF 12 0 0 [.inr (6, [.ref 1, .ref 2, .int m, .int fx]), z_ia 12 f, .inr (11, [.ref 3]), z_ia 7 c] (fun v L => (∃ x : Int64, v = some (.long x)) ∧ L = [.inr (6, [.ref 1, .ref 2, .int m, .int fx]), z_ia 12 f, .inr (11, [.ref 3]), z_ia 7 c])) 0 [(0, _), (2, _)] [] _ 0 0
  refine j_lload_n dX8_mixedRow_0 rfl ?_
  refine j_aload_n dX8_mixedRow_1 rfl rfl ?_
  refine j_getf dX8_mixedRow_2 fX8_68 rfl rfl ?_
  refine j_callS dX8_mixedRow_5 kX8_mixed lX8_277 stX8_mixed (c_X8_mixed hl _ _ _) (Nat.le_of_ble_eq_true rfl) ⟨(Nat.le_of_ble_eq_true rfl), (Nat.le_of_ble_eq_true rfl)⟩ rfl (Nat.le_of_ble_eq_true rfl) rfl rfl (fun _ _ h => h.elim) ?_
  rintro _ _ ⟨⟨_, rfl⟩, rfl⟩
  refine j_lstore_n (lo' := [(3, _), (0, _), (2, _)]) dX8_mixedRow_8 (by decide) rfl ?_
  refine j_iconst (v := 0) dX8_mixedRow_9 (by decide) ?_
  refine j_istore (lo' := [(5, _), (3, _), (0, _), (2, _)]) dX8_mixedRow_10 (by decide) rfl ?_
  have loop : ∀ (n : Nat) (p : Int32) (q : Int64), ((m).toInt - (p).toInt).toNat < n → z_J G l mX8_mixedRow (z_SF 12 0 0 [.inr (6, [.ref 1, .ref 2, .int m, .int fx]), z_ia 12 f, .inr (11, [.ref 3]), z_ia 7 c] (fun v L => (∃ x : Int64, v = some (.long x)) ∧ L = [.inr (6, [.ref 1, .ref 2, .int m, .int fx]), z_ia 12 f, .inr (11, [.ref 3]), z_ia 7 c])) 12 [(0, .long a), (2, .ref 0), (3, .long q), (5, .int p)] [] ([.inr (6, [.ref 1, .ref 2, .int m, .int fx]), z_ia 12 f, .inr (11, [.ref 3]), z_ia 7 c], z_no) 0 0 := by
    intro n
    induction n with
    | zero => intro p q h1; exact absurd h1 (Nat.not_lt_zero _)
    | succ n ih =>
      intro p q h1
      refine j_iload dX8_mixedRow_12 rfl ?_
      refine j_aload_n dX8_mixedRow_14 rfl rfl ?_
      refine j_getf dX8_mixedRow_15 fX8_68 rfl rfl ?_
      refine j_icmp_ge (tgt := 38) dX8_mixedRow_18 (by decide) (fun c_18 => ?_) (fun c_18 => ?_)
      · refine j_lload_n dX8_mixedRow_38 rfl ?_
        refine j_aload_n dX8_mixedRow_39 rfl rfl ?_
        refine j_getf dX8_mixedRow_40 fX8_79 rfl rfl ?_
        refine j_callS dX8_mixedRow_43 kX8_oneIf lX8_83 stX8_oneIf (c_X8_oneIf hl _ _) (Nat.le_of_ble_eq_true rfl) ⟨(Nat.le_of_ble_eq_true rfl), (Nat.le_of_ble_eq_true rfl)⟩ rfl (Nat.le_of_ble_eq_true rfl) rfl rfl (fun _ _ h => h.elim) ?_
        rintro _ _ ⟨⟨_, rfl⟩, rfl⟩
        refine j_callS dX8_mixedRow_46 kX8_mixed lX8_277 stX8_mixed (c_X8_mixed hl _ _ _) (Nat.le_of_ble_eq_true rfl) ⟨(Nat.le_of_ble_eq_true rfl), (Nat.le_of_ble_eq_true rfl)⟩ rfl (Nat.le_of_ble_eq_true rfl) rfl rfl (fun _ _ h => h.elim) ?_
        rintro _ _ ⟨⟨_, rfl⟩, rfl⟩
        refine j_lstore_n (lo' := [(3, _), (0, _), (2, _), (5, _)]) dX8_mixedRow_49 (by decide) rfl ?_
        refine j_iconst (v := 0) dX8_mixedRow_50 (by decide) ?_
        refine j_istore (lo' := [(5, _), (3, _), (0, _), (2, _)]) dX8_mixedRow_51 (by decide) rfl ?_
        have loop2 : ∀ (n j : Nat) (q : Int64), j ≤ 5 → 5 < j + n → z_J G l mX8_mixedRow (z_SF 12 0 0 [.inr (6, [.ref 1, .ref 2, .int m, .int fx]), z_ia 12 f, .inr (11, [.ref 3]), z_ia 7 c] (fun v L => (∃ x : Int64, v = some (.long x)) ∧ L = [.inr (6, [.ref 1, .ref 2, .int m, .int fx]), z_ia 12 f, .inr (11, [.ref 3]), z_ia 7 c])) 53 [(0, .long a), (2, .ref 0), (3, .long q), (5, .int (nI j))] [] ([.inr (6, [.ref 1, .ref 2, .int m, .int fx]), z_ia 12 f, .inr (11, [.ref 3]), z_ia 7 c], z_no) 0 0 := by
          intro n
          induction n with
          | zero => intro j q h1 h2 ; exact absurd h2 (by omega)
          | succ n ih =>
            intro j q h1 h2
            refine j_iload dX8_mixedRow_53 rfl ?_
            refine j_iconst (v := 4) dX8_mixedRow_55 (by decide) ?_
            refine j_icmp_gt (tgt := 79) dX8_mixedRow_56 (by decide) (fun c_56 => ?_) (fun c_56 => ?_)
            · refine j_lload_n dX8_mixedRow_79 rfl ?_
              refine j_lret dX8_mixedRow_80 rfl ?_ (Nat.le_of_ble_eq_true rfl) (Nat.le_of_ble_eq_true rfl)
              exact ⟨rfl, rfl, ⟨_, rfl⟩, rfl⟩
            · have hj : j ≤ 4 := z_leZ 4 rfl c_56 (by omega) (by decide)
              refine j_lload_n dX8_mixedRow_59 rfl ?_
              refine j_aload_n dX8_mixedRow_60 rfl rfl ?_
              refine j_getf dX8_mixedRow_61 fX8_214 rfl rfl ?_
              refine j_iload dX8_mixedRow_64 rfl ?_
              refine j_callV (q := (RX6, TX6, 1)) dX8_mixedRow_66 kX6_of lX8_218 inX6_of seX6_of rfl rfl (z_frame [2, 3] rfl (by decide) (Nat.le_of_ble_eq_true rfl) (c_X6_of hl _ _)) (Nat.le_of_ble_eq_true rfl) ⟨(Nat.le_of_ble_eq_true rfl), (Nat.le_of_ble_eq_true rfl)⟩ rfl (Nat.le_of_ble_eq_true rfl) rfl rfl (fun _ _ h => h.elim) ?_
              rintro _ _ ⟨_, _, ⟨_, rfl, rfl⟩, rfl, rfl⟩
              refine j_ws (L' := [.inr (6, [_, _, _, _]), z_ia 12 _, .inr (11, [_]), z_ia 7 _]) (by decide) rfl rfl ?_
              refine j_callS dX8_mixedRow_69 kX8_mixed lX8_277 stX8_mixed (c_X8_mixed hl _ _ _) (Nat.le_of_ble_eq_true rfl) ⟨(Nat.le_of_ble_eq_true rfl), (Nat.le_of_ble_eq_true rfl)⟩ rfl (Nat.le_of_ble_eq_true rfl) rfl rfl (fun _ _ h => h.elim) ?_
              rintro _ _ ⟨⟨_, rfl⟩, rfl⟩
              refine j_lstore_n (lo' := [(3, _), (0, _), (2, _), (5, _)]) dX8_mixedRow_72 (by decide) rfl ?_
              refine j_iinc (lo' := [(5, _), (3, _), (0, _), (2, _)]) dX8_mixedRow_73 rfl (z_inc _) (by decide) rfl ?_
              refine j_goto (tgt := 53) dX8_mixedRow_76 (by decide) ?_
              exact j_lo2 (ih (j + 1) _ (by omega) (by omega)) (z_q1 rfl (z_q1 rfl (z_q1 rfl (z_q1 rfl z_q0))))
        exact j_lo2 (loop2 (5 + 1) 0 _ (by omega) (by omega)) (z_q1 rfl (z_q1 rfl (z_q1 rfl (z_q1 rfl z_q0))))
      · refine j_lload_n dX8_mixedRow_21 rfl ?_
        refine j_aload_n dX8_mixedRow_22 rfl rfl ?_
        refine j_iload dX8_mixedRow_23 rfl ?_
        refine j_callV (q := (RX1, TX1, 4)) dX8_mixedRow_25 kX1_valueAt lX8_203 inX1_valueAt seX1_valueAt rfl rfl (z_frame [0, 1, 2, 3] rfl (by decide) (Nat.le_of_ble_eq_true rfl) (c_X1_valueAt hl _ _ _ _ _)) (Nat.le_of_ble_eq_true rfl) ⟨(Nat.le_of_ble_eq_true rfl), (Nat.le_of_ble_eq_true rfl)⟩ rfl (Nat.le_of_ble_eq_true rfl) rfl rfl (fun _ _ h => h.elim) ?_
        rintro _ _ ⟨_, _, ⟨_, rfl, rfl⟩, rfl, rfl⟩
        refine j_ws (L' := [.inr (6, [_, _, _, _]), z_ia 12 _, .inr (11, [_]), z_ia 7 _]) (by decide) rfl rfl ?_
        refine j_callS dX8_mixedRow_28 kX8_mixed lX8_277 stX8_mixed (c_X8_mixed hl _ _ _) (Nat.le_of_ble_eq_true rfl) ⟨(Nat.le_of_ble_eq_true rfl), (Nat.le_of_ble_eq_true rfl)⟩ rfl (Nat.le_of_ble_eq_true rfl) rfl rfl (fun _ _ h => h.elim) ?_
        rintro _ _ ⟨⟨_, rfl⟩, rfl⟩
        refine j_lstore_n (lo' := [(3, _), (0, _), (2, _), (5, _)]) dX8_mixedRow_31 (by decide) rfl ?_
        refine j_iinc (lo' := [(5, _), (3, _), (0, _), (2, _)]) dX8_mixedRow_32 rfl rfl (by decide) rfl ?_
        refine j_goto (tgt := 12) dX8_mixedRow_35 (by decide) ?_
        exact j_lo2 (ih _ _ (z_ms c_18 h1)) (z_q1 rfl (z_q1 rfl (z_q1 rfl (z_q1 rfl z_q0))))
  exact j_lo2 (loop _ _ _ (Nat.lt_succ_self _)) (z_q1 rfl (z_q1 rfl (z_q1 rfl (z_q1 rfl z_q0))))
set_option maxRecDepth 100000 in
set_option maxHeartbeats 8000000 in
theorem c_X8_mixedTable (hl : l.stackTraces = false) (f g c : Nat → Int32) (m so : Int32) (a : Int64) : z_CF G l mX8_mixedTable 12 0 0 [.inr (9, [.int so, .ref 1, .ref 2, .ref 3, .int m]), z_ia 20 f, z_ia 20 g, .inr (11, [.ref 4]), z_ia 7 c] [.long a, .ref 0] (fun v L => (∃ x : Int64, v = some (.long x)) ∧ L = [.inr (9, [.int so, .ref 1, .ref 2, .ref 3, .int m]), z_ia 20 f, z_ia 20 g, .inr (11, [.ref 4]), z_ia 7 c]) := by
  refine z_body hl (by decide) rfl (Nat.le_of_ble_eq_true rfl) ?_
  show z_J G l mX8_mixedTable (z_SF 12 0 0 [.inr (9, [.int so, .ref 1, .ref 2, .ref 3, .int m]), z_ia 20 f, z_ia 20 g, .inr (11, [.ref 4]), z_ia 7 c] (fun v L => (∃ x : Int64, v = some (.long x)) ∧ L = [.inr (9, [.int so, .ref 1, .ref 2, .ref 3, .int m]), z_ia 20 f, z_ia 20 g, .inr (11, [.ref 4]), z_ia 7 c])) 0 [(0, _), (2, _)] [] _ 0 0
  refine j_lload_n dX8_mixedTable_0 rfl ?_
  refine j_aload_n dX8_mixedTable_1 rfl rfl ?_
  refine j_getf dX8_mixedTable_2 fX8_165 rfl rfl ?_
  refine j_callS dX8_mixedTable_5 kX8_mixed lX8_277 stX8_mixed (c_X8_mixed hl _ _ _) (Nat.le_of_ble_eq_true rfl) ⟨(Nat.le_of_ble_eq_true rfl), (Nat.le_of_ble_eq_true rfl)⟩ rfl (Nat.le_of_ble_eq_true rfl) rfl rfl (fun _ _ h => h.elim) ?_
  rintro _ _ ⟨⟨_, rfl⟩, rfl⟩
  refine j_lstore_n (lo' := [(3, _), (0, _), (2, _)]) dX8_mixedTable_8 (by decide) rfl ?_
  refine j_iconst (v := 0) dX8_mixedTable_9 (by decide) ?_
  refine j_istore (lo' := [(5, _), (3, _), (0, _), (2, _)]) dX8_mixedTable_10 (by decide) rfl ?_
  have loop : ∀ (n : Nat) (p : Int32) (q : Int64), ((m).toInt - (p).toInt).toNat < n → z_J G l mX8_mixedTable (z_SF 12 0 0 [.inr (9, [.int so, .ref 1, .ref 2, .ref 3, .int m]), z_ia 20 f, z_ia 20 g, .inr (11, [.ref 4]), z_ia 7 c] (fun v L => (∃ x : Int64, v = some (.long x)) ∧ L = [.inr (9, [.int so, .ref 1, .ref 2, .ref 3, .int m]), z_ia 20 f, z_ia 20 g, .inr (11, [.ref 4]), z_ia 7 c])) 12 [(0, .long a), (2, .ref 0), (3, .long q), (5, .int p)] [] ([.inr (9, [.int so, .ref 1, .ref 2, .ref 3, .int m]), z_ia 20 f, z_ia 20 g, .inr (11, [.ref 4]), z_ia 7 c], z_no) 0 0 := by
    intro n
    induction n with
    | zero => intro p q h1; exact absurd h1 (Nat.not_lt_zero _)
    | succ n ih =>
      intro p q h1
      refine j_iload dX8_mixedTable_12 rfl ?_
      refine j_aload_n dX8_mixedTable_14 rfl rfl ?_
      refine j_getf dX8_mixedTable_15 fX8_165 rfl rfl ?_
      refine j_icmp_ge (tgt := 51) dX8_mixedTable_18 (by decide) (fun c_18 => ?_) (fun c_18 => ?_)
      · refine j_lload_n dX8_mixedTable_51 rfl ?_
        refine j_lret dX8_mixedTable_52 rfl ?_ (Nat.le_of_ble_eq_true rfl) (Nat.le_of_ble_eq_true rfl)
        exact ⟨rfl, rfl, ⟨_, rfl⟩, rfl⟩
      · refine j_aload_n dX8_mixedTable_21 rfl rfl ?_
        refine j_iload dX8_mixedTable_22 rfl ?_
        refine j_callV (q := (RX4, TX4, 5)) dX8_mixedTable_24 kX4_keyAt lX8_352 inX4_keyAt seX4_keyAt rfl rfl (z_frame [0, 1, 2, 3, 4] rfl (by decide) (Nat.le_of_ble_eq_true rfl) (c_X4_keyAt hl _ _ _ _ _ _)) (Nat.le_of_ble_eq_true rfl) ⟨(Nat.le_of_ble_eq_true rfl), (Nat.le_of_ble_eq_true rfl)⟩ rfl (Nat.le_of_ble_eq_true rfl) rfl rfl (fun _ _ h => h.elim) ?_
        rintro _ _ ⟨_, _, ⟨_, rfl, rfl⟩, rfl, rfl⟩
        refine j_ws (L' := [.inr (9, [_, _, _, _, _]), z_ia 20 _, z_ia 20 _, .inr (11, [_]), z_ia 7 _]) (by decide) rfl rfl ?_
        refine j_istore (lo' := [(6, _), (0, _), (2, _), (3, _), (5, _)]) dX8_mixedTable_27 (by decide) rfl ?_
        refine j_lload_n dX8_mixedTable_29 rfl ?_
        refine j_iload dX8_mixedTable_30 rfl ?_
        refine j_callS dX8_mixedTable_32 kX8_mixed lX8_277 stX8_mixed (c_X8_mixed hl _ _ _) (Nat.le_of_ble_eq_true rfl) ⟨(Nat.le_of_ble_eq_true rfl), (Nat.le_of_ble_eq_true rfl)⟩ rfl (Nat.le_of_ble_eq_true rfl) rfl rfl (fun _ _ h => h.elim) ?_
        rintro _ _ ⟨⟨_, rfl⟩, rfl⟩
        refine j_aload_n dX8_mixedTable_35 rfl rfl ?_
        refine j_iload dX8_mixedTable_36 rfl ?_
        refine j_callV (q := (RX4, TX4, 5)) dX8_mixedTable_38 kX4_look lX8_137 inX4_look seX4_look rfl rfl (z_frame [0, 1, 2, 3, 4] rfl (by decide) (Nat.le_of_ble_eq_true rfl) (c_X4_look hl _ _ _ _ _ _)) (Nat.le_of_ble_eq_true rfl) ⟨(Nat.le_of_ble_eq_true rfl), (Nat.le_of_ble_eq_true rfl)⟩ rfl (Nat.le_of_ble_eq_true rfl) rfl rfl (fun _ _ h => h.elim) ?_
        rintro _ _ ⟨_, _, ⟨_, rfl, rfl⟩, rfl, rfl⟩
        refine j_ws (L' := [.inr (9, [_, _, _, _, _]), z_ia 20 _, z_ia 20 _, .inr (11, [_]), z_ia 7 _]) (by decide) rfl rfl ?_
        refine j_callS dX8_mixedTable_41 kX8_mixed lX8_277 stX8_mixed (c_X8_mixed hl _ _ _) (Nat.le_of_ble_eq_true rfl) ⟨(Nat.le_of_ble_eq_true rfl), (Nat.le_of_ble_eq_true rfl)⟩ rfl (Nat.le_of_ble_eq_true rfl) rfl rfl (fun _ _ h => h.elim) ?_
        rintro _ _ ⟨⟨_, rfl⟩, rfl⟩
        refine j_lstore_n (lo' := [(3, _), (6, _), (0, _), (2, _), (5, _)]) dX8_mixedTable_44 (by decide) rfl ?_
        refine j_iinc (lo' := [(5, _), (3, _), (6, _), (0, _), (2, _)]) dX8_mixedTable_45 rfl rfl (by decide) rfl ?_
        refine j_goto (tgt := 12) dX8_mixedTable_48 (by decide) ?_
        exact j_lo2 (ih _ _ (z_ms c_18 h1)) (z_q1 rfl (z_q1 rfl (z_q1 rfl (z_q1 rfl z_q0))))
  exact j_lo2 (loop _ _ _ (Nat.lt_succ_self _)) (z_q1 rfl (z_q1 rfl (z_q1 rfl (z_q1 rfl z_q0))))
end ZL4
end ZM3
section ZM4
section ZL5
variable {G : z_G} {l : Launch}
theorem z_m20z : z_m20 0 := by unfold z_m20; decide
set_option maxRecDepth 100000 in
set_option maxHeartbeats 8000000 in
theorem c_X8_rowFor (hl : l.stackTraces = false) (rf : Int32) (kn : Int32) (ma : Int32) (xa : Bool) (fa : Nat → Int32) (ca : Nat → Int32) (mb : Int32) (xb : Bool) (fb : Nat → Int32) (cb : Nat → Int32) (mt : Int32) (xt : Bool) (ft : Nat → Int32) (ct : Nat → Int32) (f0 : Nat → Int32) (g0 : Nat → Int32) (c0 : Nat → Int32) (m0 : Int32) (s0 : Int32) (f1 : Nat → Int32) (g1 : Nat → Int32) (c1 : Nat → Int32) (m1 : Int32) (s1 : Int32) (f2 : Nat → Int32) (g2 : Nat → Int32) (c2 : Nat → Int32) (m2 : Int32) (s2 : Int32) (f3 : Nat → Int32) (g3 : Nat → Int32) (c3 : Nat → Int32) (m3 : Int32) (s3 : Int32) (f4 : Nat → Int32) (g4 : Nat → Int32) (c4 : Nat → Int32) (m4 : Int32) (s4 : Int32) (f5 : Nat → Int32) (g5 : Nat → Int32) (c5 : Nat → Int32) (m5 : Int32) (s5 : Int32) (ek0 : Int32) (em0 : Int32) (es0 : Int32) (el0 : Int32) (b0 : Int32) (ef0 : Nat → Int32) (ek1 : Int32) (em1 : Int32) (es1 : Int32) (el1 : Int32) (b1 : Int32) (ef1 : Nat → Int32) (r : Int32) : z_CX G l mX8_rowFor 10 1 6 (z_cw rf kn ma xa fa ca mb xb fb cb mt xt ft ct f0 g0 c0 m0 s0 f1 g1 c1 m1 s1 f2 g2 c2 m2 s2 f3 g3 c3 m3 s3 f4 g4 c4 m4 s4 f5 g5 c5 m5 s5 ek0 em0 es0 el0 b0 ef0 ek1 em1 es1 el1 b1 ef1 []) [.ref 0, .int r] (fun v L => ∃ n : Nat, v = some (.ref n) ∧ ((r = 0 ∧ n = 2) ∨ (r = 1 ∧ n = 6)) ∧ L = (z_cw rf kn ma xa fa ca mb xb fb cb mt xt ft ct f0 g0 c0 m0 s0 f1 g1 c1 m1 s1 f2 g2 c2 m2 s2 f3 g3 c3 m3 s3 f4 g4 c4 m4 s4 f5 g5 c5 m5 s5 ek0 em0 es0 el0 b0 ef0 ek1 em1 es1 el1 b1 ef1 [])) (fun E L => z_xI E ∧ L = (z_cw rf kn ma xa fa ca mb xb fb cb mt xt ft ct f0 g0 c0 m0 s0 f1 g1 c1 m1 s1 f2 g2 c2 m2 s2 f3 g3 c3 m3 s3 f4 g4 c4 m4 s4 f5 g5 c5 m5 s5 ek0 em0 es0 el0 b0 ef0 ek1 em1 es1 el1 b1 ef1 [])) := by
  refine z_body hl (by decide) rfl (Nat.le_of_ble_eq_true rfl) ?_
  show z_J G l mX8_rowFor (z_SX 10 1 6 (z_cw rf kn ma xa fa ca mb xb fb cb mt xt ft ct f0 g0 c0 m0 s0 f1 g1 c1 m1 s1 f2 g2 c2 m2 s2 f3 g3 c3 m3 s3 f4 g4 c4 m4 s4 f5 g5 c5 m5 s5 ek0 em0 es0 el0 b0 ef0 ek1 em1 es1 el1 b1 ef1 []) (fun v L => ∃ n : Nat, v = some (.ref n) ∧ ((r = 0 ∧ n = 2) ∨ (r = 1 ∧ n = 6)) ∧ L = (z_cw rf kn ma xa fa ca mb xb fb cb mt xt ft ct f0 g0 c0 m0 s0 f1 g1 c1 m1 s1 f2 g2 c2 m2 s2 f3 g3 c3 m3 s3 f4 g4 c4 m4 s4 f5 g5 c5 m5 s5 ek0 em0 es0 el0 b0 ef0 ek1 em1 es1 el1 b1 ef1 [])) (fun E L => z_xI E ∧ L = (z_cw rf kn ma xa fa ca mb xb fb cb mt xt ft ct f0 g0 c0 m0 s0 f1 g1 c1 m1 s1 f2 g2 c2 m2 s2 f3 g3 c3 m3 s3 f4 g4 c4 m4 s4 f5 g5 c5 m5 s5 ek0 em0 es0 el0 b0 ef0 ek1 em1 es1 el1 b1 ef1 []))) 0 [(0, _), (1, _)] [] _ 0 0
  refine j_iload_n dX8_rowFor_0 rfl ?_
  refine j_if_lt (tgt := 13) dX8_rowFor_1 (by decide) (fun c_1 => ?_) (fun c_1 => ?_)
  · exact j_throwSW (text := "there is no such row") rfl th_I (by decide +kernel) dX8_rowFor_13 dX8_rowFor_16 dX8_rowFor_17 dX8_rowFor_20 dX8_rowFor_23 (Nat.le_of_ble_eq_true rfl) (Nat.le_of_ble_eq_true rfl) ⟨rfl, rfl, rfl, rfl⟩ (Nat.le_of_ble_eq_true rfl) (Nat.le_of_ble_eq_true rfl)
  · refine j_iload_n dX8_rowFor_4 rfl ?_
    refine j_aload_n dX8_rowFor_5 rfl rfl ?_
    refine j_getf dX8_rowFor_6 fX8_10 rfl rfl ?_
    refine j_alen dX8_rowFor_9 rfl rfl rfl ?_
    refine j_icmp_lt (tgt := 24) dX8_rowFor_10 (by decide) (fun c_10 => ?_) (fun c_10 => ?_)
    · rcases z_r2 c_1 c_10 with rfl | rfl
      · refine j_aload_n dX8_rowFor_24 rfl rfl ?_
        refine j_getf dX8_rowFor_25 fX8_10 rfl rfl ?_
        refine j_iload_n dX8_rowFor_28 rfl ?_
        refine j_aald (v := .ref 2) dX8_rowFor_29 rfl rfl rfl (vp_in_iff.mpr (by decide)) rfl ?_
        refine j_aret dX8_rowFor_30 rfl (Or.inl ⟨_, rfl⟩) rfl ?_ (Nat.le_of_ble_eq_true rfl) (Nat.le_of_ble_eq_true rfl)
        exact ⟨rfl, rfl, _, rfl, (by first | exact Or.inl ⟨rfl, rfl⟩ | exact Or.inr (⟨rfl, rfl⟩)), rfl⟩
      · refine j_aload_n dX8_rowFor_24 rfl rfl ?_
        refine j_getf dX8_rowFor_25 fX8_10 rfl rfl ?_
        refine j_iload_n dX8_rowFor_28 rfl ?_
        refine j_aald (v := .ref 6) dX8_rowFor_29 rfl rfl rfl (vp_in_iff.mpr (by decide)) rfl ?_
        refine j_aret dX8_rowFor_30 rfl (Or.inl ⟨_, rfl⟩) rfl ?_ (Nat.le_of_ble_eq_true rfl) (Nat.le_of_ble_eq_true rfl)
        exact ⟨rfl, rfl, _, rfl, (by first | exact Or.inl ⟨rfl, rfl⟩ | exact Or.inr (⟨rfl, rfl⟩)), rfl⟩
    · exact j_throwSW (text := "there is no such row") rfl th_I (by decide +kernel) dX8_rowFor_13 dX8_rowFor_16 dX8_rowFor_17 dX8_rowFor_20 dX8_rowFor_23 (Nat.le_of_ble_eq_true rfl) (Nat.le_of_ble_eq_true rfl) ⟨rfl, rfl, rfl, rfl⟩ (Nat.le_of_ble_eq_true rfl) (Nat.le_of_ble_eq_true rfl)
set_option maxRecDepth 100000 in
set_option maxHeartbeats 8000000 in
theorem c_X8_tableFor (hl : l.stackTraces = false) (rf : Int32) (kn : Int32) (ma : Int32) (xa : Bool) (fa : Nat → Int32) (ca : Nat → Int32) (mb : Int32) (xb : Bool) (fb : Nat → Int32) (cb : Nat → Int32) (mt : Int32) (xt : Bool) (ft : Nat → Int32) (ct : Nat → Int32) (f0 : Nat → Int32) (g0 : Nat → Int32) (c0 : Nat → Int32) (m0 : Int32) (s0 : Int32) (f1 : Nat → Int32) (g1 : Nat → Int32) (c1 : Nat → Int32) (m1 : Int32) (s1 : Int32) (f2 : Nat → Int32) (g2 : Nat → Int32) (c2 : Nat → Int32) (m2 : Int32) (s2 : Int32) (f3 : Nat → Int32) (g3 : Nat → Int32) (c3 : Nat → Int32) (m3 : Int32) (s3 : Int32) (f4 : Nat → Int32) (g4 : Nat → Int32) (c4 : Nat → Int32) (m4 : Int32) (s4 : Int32) (f5 : Nat → Int32) (g5 : Nat → Int32) (c5 : Nat → Int32) (m5 : Int32) (s5 : Int32) (ek0 : Int32) (em0 : Int32) (es0 : Int32) (el0 : Int32) (b0 : Int32) (ef0 : Nat → Int32) (ek1 : Int32) (em1 : Int32) (es1 : Int32) (el1 : Int32) (b1 : Int32) (ef1 : Nat → Int32) (r : Int32) : z_CX G l mX8_tableFor 10 1 6 (z_cw rf kn ma xa fa ca mb xb fb cb mt xt ft ct f0 g0 c0 m0 s0 f1 g1 c1 m1 s1 f2 g2 c2 m2 s2 f3 g3 c3 m3 s3 f4 g4 c4 m4 s4 f5 g5 c5 m5 s5 ek0 em0 es0 el0 b0 ef0 ek1 em1 es1 el1 b1 ef1 []) [.ref 0, .int r] (fun v L => ∃ n : Nat, v = some (.ref n) ∧ ((r = 0 ∧ n = 10) ∨ (r = 1 ∧ n = 16) ∨ (r = 2 ∧ n = 21)) ∧ L = (z_cw rf kn ma xa fa ca mb xb fb cb mt xt ft ct f0 g0 c0 m0 s0 f1 g1 c1 m1 s1 f2 g2 c2 m2 s2 f3 g3 c3 m3 s3 f4 g4 c4 m4 s4 f5 g5 c5 m5 s5 ek0 em0 es0 el0 b0 ef0 ek1 em1 es1 el1 b1 ef1 [])) (fun E L => z_xI E ∧ L = (z_cw rf kn ma xa fa ca mb xb fb cb mt xt ft ct f0 g0 c0 m0 s0 f1 g1 c1 m1 s1 f2 g2 c2 m2 s2 f3 g3 c3 m3 s3 f4 g4 c4 m4 s4 f5 g5 c5 m5 s5 ek0 em0 es0 el0 b0 ef0 ek1 em1 es1 el1 b1 ef1 [])) := by
  refine z_body hl (by decide) rfl (Nat.le_of_ble_eq_true rfl) ?_
  show z_J G l mX8_tableFor (z_SX 10 1 6 (z_cw rf kn ma xa fa ca mb xb fb cb mt xt ft ct f0 g0 c0 m0 s0 f1 g1 c1 m1 s1 f2 g2 c2 m2 s2 f3 g3 c3 m3 s3 f4 g4 c4 m4 s4 f5 g5 c5 m5 s5 ek0 em0 es0 el0 b0 ef0 ek1 em1 es1 el1 b1 ef1 []) (fun v L => ∃ n : Nat, v = some (.ref n) ∧ ((r = 0 ∧ n = 10) ∨ (r = 1 ∧ n = 16) ∨ (r = 2 ∧ n = 21)) ∧ L = (z_cw rf kn ma xa fa ca mb xb fb cb mt xt ft ct f0 g0 c0 m0 s0 f1 g1 c1 m1 s1 f2 g2 c2 m2 s2 f3 g3 c3 m3 s3 f4 g4 c4 m4 s4 f5 g5 c5 m5 s5 ek0 em0 es0 el0 b0 ef0 ek1 em1 es1 el1 b1 ef1 [])) (fun E L => z_xI E ∧ L = (z_cw rf kn ma xa fa ca mb xb fb cb mt xt ft ct f0 g0 c0 m0 s0 f1 g1 c1 m1 s1 f2 g2 c2 m2 s2 f3 g3 c3 m3 s3 f4 g4 c4 m4 s4 f5 g5 c5 m5 s5 ek0 em0 es0 el0 b0 ef0 ek1 em1 es1 el1 b1 ef1 []))) 0 [(0, _), (1, _)] [] _ 0 0
  refine j_iload_n dX8_tableFor_0 rfl ?_
  refine j_if_lt (tgt := 13) dX8_tableFor_1 (by decide) (fun c_1 => ?_) (fun c_1 => ?_)
  · exact j_throwSW (text := "there is no such table") rfl th_I (by decide +kernel) dX8_tableFor_13 dX8_tableFor_16 dX8_tableFor_17 dX8_tableFor_20 dX8_tableFor_23 (Nat.le_of_ble_eq_true rfl) (Nat.le_of_ble_eq_true rfl) ⟨rfl, rfl, rfl, rfl⟩ (Nat.le_of_ble_eq_true rfl) (Nat.le_of_ble_eq_true rfl)
  · refine j_iload_n dX8_tableFor_4 rfl ?_
    refine j_aload_n dX8_tableFor_5 rfl rfl ?_
    refine j_getf dX8_tableFor_6 fX8_25 rfl rfl ?_
    refine j_alen dX8_tableFor_9 rfl rfl rfl ?_
    refine j_icmp_lt (tgt := 24) dX8_tableFor_10 (by decide) (fun c_10 => ?_) (fun c_10 => ?_)
    · rcases z_r3 c_1 c_10 with rfl | rfl | rfl
      · refine j_aload_n dX8_tableFor_24 rfl rfl ?_
        refine j_getf dX8_tableFor_25 fX8_25 rfl rfl ?_
        refine j_iload_n dX8_tableFor_28 rfl ?_
        refine j_aald (v := .ref 10) dX8_tableFor_29 rfl rfl rfl (vp_in_iff.mpr (by decide)) rfl ?_
        refine j_aret dX8_tableFor_30 rfl (Or.inl ⟨_, rfl⟩) rfl ?_ (Nat.le_of_ble_eq_true rfl) (Nat.le_of_ble_eq_true rfl)
        exact ⟨rfl, rfl, _, rfl, (by first | exact Or.inl ⟨rfl, rfl⟩ | exact Or.inr (Or.inl ⟨rfl, rfl⟩) | exact Or.inr (Or.inr (⟨rfl, rfl⟩))), rfl⟩
      · refine j_aload_n dX8_tableFor_24 rfl rfl ?_
        refine j_getf dX8_tableFor_25 fX8_25 rfl rfl ?_
        refine j_iload_n dX8_tableFor_28 rfl ?_
        refine j_aald (v := .ref 16) dX8_tableFor_29 rfl rfl rfl (vp_in_iff.mpr (by decide)) rfl ?_
        refine j_aret dX8_tableFor_30 rfl (Or.inl ⟨_, rfl⟩) rfl ?_ (Nat.le_of_ble_eq_true rfl) (Nat.le_of_ble_eq_true rfl)
        exact ⟨rfl, rfl, _, rfl, (by first | exact Or.inl ⟨rfl, rfl⟩ | exact Or.inr (Or.inl ⟨rfl, rfl⟩) | exact Or.inr (Or.inr (⟨rfl, rfl⟩))), rfl⟩
      · refine j_aload_n dX8_tableFor_24 rfl rfl ?_
        refine j_getf dX8_tableFor_25 fX8_25 rfl rfl ?_
        refine j_iload_n dX8_tableFor_28 rfl ?_
        refine j_aald (v := .ref 21) dX8_tableFor_29 rfl rfl rfl (vp_in_iff.mpr (by decide)) rfl ?_
        refine j_aret dX8_tableFor_30 rfl (Or.inl ⟨_, rfl⟩) rfl ?_ (Nat.le_of_ble_eq_true rfl) (Nat.le_of_ble_eq_true rfl)
        exact ⟨rfl, rfl, _, rfl, (by first | exact Or.inl ⟨rfl, rfl⟩ | exact Or.inr (Or.inl ⟨rfl, rfl⟩) | exact Or.inr (Or.inr (⟨rfl, rfl⟩))), rfl⟩
    · exact j_throwSW (text := "there is no such table") rfl th_I (by decide +kernel) dX8_tableFor_13 dX8_tableFor_16 dX8_tableFor_17 dX8_tableFor_20 dX8_tableFor_23 (Nat.le_of_ble_eq_true rfl) (Nat.le_of_ble_eq_true rfl) ⟨rfl, rfl, rfl, rfl⟩ (Nat.le_of_ble_eq_true rfl) (Nat.le_of_ble_eq_true rfl)
set_option maxRecDepth 100000 in
set_option maxHeartbeats 8000000 in
theorem c_X8_hearerFor (hl : l.stackTraces = false) (rf : Int32) (kn : Int32) (ma : Int32) (xa : Bool) (fa : Nat → Int32) (ca : Nat → Int32) (mb : Int32) (xb : Bool) (fb : Nat → Int32) (cb : Nat → Int32) (mt : Int32) (xt : Bool) (ft : Nat → Int32) (ct : Nat → Int32) (f0 : Nat → Int32) (g0 : Nat → Int32) (c0 : Nat → Int32) (m0 : Int32) (s0 : Int32) (f1 : Nat → Int32) (g1 : Nat → Int32) (c1 : Nat → Int32) (m1 : Int32) (s1 : Int32) (f2 : Nat → Int32) (g2 : Nat → Int32) (c2 : Nat → Int32) (m2 : Int32) (s2 : Int32) (f3 : Nat → Int32) (g3 : Nat → Int32) (c3 : Nat → Int32) (m3 : Int32) (s3 : Int32) (f4 : Nat → Int32) (g4 : Nat → Int32) (c4 : Nat → Int32) (m4 : Int32) (s4 : Int32) (f5 : Nat → Int32) (g5 : Nat → Int32) (c5 : Nat → Int32) (m5 : Int32) (s5 : Int32) (ek0 : Int32) (em0 : Int32) (es0 : Int32) (el0 : Int32) (b0 : Int32) (ef0 : Nat → Int32) (ek1 : Int32) (em1 : Int32) (es1 : Int32) (el1 : Int32) (b1 : Int32) (ef1 : Nat → Int32) (r : Int32) : z_CX G l mX8_hearerFor 10 1 6 (z_cw rf kn ma xa fa ca mb xb fb cb mt xt ft ct f0 g0 c0 m0 s0 f1 g1 c1 m1 s1 f2 g2 c2 m2 s2 f3 g3 c3 m3 s3 f4 g4 c4 m4 s4 f5 g5 c5 m5 s5 ek0 em0 es0 el0 b0 ef0 ek1 em1 es1 el1 b1 ef1 []) [.ref 0, .int r] (fun v L => ∃ n : Nat, v = some (.ref n) ∧ ((r = 0 ∧ n = 27) ∨ (r = 1 ∧ n = 29)) ∧ L = (z_cw rf kn ma xa fa ca mb xb fb cb mt xt ft ct f0 g0 c0 m0 s0 f1 g1 c1 m1 s1 f2 g2 c2 m2 s2 f3 g3 c3 m3 s3 f4 g4 c4 m4 s4 f5 g5 c5 m5 s5 ek0 em0 es0 el0 b0 ef0 ek1 em1 es1 el1 b1 ef1 [])) (fun E L => z_xI E ∧ L = (z_cw rf kn ma xa fa ca mb xb fb cb mt xt ft ct f0 g0 c0 m0 s0 f1 g1 c1 m1 s1 f2 g2 c2 m2 s2 f3 g3 c3 m3 s3 f4 g4 c4 m4 s4 f5 g5 c5 m5 s5 ek0 em0 es0 el0 b0 ef0 ek1 em1 es1 el1 b1 ef1 [])) := by
  refine z_body hl (by decide) rfl (Nat.le_of_ble_eq_true rfl) ?_
  show z_J G l mX8_hearerFor (z_SX 10 1 6 (z_cw rf kn ma xa fa ca mb xb fb cb mt xt ft ct f0 g0 c0 m0 s0 f1 g1 c1 m1 s1 f2 g2 c2 m2 s2 f3 g3 c3 m3 s3 f4 g4 c4 m4 s4 f5 g5 c5 m5 s5 ek0 em0 es0 el0 b0 ef0 ek1 em1 es1 el1 b1 ef1 []) (fun v L => ∃ n : Nat, v = some (.ref n) ∧ ((r = 0 ∧ n = 27) ∨ (r = 1 ∧ n = 29)) ∧ L = (z_cw rf kn ma xa fa ca mb xb fb cb mt xt ft ct f0 g0 c0 m0 s0 f1 g1 c1 m1 s1 f2 g2 c2 m2 s2 f3 g3 c3 m3 s3 f4 g4 c4 m4 s4 f5 g5 c5 m5 s5 ek0 em0 es0 el0 b0 ef0 ek1 em1 es1 el1 b1 ef1 [])) (fun E L => z_xI E ∧ L = (z_cw rf kn ma xa fa ca mb xb fb cb mt xt ft ct f0 g0 c0 m0 s0 f1 g1 c1 m1 s1 f2 g2 c2 m2 s2 f3 g3 c3 m3 s3 f4 g4 c4 m4 s4 f5 g5 c5 m5 s5 ek0 em0 es0 el0 b0 ef0 ek1 em1 es1 el1 b1 ef1 []))) 0 [(0, _), (1, _)] [] _ 0 0
  refine j_iload_n dX8_hearerFor_0 rfl ?_
  refine j_if_lt (tgt := 13) dX8_hearerFor_1 (by decide) (fun c_1 => ?_) (fun c_1 => ?_)
  · exact j_throwSW (text := "there is no such hearer") rfl th_I (by decide +kernel) dX8_hearerFor_13 dX8_hearerFor_16 dX8_hearerFor_17 dX8_hearerFor_20 dX8_hearerFor_23 (Nat.le_of_ble_eq_true rfl) (Nat.le_of_ble_eq_true rfl) ⟨rfl, rfl, rfl, rfl⟩ (Nat.le_of_ble_eq_true rfl) (Nat.le_of_ble_eq_true rfl)
  · refine j_iload_n dX8_hearerFor_4 rfl ?_
    refine j_aload_n dX8_hearerFor_5 rfl rfl ?_
    refine j_getf dX8_hearerFor_6 fX8_32 rfl rfl ?_
    refine j_alen dX8_hearerFor_9 rfl rfl rfl ?_
    refine j_icmp_lt (tgt := 24) dX8_hearerFor_10 (by decide) (fun c_10 => ?_) (fun c_10 => ?_)
    · rcases z_r2 c_1 c_10 with rfl | rfl
      · refine j_aload_n dX8_hearerFor_24 rfl rfl ?_
        refine j_getf dX8_hearerFor_25 fX8_32 rfl rfl ?_
        refine j_iload_n dX8_hearerFor_28 rfl ?_
        refine j_aald (v := .ref 27) dX8_hearerFor_29 rfl rfl rfl (vp_in_iff.mpr (by decide)) rfl ?_
        refine j_aret dX8_hearerFor_30 rfl (Or.inl ⟨_, rfl⟩) rfl ?_ (Nat.le_of_ble_eq_true rfl) (Nat.le_of_ble_eq_true rfl)
        exact ⟨rfl, rfl, _, rfl, (by first | exact Or.inl ⟨rfl, rfl⟩ | exact Or.inr (⟨rfl, rfl⟩)), rfl⟩
      · refine j_aload_n dX8_hearerFor_24 rfl rfl ?_
        refine j_getf dX8_hearerFor_25 fX8_32 rfl rfl ?_
        refine j_iload_n dX8_hearerFor_28 rfl ?_
        refine j_aald (v := .ref 29) dX8_hearerFor_29 rfl rfl rfl (vp_in_iff.mpr (by decide)) rfl ?_
        refine j_aret dX8_hearerFor_30 rfl (Or.inl ⟨_, rfl⟩) rfl ?_ (Nat.le_of_ble_eq_true rfl) (Nat.le_of_ble_eq_true rfl)
        exact ⟨rfl, rfl, _, rfl, (by first | exact Or.inl ⟨rfl, rfl⟩ | exact Or.inr (⟨rfl, rfl⟩)), rfl⟩
    · exact j_throwSW (text := "there is no such hearer") rfl th_I (by decide +kernel) dX8_hearerFor_13 dX8_hearerFor_16 dX8_hearerFor_17 dX8_hearerFor_20 dX8_hearerFor_23 (Nat.le_of_ble_eq_true rfl) (Nat.le_of_ble_eq_true rfl) ⟨rfl, rfl, rfl, rfl⟩ (Nat.le_of_ble_eq_true rfl) (Nat.le_of_ble_eq_true rfl)
set_option maxRecDepth 100000 in
set_option maxHeartbeats 8000000 in
theorem c_X8_oneIf_b (hl : l.stackTraces = false) (w : z_W) (b : Bool) : z_Con G l mX8_oneIf 10 0 0 w [.int (z_bi b)] (fun v w9 => (v = some (.int (z_bi b))) ∧ w9 = w) (fun _ _ => False) := by
  refine z_body hl (by decide) rfl (Nat.le_of_ble_eq_true rfl) ?_
  show z_J G l mX8_oneIf ((10, 0, 0, w, (fun v w9 => (v = some (.int (z_bi b))) ∧ w9 = w), fun _ _ => False)) 0 [(0, _)] [] _ 0 0
  refine j_iload_n dX8_oneIf_0 rfl ?_
  refine j_if_eq (tgt := 8) dX8_oneIf_1 (by decide) (fun c_1 => ?_) (fun c_1 => ?_)
  · refine j_iconst (v := 0) dX8_oneIf_8 (by decide) ?_
    refine j_iret dX8_oneIf_9 rfl rfl ?_ (Nat.le_of_ble_eq_true rfl) (Nat.le_of_ble_eq_true rfl)
    first | exact ⟨by rw [z_bF c_1]; rfl, rfl⟩ | exact ⟨by rw [z_bt c_1]; rfl, rfl⟩
  · refine j_iconst (v := 1) dX8_oneIf_4 (by decide) ?_
    refine j_goto (tgt := 9) dX8_oneIf_5 (by decide) ?_
    refine j_iret dX8_oneIf_9 rfl rfl ?_ (Nat.le_of_ble_eq_true rfl) (Nat.le_of_ble_eq_true rfl)
    first | exact ⟨by rw [z_bF c_1]; rfl, rfl⟩ | exact ⟨by rw [z_bt c_1]; rfl, rfl⟩
end ZL5
end ZM4
section ZM5
section ZL7
variable {G : z_G} {l : Launch}
set_option maxRecDepth 100000 in
set_option maxHeartbeats 8000000 in
theorem c_X8_valuesOfRows (hl : l.stackTraces = false) (rf : Int32) (kn : Int32) (ma : Int32) (xa : Bool) (fa : Nat → Int32) (ca : Nat → Int32) (mb : Int32) (xb : Bool) (fb : Nat → Int32) (cb : Nat → Int32) (mt : Int32) (xt : Bool) (ft : Nat → Int32) (ct : Nat → Int32) (f0 : Nat → Int32) (g0 : Nat → Int32) (c0 : Nat → Int32) (m0 : Int32) (s0 : Int32) (f1 : Nat → Int32) (g1 : Nat → Int32) (c1 : Nat → Int32) (m1 : Int32) (s1 : Int32) (f2 : Nat → Int32) (g2 : Nat → Int32) (c2 : Nat → Int32) (m2 : Int32) (s2 : Int32) (f3 : Nat → Int32) (g3 : Nat → Int32) (c3 : Nat → Int32) (m3 : Int32) (s3 : Int32) (f4 : Nat → Int32) (g4 : Nat → Int32) (c4 : Nat → Int32) (m4 : Int32) (s4 : Int32) (f5 : Nat → Int32) (g5 : Nat → Int32) (c5 : Nat → Int32) (m5 : Int32) (s5 : Int32) (ek0 : Int32) (em0 : Int32) (es0 : Int32) (el0 : Int32) (b0 : Int32) (ef0 : Nat → Int32) (ek1 : Int32) (em1 : Int32) (es1 : Int32) (el1 : Int32) (b1 : Int32) (ef1 : Nat → Int32) : z_CF G l mX8_valuesOfRows 10 0 0 (z_cw rf kn ma xa fa ca mb xb fb cb mt xt ft ct f0 g0 c0 m0 s0 f1 g1 c1 m1 s1 f2 g2 c2 m2 s2 f3 g3 c3 m3 s3 f4 g4 c4 m4 s4 f5 g5 c5 m5 s5 ek0 em0 es0 el0 b0 ef0 ek1 em1 es1 el1 b1 ef1 []) [.ref 0] (fun v L => (∃ x : Int32, v = some (.int x)) ∧ L = (z_cw rf kn ma xa fa ca mb xb fb cb mt xt ft ct f0 g0 c0 m0 s0 f1 g1 c1 m1 s1 f2 g2 c2 m2 s2 f3 g3 c3 m3 s3 f4 g4 c4 m4 s4 f5 g5 c5 m5 s5 ek0 em0 es0 el0 b0 ef0 ek1 em1 es1 el1 b1 ef1 [])) := by
  refine z_body hl (by decide) rfl (Nat.le_of_ble_eq_true rfl) ?_
  show z_J G l mX8_valuesOfRows (z_SF 10 0 0 (z_cw rf kn ma xa fa ca mb xb fb cb mt xt ft ct f0 g0 c0 m0 s0 f1 g1 c1 m1 s1 f2 g2 c2 m2 s2 f3 g3 c3 m3 s3 f4 g4 c4 m4 s4 f5 g5 c5 m5 s5 ek0 em0 es0 el0 b0 ef0 ek1 em1 es1 el1 b1 ef1 []) (fun v L => (∃ x : Int32, v = some (.int x)) ∧ L = (z_cw rf kn ma xa fa ca mb xb fb cb mt xt ft ct f0 g0 c0 m0 s0 f1 g1 c1 m1 s1 f2 g2 c2 m2 s2 f3 g3 c3 m3 s3 f4 g4 c4 m4 s4 f5 g5 c5 m5 s5 ek0 em0 es0 el0 b0 ef0 ek1 em1 es1 el1 b1 ef1 []))) 0 [(0, _)] [] _ 0 0
  refine j_iconst (v := 0) dX8_valuesOfRows_0 (by decide) ?_
  refine j_istore_n (lo' := [(1, _), (0, _)]) dX8_valuesOfRows_1 (by decide) rfl ?_
  refine j_aload_n dX8_valuesOfRows_2 rfl rfl ?_
  refine j_getf dX8_valuesOfRows_3 fX8_10 rfl rfl ?_
  refine j_astore_n (lo' := [(2, _), (1, _), (0, _)]) dX8_valuesOfRows_6 rfl (by decide) rfl ?_
  refine j_aload_n dX8_valuesOfRows_7 rfl rfl ?_
  refine j_alen dX8_valuesOfRows_8 rfl rfl rfl ?_
  refine j_istore_n (lo' := [(3, _), (2, _), (1, _), (0, _)]) dX8_valuesOfRows_9 (by decide) rfl ?_
  refine j_iconst (v := 0) dX8_valuesOfRows_10 (by decide) ?_
  refine j_istore (lo' := [(4, _), (3, _), (2, _), (1, _), (0, _)]) dX8_valuesOfRows_11 (by decide) rfl ?_
  refine j_iload dX8_valuesOfRows_13 rfl ?_
  refine j_iload_n dX8_valuesOfRows_15 rfl ?_
  refine j_icmp_ge (tgt := 39) dX8_valuesOfRows_16 (by decide) (fun c_16 => ?_) (fun c_16 => ?_)
  · exact absurd c_16 (by decide)
  · refine j_aload_n dX8_valuesOfRows_19 rfl rfl ?_
    refine j_iload dX8_valuesOfRows_20 rfl ?_
    refine j_aald (v := .ref 2) dX8_valuesOfRows_22 rfl rfl rfl (vp_in_iff.mpr (by decide)) rfl ?_
    refine j_astore (lo' := [(5, _), (4, _), (3, _), (2, _), (1, _), (0, _)]) dX8_valuesOfRows_23 rfl (by decide) rfl ?_
    refine j_iload_n dX8_valuesOfRows_25 rfl ?_
    refine j_aload dX8_valuesOfRows_26 rfl rfl ?_
    refine j_getf dX8_valuesOfRows_28 fX8_68 rfl rfl ?_
    refine j_iadd dX8_valuesOfRows_31 ?_
    refine j_istore_n (lo' := [(1, _), (5, _), (4, _), (3, _), (2, _), (0, _)]) dX8_valuesOfRows_32 (by decide) rfl ?_
    refine j_iinc (lo' := [(4, _), (1, _), (5, _), (3, _), (2, _), (0, _)]) dX8_valuesOfRows_33 rfl rfl (by decide) rfl ?_
    refine j_goto (tgt := 13) dX8_valuesOfRows_36 (by decide) ?_
    refine j_iload dX8_valuesOfRows_13 rfl ?_
    refine j_iload_n dX8_valuesOfRows_15 rfl ?_
    refine j_icmp_ge (tgt := 39) dX8_valuesOfRows_16 (by decide) (fun c_16 => ?_) (fun c_16 => ?_)
    · exact absurd c_16 (by decide)
    · refine j_aload_n dX8_valuesOfRows_19 rfl rfl ?_
      refine j_iload dX8_valuesOfRows_20 rfl ?_
      refine j_aald (v := .ref 6) dX8_valuesOfRows_22 rfl rfl rfl (vp_in_iff.mpr (by decide)) rfl ?_
      refine j_astore (lo' := [(5, _), (4, _), (1, _), (3, _), (2, _), (0, _)]) dX8_valuesOfRows_23 rfl (by decide) rfl ?_
      refine j_iload_n dX8_valuesOfRows_25 rfl ?_
      refine j_aload dX8_valuesOfRows_26 rfl rfl ?_
      refine j_getf dX8_valuesOfRows_28 fX8_68 rfl rfl ?_
      refine j_iadd dX8_valuesOfRows_31 ?_
      refine j_istore_n (lo' := [(1, _), (5, _), (4, _), (3, _), (2, _), (0, _)]) dX8_valuesOfRows_32 (by decide) rfl ?_
      refine j_iinc (lo' := [(4, _), (1, _), (5, _), (3, _), (2, _), (0, _)]) dX8_valuesOfRows_33 rfl rfl (by decide) rfl ?_
      refine j_goto (tgt := 13) dX8_valuesOfRows_36 (by decide) ?_
      refine j_iload dX8_valuesOfRows_13 rfl ?_
      refine j_iload_n dX8_valuesOfRows_15 rfl ?_
      refine j_icmp_ge (tgt := 39) dX8_valuesOfRows_16 (by decide) (fun c_16 => ?_) (fun c_16 => ?_)
      · refine j_iload_n dX8_valuesOfRows_39 rfl ?_
        refine j_iret dX8_valuesOfRows_40 rfl rfl ?_ (Nat.le_of_ble_eq_true rfl) (Nat.le_of_ble_eq_true rfl)
        exact ⟨rfl, rfl, ⟨_, rfl⟩, rfl⟩
      · exact absurd (by decide) c_16
set_option maxRecDepth 100000 in
set_option maxHeartbeats 8000000 in
theorem c_X8_pairsOfTables (hl : l.stackTraces = false) (rf : Int32) (kn : Int32) (ma : Int32) (xa : Bool) (fa : Nat → Int32) (ca : Nat → Int32) (mb : Int32) (xb : Bool) (fb : Nat → Int32) (cb : Nat → Int32) (mt : Int32) (xt : Bool) (ft : Nat → Int32) (ct : Nat → Int32) (f0 : Nat → Int32) (g0 : Nat → Int32) (c0 : Nat → Int32) (m0 : Int32) (s0 : Int32) (f1 : Nat → Int32) (g1 : Nat → Int32) (c1 : Nat → Int32) (m1 : Int32) (s1 : Int32) (f2 : Nat → Int32) (g2 : Nat → Int32) (c2 : Nat → Int32) (m2 : Int32) (s2 : Int32) (f3 : Nat → Int32) (g3 : Nat → Int32) (c3 : Nat → Int32) (m3 : Int32) (s3 : Int32) (f4 : Nat → Int32) (g4 : Nat → Int32) (c4 : Nat → Int32) (m4 : Int32) (s4 : Int32) (f5 : Nat → Int32) (g5 : Nat → Int32) (c5 : Nat → Int32) (m5 : Int32) (s5 : Int32) (ek0 : Int32) (em0 : Int32) (es0 : Int32) (el0 : Int32) (b0 : Int32) (ef0 : Nat → Int32) (ek1 : Int32) (em1 : Int32) (es1 : Int32) (el1 : Int32) (b1 : Int32) (ef1 : Nat → Int32) : z_CF G l mX8_pairsOfTables 10 0 0 (z_cw rf kn ma xa fa ca mb xb fb cb mt xt ft ct f0 g0 c0 m0 s0 f1 g1 c1 m1 s1 f2 g2 c2 m2 s2 f3 g3 c3 m3 s3 f4 g4 c4 m4 s4 f5 g5 c5 m5 s5 ek0 em0 es0 el0 b0 ef0 ek1 em1 es1 el1 b1 ef1 []) [.ref 0] (fun v L => (∃ x : Int32, v = some (.int x)) ∧ L = (z_cw rf kn ma xa fa ca mb xb fb cb mt xt ft ct f0 g0 c0 m0 s0 f1 g1 c1 m1 s1 f2 g2 c2 m2 s2 f3 g3 c3 m3 s3 f4 g4 c4 m4 s4 f5 g5 c5 m5 s5 ek0 em0 es0 el0 b0 ef0 ek1 em1 es1 el1 b1 ef1 [])) := by
  refine z_body hl (by decide) rfl (Nat.le_of_ble_eq_true rfl) ?_
  show z_J G l mX8_pairsOfTables (z_SF 10 0 0 (z_cw rf kn ma xa fa ca mb xb fb cb mt xt ft ct f0 g0 c0 m0 s0 f1 g1 c1 m1 s1 f2 g2 c2 m2 s2 f3 g3 c3 m3 s3 f4 g4 c4 m4 s4 f5 g5 c5 m5 s5 ek0 em0 es0 el0 b0 ef0 ek1 em1 es1 el1 b1 ef1 []) (fun v L => (∃ x : Int32, v = some (.int x)) ∧ L = (z_cw rf kn ma xa fa ca mb xb fb cb mt xt ft ct f0 g0 c0 m0 s0 f1 g1 c1 m1 s1 f2 g2 c2 m2 s2 f3 g3 c3 m3 s3 f4 g4 c4 m4 s4 f5 g5 c5 m5 s5 ek0 em0 es0 el0 b0 ef0 ek1 em1 es1 el1 b1 ef1 []))) 0 [(0, _)] [] _ 0 0
  refine j_iconst (v := 0) dX8_pairsOfTables_0 (by decide) ?_
  refine j_istore_n (lo' := [(1, _), (0, _)]) dX8_pairsOfTables_1 (by decide) rfl ?_
  refine j_aload_n dX8_pairsOfTables_2 rfl rfl ?_
  refine j_getf dX8_pairsOfTables_3 fX8_25 rfl rfl ?_
  refine j_astore_n (lo' := [(2, _), (1, _), (0, _)]) dX8_pairsOfTables_6 rfl (by decide) rfl ?_
  refine j_aload_n dX8_pairsOfTables_7 rfl rfl ?_
  refine j_alen dX8_pairsOfTables_8 rfl rfl rfl ?_
  refine j_istore_n (lo' := [(3, _), (2, _), (1, _), (0, _)]) dX8_pairsOfTables_9 (by decide) rfl ?_
  refine j_iconst (v := 0) dX8_pairsOfTables_10 (by decide) ?_
  refine j_istore (lo' := [(4, _), (3, _), (2, _), (1, _), (0, _)]) dX8_pairsOfTables_11 (by decide) rfl ?_
  refine j_iload dX8_pairsOfTables_13 rfl ?_
  refine j_iload_n dX8_pairsOfTables_15 rfl ?_
  refine j_icmp_ge (tgt := 39) dX8_pairsOfTables_16 (by decide) (fun c_16 => ?_) (fun c_16 => ?_)
  · exact absurd c_16 (by decide)
  · refine j_aload_n dX8_pairsOfTables_19 rfl rfl ?_
    refine j_iload dX8_pairsOfTables_20 rfl ?_
    refine j_aald (v := .ref 10) dX8_pairsOfTables_22 rfl rfl rfl (vp_in_iff.mpr (by decide)) rfl ?_
    refine j_astore (lo' := [(5, _), (4, _), (3, _), (2, _), (1, _), (0, _)]) dX8_pairsOfTables_23 rfl (by decide) rfl ?_
    refine j_iload_n dX8_pairsOfTables_25 rfl ?_
    refine j_aload dX8_pairsOfTables_26 rfl rfl ?_
    refine j_getf dX8_pairsOfTables_28 fX8_165 rfl rfl ?_
    refine j_iadd dX8_pairsOfTables_31 ?_
    refine j_istore_n (lo' := [(1, _), (5, _), (4, _), (3, _), (2, _), (0, _)]) dX8_pairsOfTables_32 (by decide) rfl ?_
    refine j_iinc (lo' := [(4, _), (1, _), (5, _), (3, _), (2, _), (0, _)]) dX8_pairsOfTables_33 rfl rfl (by decide) rfl ?_
    refine j_goto (tgt := 13) dX8_pairsOfTables_36 (by decide) ?_
    refine j_iload dX8_pairsOfTables_13 rfl ?_
    refine j_iload_n dX8_pairsOfTables_15 rfl ?_
    refine j_icmp_ge (tgt := 39) dX8_pairsOfTables_16 (by decide) (fun c_16 => ?_) (fun c_16 => ?_)
    · exact absurd c_16 (by decide)
    · refine j_aload_n dX8_pairsOfTables_19 rfl rfl ?_
      refine j_iload dX8_pairsOfTables_20 rfl ?_
      refine j_aald (v := .ref 16) dX8_pairsOfTables_22 rfl rfl rfl (vp_in_iff.mpr (by decide)) rfl ?_
      refine j_astore (lo' := [(5, _), (4, _), (1, _), (3, _), (2, _), (0, _)]) dX8_pairsOfTables_23 rfl (by decide) rfl ?_
      refine j_iload_n dX8_pairsOfTables_25 rfl ?_
      refine j_aload dX8_pairsOfTables_26 rfl rfl ?_
      refine j_getf dX8_pairsOfTables_28 fX8_165 rfl rfl ?_
      refine j_iadd dX8_pairsOfTables_31 ?_
      refine j_istore_n (lo' := [(1, _), (5, _), (4, _), (3, _), (2, _), (0, _)]) dX8_pairsOfTables_32 (by decide) rfl ?_
      refine j_iinc (lo' := [(4, _), (1, _), (5, _), (3, _), (2, _), (0, _)]) dX8_pairsOfTables_33 rfl rfl (by decide) rfl ?_
      refine j_goto (tgt := 13) dX8_pairsOfTables_36 (by decide) ?_
      refine j_iload dX8_pairsOfTables_13 rfl ?_
      refine j_iload_n dX8_pairsOfTables_15 rfl ?_
      refine j_icmp_ge (tgt := 39) dX8_pairsOfTables_16 (by decide) (fun c_16 => ?_) (fun c_16 => ?_)
      · exact absurd c_16 (by decide)
      · refine j_aload_n dX8_pairsOfTables_19 rfl rfl ?_
        refine j_iload dX8_pairsOfTables_20 rfl ?_
        refine j_aald (v := .ref 21) dX8_pairsOfTables_22 rfl rfl rfl (vp_in_iff.mpr (by decide)) rfl ?_
        refine j_astore (lo' := [(5, _), (4, _), (1, _), (3, _), (2, _), (0, _)]) dX8_pairsOfTables_23 rfl (by decide) rfl ?_
        refine j_iload_n dX8_pairsOfTables_25 rfl ?_
        refine j_aload dX8_pairsOfTables_26 rfl rfl ?_
        refine j_getf dX8_pairsOfTables_28 fX8_165 rfl rfl ?_
        refine j_iadd dX8_pairsOfTables_31 ?_
        refine j_istore_n (lo' := [(1, _), (5, _), (4, _), (3, _), (2, _), (0, _)]) dX8_pairsOfTables_32 (by decide) rfl ?_
        refine j_iinc (lo' := [(4, _), (1, _), (5, _), (3, _), (2, _), (0, _)]) dX8_pairsOfTables_33 rfl rfl (by decide) rfl ?_
        refine j_goto (tgt := 13) dX8_pairsOfTables_36 (by decide) ?_
        refine j_iload dX8_pairsOfTables_13 rfl ?_
        refine j_iload_n dX8_pairsOfTables_15 rfl ?_
        refine j_icmp_ge (tgt := 39) dX8_pairsOfTables_16 (by decide) (fun c_16 => ?_) (fun c_16 => ?_)
        · refine j_iload_n dX8_pairsOfTables_39 rfl ?_
          refine j_iret dX8_pairsOfTables_40 rfl rfl ?_ (Nat.le_of_ble_eq_true rfl) (Nat.le_of_ble_eq_true rfl)
          exact ⟨rfl, rfl, ⟨_, rfl⟩, rfl⟩
        · exact absurd (by decide) c_16
set_option maxRecDepth 100000 in
set_option maxHeartbeats 8000000 in
theorem c_X8_numbersHeard (hl : l.stackTraces = false) (rf : Int32) (kn : Int32) (ma : Int32) (xa : Bool) (fa : Nat → Int32) (ca : Nat → Int32) (mb : Int32) (xb : Bool) (fb : Nat → Int32) (cb : Nat → Int32) (mt : Int32) (xt : Bool) (ft : Nat → Int32) (ct : Nat → Int32) (f0 : Nat → Int32) (g0 : Nat → Int32) (c0 : Nat → Int32) (m0 : Int32) (s0 : Int32) (f1 : Nat → Int32) (g1 : Nat → Int32) (c1 : Nat → Int32) (m1 : Int32) (s1 : Int32) (f2 : Nat → Int32) (g2 : Nat → Int32) (c2 : Nat → Int32) (m2 : Int32) (s2 : Int32) (f3 : Nat → Int32) (g3 : Nat → Int32) (c3 : Nat → Int32) (m3 : Int32) (s3 : Int32) (f4 : Nat → Int32) (g4 : Nat → Int32) (c4 : Nat → Int32) (m4 : Int32) (s4 : Int32) (f5 : Nat → Int32) (g5 : Nat → Int32) (c5 : Nat → Int32) (m5 : Int32) (s5 : Int32) (ek0 : Int32) (em0 : Int32) (es0 : Int32) (el0 : Int32) (b0 : Int32) (ef0 : Nat → Int32) (ek1 : Int32) (em1 : Int32) (es1 : Int32) (el1 : Int32) (b1 : Int32) (ef1 : Nat → Int32) : z_CF G l mX8_numbersHeard 10 0 0 (z_cw rf kn ma xa fa ca mb xb fb cb mt xt ft ct f0 g0 c0 m0 s0 f1 g1 c1 m1 s1 f2 g2 c2 m2 s2 f3 g3 c3 m3 s3 f4 g4 c4 m4 s4 f5 g5 c5 m5 s5 ek0 em0 es0 el0 b0 ef0 ek1 em1 es1 el1 b1 ef1 []) [.ref 0] (fun v L => (∃ x : Int32, v = some (.int x)) ∧ L = (z_cw rf kn ma xa fa ca mb xb fb cb mt xt ft ct f0 g0 c0 m0 s0 f1 g1 c1 m1 s1 f2 g2 c2 m2 s2 f3 g3 c3 m3 s3 f4 g4 c4 m4 s4 f5 g5 c5 m5 s5 ek0 em0 es0 el0 b0 ef0 ek1 em1 es1 el1 b1 ef1 [])) := by
  refine z_body hl (by decide) rfl (Nat.le_of_ble_eq_true rfl) ?_
  show z_J G l mX8_numbersHeard (z_SF 10 0 0 (z_cw rf kn ma xa fa ca mb xb fb cb mt xt ft ct f0 g0 c0 m0 s0 f1 g1 c1 m1 s1 f2 g2 c2 m2 s2 f3 g3 c3 m3 s3 f4 g4 c4 m4 s4 f5 g5 c5 m5 s5 ek0 em0 es0 el0 b0 ef0 ek1 em1 es1 el1 b1 ef1 []) (fun v L => (∃ x : Int32, v = some (.int x)) ∧ L = (z_cw rf kn ma xa fa ca mb xb fb cb mt xt ft ct f0 g0 c0 m0 s0 f1 g1 c1 m1 s1 f2 g2 c2 m2 s2 f3 g3 c3 m3 s3 f4 g4 c4 m4 s4 f5 g5 c5 m5 s5 ek0 em0 es0 el0 b0 ef0 ek1 em1 es1 el1 b1 ef1 []))) 0 [(0, _)] [] _ 0 0
  refine j_iconst (v := 0) dX8_numbersHeard_0 (by decide) ?_
  refine j_istore_n (lo' := [(1, _), (0, _)]) dX8_numbersHeard_1 (by decide) rfl ?_
  refine j_aload_n dX8_numbersHeard_2 rfl rfl ?_
  refine j_getf dX8_numbersHeard_3 fX8_32 rfl rfl ?_
  refine j_astore_n (lo' := [(2, _), (1, _), (0, _)]) dX8_numbersHeard_6 rfl (by decide) rfl ?_
  refine j_aload_n dX8_numbersHeard_7 rfl rfl ?_
  refine j_alen dX8_numbersHeard_8 rfl rfl rfl ?_
  refine j_istore_n (lo' := [(3, _), (2, _), (1, _), (0, _)]) dX8_numbersHeard_9 (by decide) rfl ?_
  refine j_iconst (v := 0) dX8_numbersHeard_10 (by decide) ?_
  refine j_istore (lo' := [(4, _), (3, _), (2, _), (1, _), (0, _)]) dX8_numbersHeard_11 (by decide) rfl ?_
  refine j_iload dX8_numbersHeard_13 rfl ?_
  refine j_iload_n dX8_numbersHeard_15 rfl ?_
  refine j_icmp_ge (tgt := 39) dX8_numbersHeard_16 (by decide) (fun c_16 => ?_) (fun c_16 => ?_)
  · exact absurd c_16 (by decide)
  · refine j_aload_n dX8_numbersHeard_19 rfl rfl ?_
    refine j_iload dX8_numbersHeard_20 rfl ?_
    refine j_aald (v := .ref 27) dX8_numbersHeard_22 rfl rfl rfl (vp_in_iff.mpr (by decide)) rfl ?_
    refine j_astore (lo' := [(5, _), (4, _), (3, _), (2, _), (1, _), (0, _)]) dX8_numbersHeard_23 rfl (by decide) rfl ?_
    refine j_iload_n dX8_numbersHeard_25 rfl ?_
    refine j_aload dX8_numbersHeard_26 rfl rfl ?_
    refine j_getf dX8_numbersHeard_28 fX8_183 rfl rfl ?_
    refine j_iadd dX8_numbersHeard_31 ?_
    refine j_istore_n (lo' := [(1, _), (5, _), (4, _), (3, _), (2, _), (0, _)]) dX8_numbersHeard_32 (by decide) rfl ?_
    refine j_iinc (lo' := [(4, _), (1, _), (5, _), (3, _), (2, _), (0, _)]) dX8_numbersHeard_33 rfl rfl (by decide) rfl ?_
    refine j_goto (tgt := 13) dX8_numbersHeard_36 (by decide) ?_
    refine j_iload dX8_numbersHeard_13 rfl ?_
    refine j_iload_n dX8_numbersHeard_15 rfl ?_
    refine j_icmp_ge (tgt := 39) dX8_numbersHeard_16 (by decide) (fun c_16 => ?_) (fun c_16 => ?_)
    · exact absurd c_16 (by decide)
    · refine j_aload_n dX8_numbersHeard_19 rfl rfl ?_
      refine j_iload dX8_numbersHeard_20 rfl ?_
      refine j_aald (v := .ref 29) dX8_numbersHeard_22 rfl rfl rfl (vp_in_iff.mpr (by decide)) rfl ?_
      refine j_astore (lo' := [(5, _), (4, _), (1, _), (3, _), (2, _), (0, _)]) dX8_numbersHeard_23 rfl (by decide) rfl ?_
      refine j_iload_n dX8_numbersHeard_25 rfl ?_
      refine j_aload dX8_numbersHeard_26 rfl rfl ?_
      refine j_getf dX8_numbersHeard_28 fX8_183 rfl rfl ?_
      refine j_iadd dX8_numbersHeard_31 ?_
      refine j_istore_n (lo' := [(1, _), (5, _), (4, _), (3, _), (2, _), (0, _)]) dX8_numbersHeard_32 (by decide) rfl ?_
      refine j_iinc (lo' := [(4, _), (1, _), (5, _), (3, _), (2, _), (0, _)]) dX8_numbersHeard_33 rfl rfl (by decide) rfl ?_
      refine j_goto (tgt := 13) dX8_numbersHeard_36 (by decide) ?_
      refine j_iload dX8_numbersHeard_13 rfl ?_
      refine j_iload_n dX8_numbersHeard_15 rfl ?_
      refine j_icmp_ge (tgt := 39) dX8_numbersHeard_16 (by decide) (fun c_16 => ?_) (fun c_16 => ?_)
      · refine j_iload_n dX8_numbersHeard_39 rfl ?_
        refine j_iret dX8_numbersHeard_40 rfl rfl ?_ (Nat.le_of_ble_eq_true rfl) (Nat.le_of_ble_eq_true rfl)
        exact ⟨rfl, rfl, ⟨_, rfl⟩, rfl⟩
      · exact absurd (by decide) c_16
end ZL7
end ZM5
