section ZL2
variable {G : z_G} {l : Launch}
set_option maxRecDepth 100000 in
set_option maxHeartbeats 4000000 in
theorem c_X4_look (hl : l.stackTraces = false) (f g c : Nat → Int32) (m so : Int32) (p : Int32) : z_CF G l mX4_look 10 0 0 [.inr (9, [.int so, .ref 1, .ref 2, .ref 3, .int m]), z_ia 20 f, z_ia 20 g, .inr (11, [.ref 4]), z_ia 7 c] [.ref 0, .int p] (fun v L => ∃ x : Int32, v = some (.int x) ∧ L = [.inr (9, [.int so, .ref 1, .ref 2, .ref 3, .int m]), z_ia 20 f, z_ia 20 g, .inr (11, [.ref 4]), z_ia 7 c]) := by
  refine z_body hl (by decide) rfl (Nat.le_of_ble_eq_true rfl) ?_
  show z_J G l mX4_look (z_SF 10 0 0 [.inr (9, [.int so, .ref 1, .ref 2, .ref 3, .int m]), z_ia 20 f, z_ia 20 g, .inr (11, [.ref 4]), z_ia 7 c] (fun v L => ∃ x : Int32, v = some (.int x) ∧ L = [.inr (9, [.int so, .ref 1, .ref 2, .ref 3, .int m]), z_ia 20 f, z_ia 20 g, .inr (11, [.ref 4]), z_ia 7 c])) 0 [(0, _), (1, _)] [] _ 0 0
  refine j_iload_n dX4_look_0 rfl ?_
  refine j_if_lt (tgt := 22) dX4_look_1 (by decide) (fun c_1 => ?_) (fun c_1 => ?_)
  · refine j_sipush (v := (-1000)) dX4_look_22 (by decide) ?_
    refine j_iret dX4_look_25 rfl rfl ?_ (Nat.le_of_ble_eq_true rfl) (Nat.le_of_ble_eq_true rfl)
    exact ⟨rfl, rfl, _, rfl, rfl⟩
  · refine j_iload_n dX4_look_4 rfl ?_
    refine j_aload_n dX4_look_5 rfl rfl ?_
    refine j_getf dX4_look_6 fX4_9 rfl rfl ?_
    refine j_alen dX4_look_9 rfl rfl rfl ?_
    refine j_icmp_ge (tgt := 22) dX4_look_10 (by decide) (fun c_10 => ?_) (fun c_10 => ?_)
    · refine j_sipush (v := (-1000)) dX4_look_22 (by decide) ?_
      refine j_iret dX4_look_25 rfl rfl ?_ (Nat.le_of_ble_eq_true rfl) (Nat.le_of_ble_eq_true rfl)
      exact ⟨rfl, rfl, _, rfl, rfl⟩
    · refine j_aload_n dX4_look_13 rfl rfl ?_
      refine j_getf dX4_look_14 fX4_9 rfl rfl ?_
      refine j_iload_n dX4_look_17 rfl ?_
      refine j_ld dX4_look_18 rfl (z_in c_1 c_10 (by decide)) ?_
      refine j_goto (tgt := 25) dX4_look_19 (by decide) ?_
      refine j_iret dX4_look_25 rfl rfl ?_ (Nat.le_of_ble_eq_true rfl) (Nat.le_of_ble_eq_true rfl)
      exact ⟨rfl, rfl, _, rfl, rfl⟩
set_option maxRecDepth 100000 in
set_option maxHeartbeats 4000000 in
theorem c_X4_keyAt (hl : l.stackTraces = false) (f g c : Nat → Int32) (m so : Int32) (p : Int32) : z_CF G l mX4_keyAt 10 0 0 [.inr (9, [.int so, .ref 1, .ref 2, .ref 3, .int m]), z_ia 20 f, z_ia 20 g, .inr (11, [.ref 4]), z_ia 7 c] [.ref 0, .int p] (fun v L => ∃ x : Int32, v = some (.int x) ∧ L = [.inr (9, [.int so, .ref 1, .ref 2, .ref 3, .int m]), z_ia 20 f, z_ia 20 g, .inr (11, [.ref 4]), z_ia 7 c]) := by
  refine z_body hl (by decide) rfl (Nat.le_of_ble_eq_true rfl) ?_
  show z_J G l mX4_keyAt (z_SF 10 0 0 [.inr (9, [.int so, .ref 1, .ref 2, .ref 3, .int m]), z_ia 20 f, z_ia 20 g, .inr (11, [.ref 4]), z_ia 7 c] (fun v L => ∃ x : Int32, v = some (.int x) ∧ L = [.inr (9, [.int so, .ref 1, .ref 2, .ref 3, .int m]), z_ia 20 f, z_ia 20 g, .inr (11, [.ref 4]), z_ia 7 c])) 0 [(0, _), (1, _)] [] _ 0 0
  refine j_iload_n dX4_keyAt_0 rfl ?_
  refine j_if_lt (tgt := 30) dX4_keyAt_1 (by decide) (fun c_1 => ?_) (fun c_1 => ?_)
  · refine j_iconst (v := 0) dX4_keyAt_30 (by decide) ?_
    refine j_iret dX4_keyAt_31 rfl rfl ?_ (Nat.le_of_ble_eq_true rfl) (Nat.le_of_ble_eq_true rfl)
    exact ⟨rfl, rfl, _, rfl, rfl⟩
  · refine j_iload_n dX4_keyAt_4 rfl ?_
    refine j_aload_n dX4_keyAt_5 rfl rfl ?_
    refine j_getf dX4_keyAt_6 fX4_29 rfl rfl ?_
    refine j_icmp_ge (tgt := 30) dX4_keyAt_9 (by decide) (fun c_9 => ?_) (fun c_9 => ?_)
    · refine j_iconst (v := 0) dX4_keyAt_30 (by decide) ?_
      refine j_iret dX4_keyAt_31 rfl rfl ?_ (Nat.le_of_ble_eq_true rfl) (Nat.le_of_ble_eq_true rfl)
      exact ⟨rfl, rfl, _, rfl, rfl⟩
    · refine j_iload_n dX4_keyAt_12 rfl ?_
      refine j_aload_n dX4_keyAt_13 rfl rfl ?_
      refine j_getf dX4_keyAt_14 fX4_15 rfl rfl ?_
      refine j_alen dX4_keyAt_17 rfl rfl rfl ?_
      refine j_icmp_ge (tgt := 30) dX4_keyAt_18 (by decide) (fun c_18 => ?_) (fun c_18 => ?_)
      · refine j_iconst (v := 0) dX4_keyAt_30 (by decide) ?_
        refine j_iret dX4_keyAt_31 rfl rfl ?_ (Nat.le_of_ble_eq_true rfl) (Nat.le_of_ble_eq_true rfl)
        exact ⟨rfl, rfl, _, rfl, rfl⟩
      · refine j_aload_n dX4_keyAt_21 rfl rfl ?_
        refine j_getf dX4_keyAt_22 fX4_15 rfl rfl ?_
        refine j_iload_n dX4_keyAt_25 rfl ?_
        refine j_ld dX4_keyAt_26 rfl (z_in c_1 c_18 (by decide)) ?_
        refine j_goto (tgt := 31) dX4_keyAt_27 (by decide) ?_
        refine j_iret dX4_keyAt_31 rfl rfl ?_ (Nat.le_of_ble_eq_true rfl) (Nat.le_of_ble_eq_true rfl)
        exact ⟨rfl, rfl, _, rfl, rfl⟩
set_option maxRecDepth 100000 in
set_option maxHeartbeats 4000000 in
theorem c_X4_setValue (hl : l.stackTraces = false) (f g c : Nat → Int32) (m so : Int32) (p x : Int32) : z_CF G l mX4_setValue 10 0 0 [.inr (9, [.int so, .ref 1, .ref 2, .ref 3, .int m]), z_ia 20 f, z_ia 20 g, .inr (11, [.ref 4]), z_ia 7 c] [.ref 0, .int p, .int x] (fun v L => v = none ∧ ∃ f' : Nat → Int32, L = [.inr (9, [.int so, .ref 1, .ref 2, .ref 3, .int m]), z_ia 20 f', z_ia 20 g, .inr (11, [.ref 4]), z_ia 7 c]) := by
  refine z_body hl (by decide) rfl (Nat.le_of_ble_eq_true rfl) ?_
  show z_J G l mX4_setValue (z_SF 10 0 0 [.inr (9, [.int so, .ref 1, .ref 2, .ref 3, .int m]), z_ia 20 f, z_ia 20 g, .inr (11, [.ref 4]), z_ia 7 c] (fun v L => v = none ∧ ∃ f' : Nat → Int32, L = [.inr (9, [.int so, .ref 1, .ref 2, .ref 3, .int m]), z_ia 20 f', z_ia 20 g, .inr (11, [.ref 4]), z_ia 7 c])) 0 [(0, _), (1, _), (2, _)] [] _ 0 0
  refine j_iload_n dX4_setValue_0 rfl ?_
  refine j_if_lt (tgt := 20) dX4_setValue_1 (by decide) (fun c_1 => ?_) (fun c_1 => ?_)
  · refine j_vret dX4_setValue_20 rfl ?_ (Nat.le_of_ble_eq_true rfl) (Nat.le_of_ble_eq_true rfl)
    exact ⟨rfl, rfl, rfl, _, rfl⟩
  · refine j_iload_n dX4_setValue_4 rfl ?_
    refine j_aload_n dX4_setValue_5 rfl rfl ?_
    refine j_getf dX4_setValue_6 fX4_9 rfl rfl ?_
    refine j_alen dX4_setValue_9 rfl rfl rfl ?_
    refine j_icmp_ge (tgt := 20) dX4_setValue_10 (by decide) (fun c_10 => ?_) (fun c_10 => ?_)
    · refine j_vret dX4_setValue_20 rfl ?_ (Nat.le_of_ble_eq_true rfl) (Nat.le_of_ble_eq_true rfl)
      exact ⟨rfl, rfl, rfl, _, rfl⟩
    · refine j_aload_n dX4_setValue_13 rfl rfl ?_
      refine j_getf dX4_setValue_14 fX4_9 rfl rfl ?_
      refine j_iload_n dX4_setValue_17 rfl ?_
      refine j_iload_n dX4_setValue_18 rfl ?_
      refine j_sto (w' := ([.inr (9, [_, _, _, _, _]), z_ia 20 _, z_ia 20 _, .inr (11, [_]), z_ia 7 _], z_no)) dX4_setValue_19 rfl (z_in c_1 c_10 (by decide)) rfl ?_
      refine j_vret dX4_setValue_20 rfl ?_ (Nat.le_of_ble_eq_true rfl) (Nat.le_of_ble_eq_true rfl)
      exact ⟨rfl, rfl, rfl, _, rfl⟩
set_option maxRecDepth 100000 in
set_option maxHeartbeats 4000000 in
theorem c_X4_addKey (hl : l.stackTraces = false) (f g c : Nat → Int32) (m so : Int32) (p : Int32) (hm : z_m20 m): z_CF G l mX4_addKey 10 0 0 [.inr (9, [.int so, .ref 1, .ref 2, .ref 3, .int m]), z_ia 20 f, z_ia 20 g, .inr (11, [.ref 4]), z_ia 7 c] [.ref 0, .int p] (fun v L => v = none ∧ ∃ (f' g' c' : Nat → Int32) (m' : Int32), z_m20 m' ∧ L = [.inr (9, [.int so, .ref 1, .ref 2, .ref 3, .int m']), z_ia 20 f', z_ia 20 g', .inr (11, [.ref 4]), z_ia 7 c']) := by
  refine z_body hl (by decide) rfl (Nat.le_of_ble_eq_true rfl) ?_
  show z_J G l mX4_addKey (z_SF 10 0 0 [.inr (9, [.int so, .ref 1, .ref 2, .ref 3, .int m]), z_ia 20 f, z_ia 20 g, .inr (11, [.ref 4]), z_ia 7 c] (fun v L => v = none ∧ ∃ (f' g' c' : Nat → Int32) (m' : Int32), z_m20 m' ∧ L = [.inr (9, [.int so, .ref 1, .ref 2, .ref 3, .int m']), z_ia 20 f', z_ia 20 g', .inr (11, [.ref 4]), z_ia 7 c'])) 0 [(0, _), (1, _)] [] _ 0 0
  refine j_aload_n dX4_addKey_0 rfl rfl ?_
  refine j_getf dX4_addKey_1 fX4_29 rfl rfl ?_
  refine j_if_lt (tgt := 19) dX4_addKey_4 (by decide) (fun c_4 => ?_) (fun c_4 => ?_)
  · refine j_vret dX4_addKey_19 rfl ?_ (Nat.le_of_ble_eq_true rfl) (Nat.le_of_ble_eq_true rfl)
    exact ⟨rfl, rfl, rfl, _, _, _, _, hm, rfl⟩
  · refine j_aload_n dX4_addKey_7 rfl rfl ?_
    refine j_getf dX4_addKey_8 fX4_29 rfl rfl ?_
    refine j_aload_n dX4_addKey_11 rfl rfl ?_
    refine j_getf dX4_addKey_12 fX4_15 rfl rfl ?_
    refine j_alen dX4_addKey_15 rfl rfl rfl ?_
    refine j_icmp_lt (tgt := 20) dX4_addKey_16 (by decide) (fun c_16 => ?_) (fun c_16 => ?_)
    · obtain ⟨k, hk, hk2⟩ := z_in20 c_4 c_16
      refine j_aload_n dX4_addKey_20 rfl rfl ?_
      refine j_getf dX4_addKey_21 fX4_29 rfl rfl ?_
      refine j_top (congrArg Value.int hk2) ?_
      refine j_istore_n (lo' := [(2, _), (0, _), (1, _)]) dX4_addKey_24 (by decide) rfl ?_
      have loop : ∀ (j : Nat) (g' : Nat → Int32), j < 20 → z_J G l mX4_addKey (z_SF 10 0 0 [.inr (9, [.int so, .ref 1, .ref 2, .ref 3, .int m]), z_ia 20 f, z_ia 20 g, .inr (11, [.ref 4]), z_ia 7 c] (fun v L => v = none ∧ ∃ (f' g' c' : Nat → Int32) (m' : Int32), z_m20 m' ∧ L = [.inr (9, [.int so, .ref 1, .ref 2, .ref 3, .int m']), z_ia 20 f', z_ia 20 g', .inr (11, [.ref 4]), z_ia 7 c'])) 25 [(0, .ref 0), (1, .int p), (2, .int (nI j))] [] ([.inr (9, [.int so, .ref 1, .ref 2, .ref 3, .int m]), z_ia 20 f, z_ia 20 g', .inr (11, [.ref 4]), z_ia 7 c], z_no) 0 0 := by
        intro j
        induction j with
        | zero =>
          intro g' hj
          refine j_aload_n dX4_addKey_25 rfl rfl ?_
          refine j_getf dX4_addKey_26 fX4_25 rfl rfl ?_
          refine j_if_eq (tgt := 68) dX4_addKey_29 (by decide) (fun c_29 => ?_) (fun c_29 => ?_)
          · refine j_aload_n dX4_addKey_68 rfl rfl ?_
            refine j_getf dX4_addKey_69 fX4_15 rfl rfl ?_
            refine j_iload_n dX4_addKey_72 rfl ?_
            refine j_iload_n dX4_addKey_73 rfl ?_
            refine j_sto (w' := ([.inr (9, [_, _, _, _, _]), z_ia 20 _, z_ia 20 _, .inr (11, [_]), z_ia 7 _], z_no)) dX4_addKey_74 rfl (vp_in_nI hj (by decide)) rfl ?_
            refine j_aload_n dX4_addKey_75 rfl rfl ?_
            refine j_dup dX4_addKey_76 rfl ?_
            refine j_getf dX4_addKey_77 fX4_29 rfl rfl ?_
            refine j_iconst (v := 1) dX4_addKey_80 (by decide) ?_
            refine j_iadd dX4_addKey_81 ?_
            refine j_put (w' := ([.inr (9, [_, _, _, _, _]), z_ia 20 _, z_ia 20 _, .inr (11, [_]), z_ia 7 _], z_no)) dX4_addKey_82 fX4_29 tX4_4 rfl ⟨rfl, rfl⟩ rfl ?_
            refine j_vret dX4_addKey_85 rfl ?_ (Nat.le_of_ble_eq_true rfl) (Nat.le_of_ble_eq_true rfl)
            exact ⟨rfl, rfl, rfl, _, _, _, _, (by rw [hk2]; exact z_m20s hk), rfl⟩
          · refine j_iload_n dX4_addKey_32 rfl ?_
            refine j_if_le (tgt := 68) dX4_addKey_33 (by decide) (fun c_33 => ?_) (fun c_33 => ?_)
            · refine j_aload_n dX4_addKey_68 rfl rfl ?_
              refine j_getf dX4_addKey_69 fX4_15 rfl rfl ?_
              refine j_iload_n dX4_addKey_72 rfl ?_
              refine j_iload_n dX4_addKey_73 rfl ?_
              refine j_sto (w' := ([.inr (9, [_, _, _, _, _]), z_ia 20 _, z_ia 20 _, .inr (11, [_]), z_ia 7 _], z_no)) dX4_addKey_74 rfl (vp_in_nI hj (by decide)) rfl ?_
              refine j_aload_n dX4_addKey_75 rfl rfl ?_
              refine j_dup dX4_addKey_76 rfl ?_
              refine j_getf dX4_addKey_77 fX4_29 rfl rfl ?_
              refine j_iconst (v := 1) dX4_addKey_80 (by decide) ?_
              refine j_iadd dX4_addKey_81 ?_
              refine j_put (w' := ([.inr (9, [_, _, _, _, _]), z_ia 20 _, z_ia 20 _, .inr (11, [_]), z_ia 7 _], z_no)) dX4_addKey_82 fX4_29 tX4_4 rfl ⟨rfl, rfl⟩ rfl ?_
              refine j_vret dX4_addKey_85 rfl ?_ (Nat.le_of_ble_eq_true rfl) (Nat.le_of_ble_eq_true rfl)
              exact ⟨rfl, rfl, rfl, _, _, _, _, (by rw [hk2]; exact z_m20s hk), rfl⟩
            · exact absurd (by decide) c_33
        | succ j ih =>
          intro g' hj
          refine j_aload_n dX4_addKey_25 rfl rfl ?_
          refine j_getf dX4_addKey_26 fX4_25 rfl rfl ?_
          refine j_if_eq (tgt := 68) dX4_addKey_29 (by decide) (fun c_29 => ?_) (fun c_29 => ?_)
          · refine j_aload_n dX4_addKey_68 rfl rfl ?_
            refine j_getf dX4_addKey_69 fX4_15 rfl rfl ?_
            refine j_iload_n dX4_addKey_72 rfl ?_
            refine j_iload_n dX4_addKey_73 rfl ?_
            refine j_sto (w' := ([.inr (9, [_, _, _, _, _]), z_ia 20 _, z_ia 20 _, .inr (11, [_]), z_ia 7 _], z_no)) dX4_addKey_74 rfl (vp_in_nI hj (by decide)) rfl ?_
            refine j_aload_n dX4_addKey_75 rfl rfl ?_
            refine j_dup dX4_addKey_76 rfl ?_
            refine j_getf dX4_addKey_77 fX4_29 rfl rfl ?_
            refine j_iconst (v := 1) dX4_addKey_80 (by decide) ?_
            refine j_iadd dX4_addKey_81 ?_
            refine j_put (w' := ([.inr (9, [_, _, _, _, _]), z_ia 20 _, z_ia 20 _, .inr (11, [_]), z_ia 7 _], z_no)) dX4_addKey_82 fX4_29 tX4_4 rfl ⟨rfl, rfl⟩ rfl ?_
            refine j_vret dX4_addKey_85 rfl ?_ (Nat.le_of_ble_eq_true rfl) (Nat.le_of_ble_eq_true rfl)
            exact ⟨rfl, rfl, rfl, _, _, _, _, (by rw [hk2]; exact z_m20s hk), rfl⟩
          · refine j_iload_n dX4_addKey_32 rfl ?_
            refine j_if_le (tgt := 68) dX4_addKey_33 (by decide) (fun c_33 => ?_) (fun c_33 => ?_)
            · refine j_aload_n dX4_addKey_68 rfl rfl ?_
              refine j_getf dX4_addKey_69 fX4_15 rfl rfl ?_
              refine j_iload_n dX4_addKey_72 rfl ?_
              refine j_iload_n dX4_addKey_73 rfl ?_
              refine j_sto (w' := ([.inr (9, [_, _, _, _, _]), z_ia 20 _, z_ia 20 _, .inr (11, [_]), z_ia 7 _], z_no)) dX4_addKey_74 rfl (vp_in_nI hj (by decide)) rfl ?_
              refine j_aload_n dX4_addKey_75 rfl rfl ?_
              refine j_dup dX4_addKey_76 rfl ?_
              refine j_getf dX4_addKey_77 fX4_29 rfl rfl ?_
              refine j_iconst (v := 1) dX4_addKey_80 (by decide) ?_
              refine j_iadd dX4_addKey_81 ?_
              refine j_put (w' := ([.inr (9, [_, _, _, _, _]), z_ia 20 _, z_ia 20 _, .inr (11, [_]), z_ia 7 _], z_no)) dX4_addKey_82 fX4_29 tX4_4 rfl ⟨rfl, rfl⟩ rfl ?_
              refine j_vret dX4_addKey_85 rfl ?_ (Nat.le_of_ble_eq_true rfl) (Nat.le_of_ble_eq_true rfl)
              exact ⟨rfl, rfl, rfl, _, _, _, _, (by rw [hk2]; exact z_m20s hk), rfl⟩
            · refine j_aload_n dX4_addKey_36 rfl rfl ?_
              refine j_getf dX4_addKey_37 fX4_15 rfl rfl ?_
              refine j_iload_n dX4_addKey_40 rfl ?_
              refine j_iconst (v := 1) dX4_addKey_41 (by decide) ?_
              refine j_isub dX4_addKey_42 ?_
              refine j_top (congrArg Value.int (nI_pred j)) ?_
              refine j_ld dX4_addKey_43 rfl (vp_in_nI (by omega) (by decide)) ?_
              refine j_iload_n dX4_addKey_44 rfl ?_
              refine j_icmp_le (tgt := 68) dX4_addKey_45 (by decide) (fun c_45 => ?_) (fun c_45 => ?_)
              · refine j_aload_n dX4_addKey_68 rfl rfl ?_
                refine j_getf dX4_addKey_69 fX4_15 rfl rfl ?_
                refine j_iload_n dX4_addKey_72 rfl ?_
                refine j_iload_n dX4_addKey_73 rfl ?_
                refine j_sto (w' := ([.inr (9, [_, _, _, _, _]), z_ia 20 _, z_ia 20 _, .inr (11, [_]), z_ia 7 _], z_no)) dX4_addKey_74 rfl (vp_in_nI hj (by decide)) rfl ?_
                refine j_aload_n dX4_addKey_75 rfl rfl ?_
                refine j_dup dX4_addKey_76 rfl ?_
                refine j_getf dX4_addKey_77 fX4_29 rfl rfl ?_
                refine j_iconst (v := 1) dX4_addKey_80 (by decide) ?_
                refine j_iadd dX4_addKey_81 ?_
                refine j_put (w' := ([.inr (9, [_, _, _, _, _]), z_ia 20 _, z_ia 20 _, .inr (11, [_]), z_ia 7 _], z_no)) dX4_addKey_82 fX4_29 tX4_4 rfl ⟨rfl, rfl⟩ rfl ?_
                refine j_vret dX4_addKey_85 rfl ?_ (Nat.le_of_ble_eq_true rfl) (Nat.le_of_ble_eq_true rfl)
                exact ⟨rfl, rfl, rfl, _, _, _, _, (by rw [hk2]; exact z_m20s hk), rfl⟩
              · refine j_aload_n dX4_addKey_48 rfl rfl ?_
                refine j_getf dX4_addKey_49 fX4_15 rfl rfl ?_
                refine j_iload_n dX4_addKey_52 rfl ?_
                refine j_aload_n dX4_addKey_53 rfl rfl ?_
                refine j_getf dX4_addKey_54 fX4_15 rfl rfl ?_
                refine j_iload_n dX4_addKey_57 rfl ?_
                refine j_iconst (v := 1) dX4_addKey_58 (by decide) ?_
                refine j_isub dX4_addKey_59 ?_
                refine j_top (congrArg Value.int (nI_pred j)) ?_
                refine j_ld dX4_addKey_60 rfl (vp_in_nI (by omega) (by decide)) ?_
                refine j_sto (w' := ([.inr (9, [_, _, _, _, _]), z_ia 20 _, z_ia 20 _, .inr (11, [_]), z_ia 7 _], z_no)) dX4_addKey_61 rfl (vp_in_nI hj (by decide)) rfl ?_
                refine j_iinc (lo' := [(2, _), (0, _), (1, _)]) dX4_addKey_62 rfl (z_decr _) (by decide) rfl ?_
                refine j_goto (tgt := 25) dX4_addKey_65 (by decide) ?_
                exact j_lo2 (ih _ (by omega)) (z_q1 rfl (z_q1 rfl (z_q1 rfl z_q0)))
      exact j_lo2 (loop k _ hk) (z_q1 rfl (z_q1 rfl (z_q1 rfl z_q0)))
    · refine j_vret dX4_addKey_19 rfl ?_ (Nat.le_of_ble_eq_true rfl) (Nat.le_of_ble_eq_true rfl)
      exact ⟨rfl, rfl, rfl, _, _, _, _, hm, rfl⟩
set_option maxRecDepth 100000 in
set_option maxHeartbeats 4000000 in
theorem c_X4_takeKey (hl : l.stackTraces = false) (f g c : Nat → Int32) (m so : Int32) (p : Int32) : z_CF G l mX4_takeKey 10 0 0 [.inr (9, [.int so, .ref 1, .ref 2, .ref 3, .int m]), z_ia 20 f, z_ia 20 g, .inr (11, [.ref 4]), z_ia 7 c] [.ref 0, .int p] (fun v L => v = none ∧ ∃ (f' g' c' : Nat → Int32) (m' : Int32), z_m20 m' ∧ L = [.inr (9, [.int so, .ref 1, .ref 2, .ref 3, .int m']), z_ia 20 f', z_ia 20 g', .inr (11, [.ref 4]), z_ia 7 c']) := by
  refine z_body hl (by decide) rfl (Nat.le_of_ble_eq_true rfl) ?_
  show z_J G l mX4_takeKey (z_SF 10 0 0 [.inr (9, [.int so, .ref 1, .ref 2, .ref 3, .int m]), z_ia 20 f, z_ia 20 g, .inr (11, [.ref 4]), z_ia 7 c] (fun v L => v = none ∧ ∃ (f' g' c' : Nat → Int32) (m' : Int32), z_m20 m' ∧ L = [.inr (9, [.int so, .ref 1, .ref 2, .ref 3, .int m']), z_ia 20 f', z_ia 20 g', .inr (11, [.ref 4]), z_ia 7 c'])) 0 [(0, _), (1, _)] [] _ 0 0
  refine j_iconst (v := 0) dX4_takeKey_0 (by decide) ?_
  refine j_istore_n (lo' := [(2, _), (0, _), (1, _)]) dX4_takeKey_1 (by decide) rfl ?_
  refine j_iconst (v := 0) dX4_takeKey_2 (by decide) ?_
  refine j_istore_n (lo' := [(3, _), (2, _), (0, _), (1, _)]) dX4_takeKey_3 (by decide) rfl ?_
  have loop : ∀ (n j : Nat) (q : Nat) (g' : Nat → Int32), j ≤ 20 → 20 < j + n → q ≤ j → z_J G l mX4_takeKey (z_SF 10 0 0 [.inr (9, [.int so, .ref 1, .ref 2, .ref 3, .int m]), z_ia 20 f, z_ia 20 g, .inr (11, [.ref 4]), z_ia 7 c] (fun v L => v = none ∧ ∃ (f' g' c' : Nat → Int32) (m' : Int32), z_m20 m' ∧ L = [.inr (9, [.int so, .ref 1, .ref 2, .ref 3, .int m']), z_ia 20 f', z_ia 20 g', .inr (11, [.ref 4]), z_ia 7 c'])) 4 [(0, .ref 0), (1, .int p), (2, .int (nI q)), (3, .int (nI j))] [] ([.inr (9, [.int so, .ref 1, .ref 2, .ref 3, .int m]), z_ia 20 f, z_ia 20 g', .inr (11, [.ref 4]), z_ia 7 c], z_no) 0 0 := by
    intro n
    induction n with
    | zero => intro j q g' h1 h2 hq; exact absurd h2 (by omega)
    | succ n ih =>
      intro j q g' h1 h2 hq
      refine j_iload_n dX4_takeKey_4 rfl ?_
      refine j_aload_n dX4_takeKey_5 rfl rfl ?_
      refine j_getf dX4_takeKey_6 fX4_29 rfl rfl ?_
      refine j_icmp_ge (tgt := 52) dX4_takeKey_9 (by decide) (fun c_9 => ?_) (fun c_9 => ?_)
      · refine j_aload_n dX4_takeKey_52 rfl rfl ?_
        refine j_iload_n dX4_takeKey_53 rfl ?_
        refine j_put (w' := ([.inr (9, [_, _, _, _, _]), z_ia 20 _, z_ia 20 _, .inr (11, [_]), z_ia 7 _], z_no)) dX4_takeKey_54 fX4_29 tX4_4 rfl ⟨rfl, rfl⟩ rfl ?_
        refine j_vret dX4_takeKey_57 rfl ?_ (Nat.le_of_ble_eq_true rfl) (Nat.le_of_ble_eq_true rfl)
        exact ⟨rfl, rfl, rfl, _, _, _, _, z_m20n (by omega), rfl⟩
      · refine j_iload_n dX4_takeKey_12 rfl ?_
        refine j_aload_n dX4_takeKey_13 rfl rfl ?_
        refine j_getf dX4_takeKey_14 fX4_15 rfl rfl ?_
        refine j_alen dX4_takeKey_17 rfl rfl rfl ?_
        refine j_icmp_ge (tgt := 52) dX4_takeKey_18 (by decide) (fun c_18 => ?_) (fun c_18 => ?_)
        · refine j_aload_n dX4_takeKey_52 rfl rfl ?_
          refine j_iload_n dX4_takeKey_53 rfl ?_
          refine j_put (w' := ([.inr (9, [_, _, _, _, _]), z_ia 20 _, z_ia 20 _, .inr (11, [_]), z_ia 7 _], z_no)) dX4_takeKey_54 fX4_29 tX4_4 rfl ⟨rfl, rfl⟩ rfl ?_
          refine j_vret dX4_takeKey_57 rfl ?_ (Nat.le_of_ble_eq_true rfl) (Nat.le_of_ble_eq_true rfl)
          exact ⟨rfl, rfl, rfl, _, _, _, _, z_m20n (by omega), rfl⟩
        · have hj : j < 20 := z_ltI c_18 (by omega) (by decide)
          refine j_aload_n dX4_takeKey_21 rfl rfl ?_
          refine j_getf dX4_takeKey_22 fX4_15 rfl rfl ?_
          refine j_iload_n dX4_takeKey_25 rfl ?_
          refine j_ld dX4_takeKey_26 rfl (vp_in_nI hj (by decide)) ?_
          refine j_iload_n dX4_takeKey_27 rfl ?_
          refine j_icmp_eq (tgt := 46) dX4_takeKey_28 (by decide) (fun c_28 => ?_) (fun c_28 => ?_)
          · refine j_iinc (lo' := [(3, _), (0, _), (1, _), (2, _)]) dX4_takeKey_46 rfl (z_inc _) (by decide) rfl ?_
            refine j_goto (tgt := 4) dX4_takeKey_49 (by decide) ?_
            exact j_lo2 (ih (j + 1) _ _ (by omega) (by omega) (by omega)) (z_q1 rfl (z_q1 rfl (z_q1 rfl (z_q1 rfl z_q0))))
          · refine j_aload_n dX4_takeKey_31 rfl rfl ?_
            refine j_getf dX4_takeKey_32 fX4_15 rfl rfl ?_
            refine j_iload_n dX4_takeKey_35 rfl ?_
            refine j_aload_n dX4_takeKey_36 rfl rfl ?_
            refine j_getf dX4_takeKey_37 fX4_15 rfl rfl ?_
            refine j_iload_n dX4_takeKey_40 rfl ?_
            refine j_ld dX4_takeKey_41 rfl (vp_in_nI hj (by decide)) ?_
            refine j_sto (w' := ([.inr (9, [_, _, _, _, _]), z_ia 20 _, z_ia 20 _, .inr (11, [_]), z_ia 7 _], z_no)) dX4_takeKey_42 rfl (vp_in_nI (by omega) (by decide)) rfl ?_
            refine j_iinc (lo' := [(2, _), (0, _), (1, _), (3, _)]) dX4_takeKey_43 rfl (z_inc _) (by decide) rfl ?_
            refine j_iinc (lo' := [(3, _), (2, _), (0, _), (1, _)]) dX4_takeKey_46 rfl (z_inc _) (by decide) rfl ?_
            refine j_goto (tgt := 4) dX4_takeKey_49 (by decide) ?_
            exact j_lo2 (ih (j + 1) _ _ (by omega) (by omega) (by omega)) (z_q1 rfl (z_q1 rfl (z_q1 rfl (z_q1 rfl z_q0))))
  exact j_lo2 (loop (20 + 1) 0 0 _ (by omega) (by omega) (by omega)) (z_q1 rfl (z_q1 rfl (z_q1 rfl (z_q1 rfl z_q0))))
set_option maxRecDepth 100000 in
set_option maxHeartbeats 4000000 in
theorem c_X4_store (hl : l.stackTraces = false) (f g c : Nat → Int32) (m so : Int32) (p x : Int32) (hm : z_m20 m): z_CF G l mX4_store 12 0 0 [.inr (9, [.int so, .ref 1, .ref 2, .ref 3, .int m]), z_ia 20 f, z_ia 20 g, .inr (11, [.ref 4]), z_ia 7 c] [.ref 0, .int p, .int x] (fun v L => ∃ y : Int32, v = some (.int y) ∧ ∃ (f' g' c' : Nat → Int32) (m' : Int32), z_m20 m' ∧ L = [.inr (9, [.int so, .ref 1, .ref 2, .ref 3, .int m']), z_ia 20 f', z_ia 20 g', .inr (11, [.ref 4]), z_ia 7 c']) := by
  refine z_body hl (by decide) rfl (Nat.le_of_ble_eq_true rfl) ?_
  show z_J G l mX4_store (z_SF 12 0 0 [.inr (9, [.int so, .ref 1, .ref 2, .ref 3, .int m]), z_ia 20 f, z_ia 20 g, .inr (11, [.ref 4]), z_ia 7 c] (fun v L => ∃ y : Int32, v = some (.int y) ∧ ∃ (f' g' c' : Nat → Int32) (m' : Int32), z_m20 m' ∧ L = [.inr (9, [.int so, .ref 1, .ref 2, .ref 3, .int m']), z_ia 20 f', z_ia 20 g', .inr (11, [.ref 4]), z_ia 7 c'])) 0 [(0, _), (1, _), (2, _)] [] _ 0 0
  refine j_aload_n dX4_store_0 rfl rfl ?_
  refine j_getf dX4_store_1 fX4_21 rfl rfl ?_
  refine j_iconst (v := 5) dX4_store_4 (by decide) ?_
  refine j_callV (q := (RX6, TX6, 1)) dX4_store_5 kX6_add lX4_33 inX6_add seX6_add rfl rfl (z_frame [3, 4] rfl (by decide) (Nat.le_of_ble_eq_true rfl) (c_X6_add hl _ _)) (Nat.le_of_ble_eq_true rfl) ⟨(Nat.le_of_ble_eq_true rfl), (Nat.le_of_ble_eq_true rfl)⟩ rfl (Nat.le_of_ble_eq_true rfl) rfl rfl (fun _ _ h => h.elim) ?_
  rintro _ _ ⟨_, _, ⟨rfl, _, rfl⟩, rfl, rfl⟩
  refine j_w ([.inr (9, [_, _, _, _, _]), z_ia 20 _, z_ia 20 _, .inr (11, [_]), z_ia 7 _], z_no) rfl ?_
  refine j_aload_n dX4_store_8 rfl rfl ?_
  refine j_iload_n dX4_store_9 rfl ?_
  refine j_callV (q := (RX4, TX4, 5)) dX4_store_10 kX4_look lX4_37 inX4_look seX4_look rfl rfl (z_frame [0, 1, 2, 3, 4] rfl (by decide) (Nat.le_of_ble_eq_true rfl) (c_X4_look hl _ _ _ _ _ _)) (Nat.le_of_ble_eq_true rfl) ⟨(Nat.le_of_ble_eq_true rfl), (Nat.le_of_ble_eq_true rfl)⟩ rfl (Nat.le_of_ble_eq_true rfl) rfl rfl (fun _ _ h => h.elim) ?_
  rintro _ _ ⟨_, _, ⟨_, rfl, rfl⟩, rfl, rfl⟩
  refine j_w ([.inr (9, [_, _, _, _, _]), z_ia 20 _, z_ia 20 _, .inr (11, [_]), z_ia 7 _], z_no) rfl ?_
  refine j_istore_n (lo' := [(3, _), (0, _), (1, _), (2, _)]) dX4_store_13 (by decide) rfl ?_
  refine j_iload_n dX4_store_14 rfl ?_
  refine j_sipush (v := (-1000)) dX4_store_15 (by decide) ?_
  refine j_icmp_ne (tgt := 26) dX4_store_18 (by decide) (fun c_18 => ?_) (fun c_18 => ?_)
  · refine j_aload_n dX4_store_26 rfl rfl ?_
    refine j_iload_n dX4_store_27 rfl ?_
    refine j_iload_n dX4_store_28 rfl ?_
    refine j_callV (q := (RX4, TX4, 5)) dX4_store_29 kX4_setValue lX4_44 inX4_setValue seX4_setValue rfl rfl (z_frame [0, 1, 2, 3, 4] rfl (by decide) (Nat.le_of_ble_eq_true rfl) (c_X4_setValue hl _ _ _ _ _ _ _)) (Nat.le_of_ble_eq_true rfl) ⟨(Nat.le_of_ble_eq_true rfl), (Nat.le_of_ble_eq_true rfl)⟩ rfl (Nat.le_of_ble_eq_true rfl) rfl rfl (fun _ _ h => h.elim) ?_
    rintro _ _ ⟨_, _, ⟨rfl, _, rfl⟩, rfl, rfl⟩
    refine j_w ([.inr (9, [_, _, _, _, _]), z_ia 20 _, z_ia 20 _, .inr (11, [_]), z_ia 7 _], z_no) rfl ?_
    refine j_iload_n dX4_store_32 rfl ?_
    refine j_iret dX4_store_33 rfl rfl ?_ (Nat.le_of_ble_eq_true rfl) (Nat.le_of_ble_eq_true rfl)
    exact ⟨rfl, rfl, _, rfl, _, _, _, _, hm, rfl⟩
  · refine j_aload_n dX4_store_21 rfl rfl ?_
    refine j_iload_n dX4_store_22 rfl ?_
    refine j_callV (q := (RX4, TX4, 5)) dX4_store_23 kX4_addKey lX4_41 inX4_addKey seX4_addKey rfl rfl (z_frame [0, 1, 2, 3, 4] rfl (by decide) (Nat.le_of_ble_eq_true rfl) (c_X4_addKey hl _ _ _ _ _ _ hm)) (Nat.le_of_ble_eq_true rfl) ⟨(Nat.le_of_ble_eq_true rfl), (Nat.le_of_ble_eq_true rfl)⟩ rfl (Nat.le_of_ble_eq_true rfl) rfl rfl (fun _ _ h => h.elim) ?_
    rintro _ _ ⟨_, _, ⟨rfl, _, _, _, _, hm, rfl⟩, rfl, rfl⟩
    refine j_w ([.inr (9, [_, _, _, _, _]), z_ia 20 _, z_ia 20 _, .inr (11, [_]), z_ia 7 _], z_no) rfl ?_
    refine j_aload_n dX4_store_26 rfl rfl ?_
    refine j_iload_n dX4_store_27 rfl ?_
    refine j_iload_n dX4_store_28 rfl ?_
    refine j_callV (q := (RX4, TX4, 5)) dX4_store_29 kX4_setValue lX4_44 inX4_setValue seX4_setValue rfl rfl (z_frame [0, 1, 2, 3, 4] rfl (by decide) (Nat.le_of_ble_eq_true rfl) (c_X4_setValue hl _ _ _ _ _ _ _)) (Nat.le_of_ble_eq_true rfl) ⟨(Nat.le_of_ble_eq_true rfl), (Nat.le_of_ble_eq_true rfl)⟩ rfl (Nat.le_of_ble_eq_true rfl) rfl rfl (fun _ _ h => h.elim) ?_
    rintro _ _ ⟨_, _, ⟨rfl, _, rfl⟩, rfl, rfl⟩
    refine j_w ([.inr (9, [_, _, _, _, _]), z_ia 20 _, z_ia 20 _, .inr (11, [_]), z_ia 7 _], z_no) rfl ?_
    refine j_iload_n dX4_store_32 rfl ?_
    refine j_iret dX4_store_33 rfl rfl ?_ (Nat.le_of_ble_eq_true rfl) (Nat.le_of_ble_eq_true rfl)
    exact ⟨rfl, rfl, _, rfl, _, _, _, _, hm, rfl⟩
set_option maxRecDepth 100000 in
set_option maxHeartbeats 4000000 in
theorem c_X4_sendAway (hl : l.stackTraces = false) (f g c : Nat → Int32) (m so : Int32) (p : Int32) (hm : z_m20 m): z_CF G l mX4_sendAway 12 0 0 [.inr (9, [.int so, .ref 1, .ref 2, .ref 3, .int m]), z_ia 20 f, z_ia 20 g, .inr (11, [.ref 4]), z_ia 7 c] [.ref 0, .int p] (fun v L => ∃ y : Int32, v = some (.int y) ∧ ∃ (f' g' c' : Nat → Int32) (m' : Int32), z_m20 m' ∧ L = [.inr (9, [.int so, .ref 1, .ref 2, .ref 3, .int m']), z_ia 20 f', z_ia 20 g', .inr (11, [.ref 4]), z_ia 7 c']) := by
  refine z_body hl (by decide) rfl (Nat.le_of_ble_eq_true rfl) ?_
  show z_J G l mX4_sendAway (z_SF 12 0 0 [.inr (9, [.int so, .ref 1, .ref 2, .ref 3, .int m]), z_ia 20 f, z_ia 20 g, .inr (11, [.ref 4]), z_ia 7 c] (fun v L => ∃ y : Int32, v = some (.int y) ∧ ∃ (f' g' c' : Nat → Int32) (m' : Int32), z_m20 m' ∧ L = [.inr (9, [.int so, .ref 1, .ref 2, .ref 3, .int m']), z_ia 20 f', z_ia 20 g', .inr (11, [.ref 4]), z_ia 7 c'])) 0 [(0, _), (1, _)] [] _ 0 0
  refine j_aload_n dX4_sendAway_0 rfl rfl ?_
  refine j_getf dX4_sendAway_1 fX4_21 rfl rfl ?_
  refine j_bipush (v := 6) dX4_sendAway_4 (by decide) ?_
  refine j_callV (q := (RX6, TX6, 1)) dX4_sendAway_6 kX6_add lX4_33 inX6_add seX6_add rfl rfl (z_frame [3, 4] rfl (by decide) (Nat.le_of_ble_eq_true rfl) (c_X6_add hl _ _)) (Nat.le_of_ble_eq_true rfl) ⟨(Nat.le_of_ble_eq_true rfl), (Nat.le_of_ble_eq_true rfl)⟩ rfl (Nat.le_of_ble_eq_true rfl) rfl rfl (fun _ _ h => h.elim) ?_
  rintro _ _ ⟨_, _, ⟨rfl, _, rfl⟩, rfl, rfl⟩
  refine j_w ([.inr (9, [_, _, _, _, _]), z_ia 20 _, z_ia 20 _, .inr (11, [_]), z_ia 7 _], z_no) rfl ?_
  refine j_aload_n dX4_sendAway_9 rfl rfl ?_
  refine j_iload_n dX4_sendAway_10 rfl ?_
  refine j_callV (q := (RX4, TX4, 5)) dX4_sendAway_11 kX4_look lX4_37 inX4_look seX4_look rfl rfl (z_frame [0, 1, 2, 3, 4] rfl (by decide) (Nat.le_of_ble_eq_true rfl) (c_X4_look hl _ _ _ _ _ _)) (Nat.le_of_ble_eq_true rfl) ⟨(Nat.le_of_ble_eq_true rfl), (Nat.le_of_ble_eq_true rfl)⟩ rfl (Nat.le_of_ble_eq_true rfl) rfl rfl (fun _ _ h => h.elim) ?_
  rintro _ _ ⟨_, _, ⟨_, rfl, rfl⟩, rfl, rfl⟩
  refine j_w ([.inr (9, [_, _, _, _, _]), z_ia 20 _, z_ia 20 _, .inr (11, [_]), z_ia 7 _], z_no) rfl ?_
  refine j_istore_n (lo' := [(2, _), (0, _), (1, _)]) dX4_sendAway_14 (by decide) rfl ?_
  refine j_iload_n dX4_sendAway_15 rfl ?_
  refine j_sipush (v := (-1000)) dX4_sendAway_16 (by decide) ?_
  refine j_icmp_eq (tgt := 35) dX4_sendAway_19 (by decide) (fun c_19 => ?_) (fun c_19 => ?_)
  · refine j_iload_n dX4_sendAway_35 rfl ?_
    refine j_iret dX4_sendAway_36 rfl rfl ?_ (Nat.le_of_ble_eq_true rfl) (Nat.le_of_ble_eq_true rfl)
    exact ⟨rfl, rfl, _, rfl, _, _, _, _, hm, rfl⟩
  · refine j_aload_n dX4_sendAway_22 rfl rfl ?_
    refine j_iload_n dX4_sendAway_23 rfl ?_
    refine j_callV (q := (RX4, TX4, 5)) dX4_sendAway_24 kX4_takeKey lX4_48 inX4_takeKey seX4_takeKey rfl rfl (z_frame [0, 1, 2, 3, 4] rfl (by decide) (Nat.le_of_ble_eq_true rfl) (c_X4_takeKey hl _ _ _ _ _ _)) (Nat.le_of_ble_eq_true rfl) ⟨(Nat.le_of_ble_eq_true rfl), (Nat.le_of_ble_eq_true rfl)⟩ rfl (Nat.le_of_ble_eq_true rfl) rfl rfl (fun _ _ h => h.elim) ?_
    rintro _ _ ⟨_, _, ⟨rfl, _, _, _, _, hm, rfl⟩, rfl, rfl⟩
    refine j_w ([.inr (9, [_, _, _, _, _]), z_ia 20 _, z_ia 20 _, .inr (11, [_]), z_ia 7 _], z_no) rfl ?_
    refine j_aload_n dX4_sendAway_27 rfl rfl ?_
    refine j_iload_n dX4_sendAway_28 rfl ?_
    refine j_sipush (v := (-1000)) dX4_sendAway_29 (by decide) ?_
    refine j_callV (q := (RX4, TX4, 5)) dX4_sendAway_32 kX4_setValue lX4_44 inX4_setValue seX4_setValue rfl rfl (z_frame [0, 1, 2, 3, 4] rfl (by decide) (Nat.le_of_ble_eq_true rfl) (c_X4_setValue hl _ _ _ _ _ _ _)) (Nat.le_of_ble_eq_true rfl) ⟨(Nat.le_of_ble_eq_true rfl), (Nat.le_of_ble_eq_true rfl)⟩ rfl (Nat.le_of_ble_eq_true rfl) rfl rfl (fun _ _ h => h.elim) ?_
    rintro _ _ ⟨_, _, ⟨rfl, _, rfl⟩, rfl, rfl⟩
    refine j_w ([.inr (9, [_, _, _, _, _]), z_ia 20 _, z_ia 20 _, .inr (11, [_]), z_ia 7 _], z_no) rfl ?_
    refine j_iload_n dX4_sendAway_35 rfl ?_
    refine j_iret dX4_sendAway_36 rfl rfl ?_ (Nat.le_of_ble_eq_true rfl) (Nat.le_of_ble_eq_true rfl)
    exact ⟨rfl, rfl, _, rfl, _, _, _, _, hm, rfl⟩
set_option maxRecDepth 100000 in
set_option maxHeartbeats 4000000 in
theorem c_X4_makeEmpty (hl : l.stackTraces = false) (f g c : Nat → Int32) (m so : Int32) : z_CF G l mX4_makeEmpty 10 0 0 [.inr (9, [.int so, .ref 1, .ref 2, .ref 3, .int m]), z_ia 20 f, z_ia 20 g, .inr (11, [.ref 4]), z_ia 7 c] [.ref 0] (fun v L => ∃ y : Int32, v = some (.int y) ∧ ∃ f' : Nat → Int32, L = [.inr (9, [.int so, .ref 1, .ref 2, .ref 3, .int 0]), z_ia 20 f', z_ia 20 g, .inr (11, [.ref 4]), z_ia 7 c]) := by
  refine z_body hl (by decide) rfl (Nat.le_of_ble_eq_true rfl) ?_
  show z_J G l mX4_makeEmpty (z_SF 10 0 0 [.inr (9, [.int so, .ref 1, .ref 2, .ref 3, .int m]), z_ia 20 f, z_ia 20 g, .inr (11, [.ref 4]), z_ia 7 c] (fun v L => ∃ y : Int32, v = some (.int y) ∧ ∃ f' : Nat → Int32, L = [.inr (9, [.int so, .ref 1, .ref 2, .ref 3, .int 0]), z_ia 20 f', z_ia 20 g, .inr (11, [.ref 4]), z_ia 7 c])) 0 [(0, _)] [] _ 0 0
  refine j_aload_n dX4_makeEmpty_0 rfl rfl ?_
  refine j_getf dX4_makeEmpty_1 fX4_29 rfl rfl ?_
  refine j_istore_n (lo' := [(1, _), (0, _)]) dX4_makeEmpty_4 (by decide) rfl ?_
  refine j_aload_n dX4_makeEmpty_5 rfl rfl ?_
  refine j_iconst (v := 0) dX4_makeEmpty_6 (by decide) ?_
  refine j_put (w' := ([.inr (9, [_, _, _, _, _]), z_ia 20 _, z_ia 20 _, .inr (11, [_]), z_ia 7 _], z_no)) dX4_makeEmpty_7 fX4_29 tX4_4 rfl ⟨rfl, rfl⟩ rfl ?_
  refine j_iconst (v := 0) dX4_makeEmpty_10 (by decide) ?_
  refine j_istore_n (lo' := [(2, _), (1, _), (0, _)]) dX4_makeEmpty_11 (by decide) rfl ?_
  have loop : ∀ (n j : Nat) (f' : Nat → Int32), j ≤ 20 → 20 < j + n → z_J G l mX4_makeEmpty (z_SF 10 0 0 [.inr (9, [.int so, .ref 1, .ref 2, .ref 3, .int m]), z_ia 20 f, z_ia 20 g, .inr (11, [.ref 4]), z_ia 7 c] (fun v L => ∃ y : Int32, v = some (.int y) ∧ ∃ f' : Nat → Int32, L = [.inr (9, [.int so, .ref 1, .ref 2, .ref 3, .int 0]), z_ia 20 f', z_ia 20 g, .inr (11, [.ref 4]), z_ia 7 c])) 12 [(0, .ref 0), (1, .int m), (2, .int (nI j))] [] ([.inr (9, [.int so, .ref 1, .ref 2, .ref 3, .int 0]), z_ia 20 f', z_ia 20 g, .inr (11, [.ref 4]), z_ia 7 c], z_no) 0 0 := by
    intro n
    induction n with
    | zero => intro j f' h1 h2 ; exact absurd h2 (by omega)
    | succ n ih =>
      intro j f' h1 h2
      refine j_iload_n dX4_makeEmpty_12 rfl ?_
      refine j_aload_n dX4_makeEmpty_13 rfl rfl ?_
      refine j_getf dX4_makeEmpty_14 fX4_9 rfl rfl ?_
      refine j_alen dX4_makeEmpty_17 rfl rfl rfl ?_
      refine j_icmp_ge (tgt := 36) dX4_makeEmpty_18 (by decide) (fun c_18 => ?_) (fun c_18 => ?_)
      · refine j_iload_n dX4_makeEmpty_36 rfl ?_
        refine j_iret dX4_makeEmpty_37 rfl rfl ?_ (Nat.le_of_ble_eq_true rfl) (Nat.le_of_ble_eq_true rfl)
        exact ⟨rfl, rfl, _, rfl, _, rfl⟩
      · have hj : j < 20 := z_ltI c_18 (by omega) (by decide)
        refine j_aload_n dX4_makeEmpty_21 rfl rfl ?_
        refine j_getf dX4_makeEmpty_22 fX4_9 rfl rfl ?_
        refine j_iload_n dX4_makeEmpty_25 rfl ?_
        refine j_sipush (v := (-1000)) dX4_makeEmpty_26 (by decide) ?_
        refine j_sto (w' := ([.inr (9, [_, _, _, _, _]), z_ia 20 _, z_ia 20 _, .inr (11, [_]), z_ia 7 _], z_no)) dX4_makeEmpty_29 rfl (vp_in_nI hj (by decide)) rfl ?_
        refine j_iinc (lo' := [(2, _), (0, _), (1, _)]) dX4_makeEmpty_30 rfl (z_inc _) (by decide) rfl ?_
        refine j_goto (tgt := 12) dX4_makeEmpty_33 (by decide) ?_
        exact j_lo2 (ih (j + 1) _ (by omega) (by omega)) (z_q1 rfl (z_q1 rfl (z_q1 rfl z_q0)))
  exact j_lo2 (loop (20 + 1) 0 _ (by omega) (by omega)) (z_q1 rfl (z_q1 rfl (z_q1 rfl z_q0)))
set_option maxRecDepth 100000 in
set_option maxHeartbeats 4000000 in
theorem c_X4_sortKeys (hl : l.stackTraces = false) (f g c : Nat → Int32) (m so : Int32) : z_CF G l mX4_sortKeys 10 0 0 [.inr (9, [.int so, .ref 1, .ref 2, .ref 3, .int m]), z_ia 20 f, z_ia 20 g, .inr (11, [.ref 4]), z_ia 7 c] [.ref 0] (fun v L => v = none ∧ ∃ g' : Nat → Int32, L = [.inr (9, [.int so, .ref 1, .ref 2, .ref 3, .int m]), z_ia 20 f, z_ia 20 g', .inr (11, [.ref 4]), z_ia 7 c]) := by
  refine z_body hl (by decide) rfl (Nat.le_of_ble_eq_true rfl) ?_
  show z_J G l mX4_sortKeys (z_SF 10 0 0 [.inr (9, [.int so, .ref 1, .ref 2, .ref 3, .int m]), z_ia 20 f, z_ia 20 g, .inr (11, [.ref 4]), z_ia 7 c] (fun v L => v = none ∧ ∃ g' : Nat → Int32, L = [.inr (9, [.int so, .ref 1, .ref 2, .ref 3, .int m]), z_ia 20 f, z_ia 20 g', .inr (11, [.ref 4]), z_ia 7 c])) 0 [(0, _)] [] _ 0 0
  refine j_iconst (v := 0) dX4_sortKeys_0 (by decide) ?_
  refine j_istore_n (lo' := [(1, _), (0, _)]) dX4_sortKeys_1 (by decide) rfl ?_
  refine j_iconst (v := 0) dX4_sortKeys_2 (by decide) ?_
  refine j_istore_n (lo' := [(2, _), (1, _), (0, _)]) dX4_sortKeys_3 (by decide) rfl ?_
  have loop : ∀ (n j : Nat) (q : Nat) (g' : Nat → Int32), j ≤ 20 → 20 < j + n → q ≤ j → z_J G l mX4_sortKeys (z_SF 10 0 0 [.inr (9, [.int so, .ref 1, .ref 2, .ref 3, .int m]), z_ia 20 f, z_ia 20 g, .inr (11, [.ref 4]), z_ia 7 c] (fun v L => v = none ∧ ∃ g' : Nat → Int32, L = [.inr (9, [.int so, .ref 1, .ref 2, .ref 3, .int m]), z_ia 20 f, z_ia 20 g', .inr (11, [.ref 4]), z_ia 7 c])) 4 [(0, .ref 0), (1, .int (nI q)), (2, .int (nI j))] [] ([.inr (9, [.int so, .ref 1, .ref 2, .ref 3, .int m]), z_ia 20 f, z_ia 20 g', .inr (11, [.ref 4]), z_ia 7 c], z_no) 0 0 := by
    intro n
    induction n with
    | zero => intro j q g' h1 h2 hq; exact absurd h2 (by omega)
    | succ n ih =>
      intro j q g' h1 h2 hq
      refine j_iload_n dX4_sortKeys_4 rfl ?_
      refine j_aload_n dX4_sortKeys_5 rfl rfl ?_
      refine j_getf dX4_sortKeys_6 fX4_9 rfl rfl ?_
      refine j_alen dX4_sortKeys_9 rfl rfl rfl ?_
      refine j_icmp_ge (tgt := 50) dX4_sortKeys_10 (by decide) (fun c_10 => ?_) (fun c_10 => ?_)
      · refine j_vret dX4_sortKeys_50 rfl ?_ (Nat.le_of_ble_eq_true rfl) (Nat.le_of_ble_eq_true rfl)
        exact ⟨rfl, rfl, rfl, _, rfl⟩
      · have hj : j < 20 := z_ltI c_10 (by omega) (by decide)
        refine j_iload_n dX4_sortKeys_13 rfl ?_
        refine j_aload_n dX4_sortKeys_14 rfl rfl ?_
        refine j_getf dX4_sortKeys_15 fX4_15 rfl rfl ?_
        refine j_alen dX4_sortKeys_18 rfl rfl rfl ?_
        refine j_icmp_ge (tgt := 50) dX4_sortKeys_19 (by decide) (fun c_19 => ?_) (fun c_19 => ?_)
        · refine j_vret dX4_sortKeys_50 rfl ?_ (Nat.le_of_ble_eq_true rfl) (Nat.le_of_ble_eq_true rfl)
          exact ⟨rfl, rfl, rfl, _, rfl⟩
        · refine j_aload_n dX4_sortKeys_22 rfl rfl ?_
          refine j_getf dX4_sortKeys_23 fX4_9 rfl rfl ?_
          refine j_iload_n dX4_sortKeys_26 rfl ?_
          refine j_ld dX4_sortKeys_27 rfl (vp_in_nI hj (by decide)) ?_
          refine j_sipush (v := (-1000)) dX4_sortKeys_28 (by decide) ?_
          refine j_icmp_eq (tgt := 44) dX4_sortKeys_31 (by decide) (fun c_31 => ?_) (fun c_31 => ?_)
          · refine j_iinc (lo' := [(2, _), (0, _), (1, _)]) dX4_sortKeys_44 rfl (z_inc _) (by decide) rfl ?_
            refine j_goto (tgt := 4) dX4_sortKeys_47 (by decide) ?_
            exact j_lo2 (ih (j + 1) _ _ (by omega) (by omega) (by omega)) (z_q1 rfl (z_q1 rfl (z_q1 rfl z_q0)))
          · refine j_aload_n dX4_sortKeys_34 rfl rfl ?_
            refine j_getf dX4_sortKeys_35 fX4_15 rfl rfl ?_
            refine j_iload_n dX4_sortKeys_38 rfl ?_
            refine j_iload_n dX4_sortKeys_39 rfl ?_
            refine j_sto (w' := ([.inr (9, [_, _, _, _, _]), z_ia 20 _, z_ia 20 _, .inr (11, [_]), z_ia 7 _], z_no)) dX4_sortKeys_40 rfl (vp_in_nI (by omega) (by decide)) rfl ?_
            refine j_iinc (lo' := [(1, _), (0, _), (2, _)]) dX4_sortKeys_41 rfl (z_inc _) (by decide) rfl ?_
            refine j_iinc (lo' := [(2, _), (1, _), (0, _)]) dX4_sortKeys_44 rfl (z_inc _) (by decide) rfl ?_
            refine j_goto (tgt := 4) dX4_sortKeys_47 (by decide) ?_
            exact j_lo2 (ih (j + 1) _ _ (by omega) (by omega) (by omega)) (z_q1 rfl (z_q1 rfl (z_q1 rfl z_q0)))
  exact j_lo2 (loop (20 + 1) 0 0 _ (by omega) (by omega) (by omega)) (z_q1 rfl (z_q1 rfl (z_q1 rfl z_q0)))
set_option maxRecDepth 100000 in
set_option maxHeartbeats 4000000 in
theorem c_X4_become (hl : l.stackTraces = false) (f g c : Nat → Int32) (m so : Int32) (f2 g2 c2 : Nat → Int32) (m2 so2 : Int32) : z_CF G l mX4_become 12 0 0 [.inr (9, [.int so, .ref 1, .ref 2, .ref 3, .int m]), z_ia 20 f, z_ia 20 g, .inr (11, [.ref 4]), z_ia 7 c, .inr (9, [.int so2, .ref 6, .ref 7, .ref 8, .int m2]), z_ia 20 f2, z_ia 20 g2, .inr (11, [.ref 9]), z_ia 7 c2] [.ref 0, .ref 5] (fun v L => v = none ∧ ∃ f' g' : Nat → Int32, L = [.inr (9, [.int so, .ref 1, .ref 2, .ref 3, .int m2]), z_ia 20 f', z_ia 20 g', .inr (11, [.ref 4]), z_ia 7 c, .inr (9, [.int so2, .ref 6, .ref 7, .ref 8, .int m2]), z_ia 20 f2, z_ia 20 g2, .inr (11, [.ref 9]), z_ia 7 c2]) := by
  refine z_body hl (by decide) rfl (Nat.le_of_ble_eq_true rfl) ?_
  show z_J G l mX4_become (z_SF 12 0 0 [.inr (9, [.int so, .ref 1, .ref 2, .ref 3, .int m]), z_ia 20 f, z_ia 20 g, .inr (11, [.ref 4]), z_ia 7 c, .inr (9, [.int so2, .ref 6, .ref 7, .ref 8, .int m2]), z_ia 20 f2, z_ia 20 g2, .inr (11, [.ref 9]), z_ia 7 c2] (fun v L => v = none ∧ ∃ f' g' : Nat → Int32, L = [.inr (9, [.int so, .ref 1, .ref 2, .ref 3, .int m2]), z_ia 20 f', z_ia 20 g', .inr (11, [.ref 4]), z_ia 7 c, .inr (9, [.int so2, .ref 6, .ref 7, .ref 8, .int m2]), z_ia 20 f2, z_ia 20 g2, .inr (11, [.ref 9]), z_ia 7 c2])) 0 [(0, _), (1, _)] [] _ 0 0
  refine j_aload_n dX4_become_0 rfl rfl ?_
  refine j_getf dX4_become_1 fX4_9 rfl rfl ?_
  refine j_aload_n dX4_become_4 rfl rfl ?_
  refine j_getf dX4_become_5 fX4_9 rfl rfl ?_
  refine j_callSN dX4_become_8 kX8_takeOver lX4_51 stX8_takeOver (z_frame [1, 6] rfl (by decide) (Nat.le_of_ble_eq_true rfl) (c_X8_takeOver hl _ _ _ (by decide))) (Nat.le_of_ble_eq_true rfl) ⟨(Nat.le_of_ble_eq_true rfl), (Nat.le_of_ble_eq_true rfl)⟩ rfl (Nat.le_of_ble_eq_true rfl) rfl rfl (fun _ _ h => h.elim) ?_
  rintro _ _ ⟨_, _, ⟨rfl, _, rfl⟩, rfl, rfl⟩
  refine j_w ([.inr (9, [_, _, _, _, _]), z_ia 20 _, z_ia 20 _, .inr (11, [_]), z_ia 7 _, .inr (9, [_, _, _, _, _]), z_ia 20 _, z_ia 20 _, .inr (11, [_]), z_ia 7 _], z_no) rfl ?_
  refine j_aload_n dX4_become_11 rfl rfl ?_
  refine j_getf dX4_become_12 fX4_15 rfl rfl ?_
  refine j_aload_n dX4_become_15 rfl rfl ?_
  refine j_getf dX4_become_16 fX4_15 rfl rfl ?_
  refine j_callSN dX4_become_19 kX8_takeOver lX4_51 stX8_takeOver (z_frame [2, 7] rfl (by decide) (Nat.le_of_ble_eq_true rfl) (c_X8_takeOver hl _ _ _ (by decide))) (Nat.le_of_ble_eq_true rfl) ⟨(Nat.le_of_ble_eq_true rfl), (Nat.le_of_ble_eq_true rfl)⟩ rfl (Nat.le_of_ble_eq_true rfl) rfl rfl (fun _ _ h => h.elim) ?_
  rintro _ _ ⟨_, _, ⟨rfl, _, rfl⟩, rfl, rfl⟩
  refine j_w ([.inr (9, [_, _, _, _, _]), z_ia 20 _, z_ia 20 _, .inr (11, [_]), z_ia 7 _, .inr (9, [_, _, _, _, _]), z_ia 20 _, z_ia 20 _, .inr (11, [_]), z_ia 7 _], z_no) rfl ?_
  refine j_aload_n dX4_become_22 rfl rfl ?_
  refine j_aload_n dX4_become_23 rfl rfl ?_
  refine j_getf dX4_become_24 fX4_29 rfl rfl ?_
  refine j_put (w' := ([.inr (9, [_, _, _, _, _]), z_ia 20 _, z_ia 20 _, .inr (11, [_]), z_ia 7 _, .inr (9, [_, _, _, _, _]), z_ia 20 _, z_ia 20 _, .inr (11, [_]), z_ia 7 _], z_no)) dX4_become_27 fX4_29 tX4_4 rfl ⟨rfl, rfl⟩ rfl ?_
  refine j_aload_n dX4_become_30 rfl rfl ?_
  refine j_getf dX4_become_31 fX4_25 rfl rfl ?_
  refine j_if_eq (tgt := 41) dX4_become_34 (by decide) (fun c_34 => ?_) (fun c_34 => ?_)
  · refine j_vret dX4_become_41 rfl ?_ (Nat.le_of_ble_eq_true rfl) (Nat.le_of_ble_eq_true rfl)
    exact ⟨rfl, rfl, rfl, _, _, rfl⟩
  · refine j_aload_n dX4_become_37 rfl rfl ?_
    refine j_callV (q := (RX4, TX4, 5)) dX4_become_38 kX4_sortKeys lX4_55 inX4_sortKeys seX4_sortKeys rfl rfl (z_frame [0, 1, 2, 3, 4] rfl (by decide) (Nat.le_of_ble_eq_true rfl) (c_X4_sortKeys hl _ _ _ _ _)) (Nat.le_of_ble_eq_true rfl) ⟨(Nat.le_of_ble_eq_true rfl), (Nat.le_of_ble_eq_true rfl)⟩ rfl (Nat.le_of_ble_eq_true rfl) rfl rfl (fun _ _ h => h.elim) ?_
    rintro _ _ ⟨_, _, ⟨rfl, _, rfl⟩, rfl, rfl⟩
    refine j_w ([.inr (9, [_, _, _, _, _]), z_ia 20 _, z_ia 20 _, .inr (11, [_]), z_ia 7 _, .inr (9, [_, _, _, _, _]), z_ia 20 _, z_ia 20 _, .inr (11, [_]), z_ia 7 _], z_no) rfl ?_
    refine j_vret dX4_become_41 rfl ?_ (Nat.le_of_ble_eq_true rfl) (Nat.le_of_ble_eq_true rfl)
    exact ⟨rfl, rfl, rfl, _, _, rfl⟩
set_option maxRecDepth 100000 in
set_option maxHeartbeats 4000000 in
theorem c_X4_hasPairsOf (hl : l.stackTraces = false) (f g c : Nat → Int32) (m so : Int32) (f2 g2 c2 : Nat → Int32) (m2 so2 : Int32) : z_CF G l mX4_hasPairsOf 12 0 0 [.inr (9, [.int so, .ref 1, .ref 2, .ref 3, .int m]), z_ia 20 f, z_ia 20 g, .inr (11, [.ref 4]), z_ia 7 c, .inr (9, [.int so2, .ref 6, .ref 7, .ref 8, .int m2]), z_ia 20 f2, z_ia 20 g2, .inr (11, [.ref 9]), z_ia 7 c2] [.ref 0, .ref 5] (fun v L => ∃ b : Bool, v = some (.int (z_bi b)) ∧ L = [.inr (9, [.int so, .ref 1, .ref 2, .ref 3, .int m]), z_ia 20 f, z_ia 20 g, .inr (11, [.ref 4]), z_ia 7 c, .inr (9, [.int so2, .ref 6, .ref 7, .ref 8, .int m2]), z_ia 20 f2, z_ia 20 g2, .inr (11, [.ref 9]), z_ia 7 c2]) := by
  refine z_body hl (by decide) rfl (Nat.le_of_ble_eq_true rfl) ?_
  show z_J G l mX4_hasPairsOf (z_SF 12 0 0 [.inr (9, [.int so, .ref 1, .ref 2, .ref 3, .int m]), z_ia 20 f, z_ia 20 g, .inr (11, [.ref 4]), z_ia 7 c, .inr (9, [.int so2, .ref 6, .ref 7, .ref 8, .int m2]), z_ia 20 f2, z_ia 20 g2, .inr (11, [.ref 9]), z_ia 7 c2] (fun v L => ∃ b : Bool, v = some (.int (z_bi b)) ∧ L = [.inr (9, [.int so, .ref 1, .ref 2, .ref 3, .int m]), z_ia 20 f, z_ia 20 g, .inr (11, [.ref 4]), z_ia 7 c, .inr (9, [.int so2, .ref 6, .ref 7, .ref 8, .int m2]), z_ia 20 f2, z_ia 20 g2, .inr (11, [.ref 9]), z_ia 7 c2])) 0 [(0, _), (1, _)] [] _ 0 0
  refine j_iconst (v := 0) dX4_hasPairsOf_0 (by decide) ?_
  refine j_istore_n (lo' := [(2, _), (0, _), (1, _)]) dX4_hasPairsOf_1 (by decide) rfl ?_
  have loop : ∀ (n j : Nat) , j ≤ 20 → 20 < j + n → z_J G l mX4_hasPairsOf (z_SF 12 0 0 [.inr (9, [.int so, .ref 1, .ref 2, .ref 3, .int m]), z_ia 20 f, z_ia 20 g, .inr (11, [.ref 4]), z_ia 7 c, .inr (9, [.int so2, .ref 6, .ref 7, .ref 8, .int m2]), z_ia 20 f2, z_ia 20 g2, .inr (11, [.ref 9]), z_ia 7 c2] (fun v L => ∃ b : Bool, v = some (.int (z_bi b)) ∧ L = [.inr (9, [.int so, .ref 1, .ref 2, .ref 3, .int m]), z_ia 20 f, z_ia 20 g, .inr (11, [.ref 4]), z_ia 7 c, .inr (9, [.int so2, .ref 6, .ref 7, .ref 8, .int m2]), z_ia 20 f2, z_ia 20 g2, .inr (11, [.ref 9]), z_ia 7 c2])) 2 [(0, .ref 0), (1, .ref 5), (2, .int (nI j))] [] ([.inr (9, [.int so, .ref 1, .ref 2, .ref 3, .int m]), z_ia 20 f, z_ia 20 g, .inr (11, [.ref 4]), z_ia 7 c, .inr (9, [.int so2, .ref 6, .ref 7, .ref 8, .int m2]), z_ia 20 f2, z_ia 20 g2, .inr (11, [.ref 9]), z_ia 7 c2], z_no) 0 0 := by
    intro n
    induction n with
    | zero => intro j h1 h2 ; exact absurd h2 (by omega)
    | succ n ih =>
      intro j  h1 h2
      refine j_iload_n dX4_hasPairsOf_2 rfl ?_
      refine j_aload_n dX4_hasPairsOf_3 rfl rfl ?_
      refine j_getf dX4_hasPairsOf_4 fX4_9 rfl rfl ?_
      refine j_alen dX4_hasPairsOf_7 rfl rfl rfl ?_
      refine j_icmp_ge (tgt := 33) dX4_hasPairsOf_8 (by decide) (fun c_8 => ?_) (fun c_8 => ?_)
      · refine j_iconst (v := 1) dX4_hasPairsOf_33 (by decide) ?_
        refine j_iret dX4_hasPairsOf_34 rfl rfl ?_ (Nat.le_of_ble_eq_true rfl) (Nat.le_of_ble_eq_true rfl)
        exact ⟨rfl, rfl, true, rfl, rfl⟩
      · have hj : j < 20 := z_ltI c_8 (by omega) (by decide)
        refine j_aload_n dX4_hasPairsOf_11 rfl rfl ?_
        refine j_getf dX4_hasPairsOf_12 fX4_9 rfl rfl ?_
        refine j_iload_n dX4_hasPairsOf_15 rfl ?_
        refine j_ld dX4_hasPairsOf_16 rfl (vp_in_nI hj (by decide)) ?_
        refine j_aload_n dX4_hasPairsOf_17 rfl rfl ?_
        refine j_iload_n dX4_hasPairsOf_18 rfl ?_
        refine j_callV (q := (RX4, TX4, 5)) dX4_hasPairsOf_19 kX4_look lX4_37 inX4_look seX4_look rfl rfl (z_frame [5, 6, 7, 8, 9] rfl (by decide) (Nat.le_of_ble_eq_true rfl) (c_X4_look hl _ _ _ _ _ _)) (Nat.le_of_ble_eq_true rfl) ⟨(Nat.le_of_ble_eq_true rfl), (Nat.le_of_ble_eq_true rfl)⟩ rfl (Nat.le_of_ble_eq_true rfl) rfl rfl (fun _ _ h => h.elim) ?_
        rintro _ _ ⟨_, _, ⟨_, rfl, rfl⟩, rfl, rfl⟩
        refine j_w ([.inr (9, [_, _, _, _, _]), z_ia 20 _, z_ia 20 _, .inr (11, [_]), z_ia 7 _, .inr (9, [_, _, _, _, _]), z_ia 20 _, z_ia 20 _, .inr (11, [_]), z_ia 7 _], z_no) rfl ?_
        refine j_icmp_eq (tgt := 27) dX4_hasPairsOf_22 (by decide) (fun c_22 => ?_) (fun c_22 => ?_)
        · refine j_iinc (lo' := [(2, _), (0, _), (1, _)]) dX4_hasPairsOf_27 rfl (z_inc _) (by decide) rfl ?_
          refine j_goto (tgt := 2) dX4_hasPairsOf_30 (by decide) ?_
          exact j_lo2 (ih (j + 1) (by omega) (by omega)) (z_q1 rfl (z_q1 rfl (z_q1 rfl z_q0)))
        · refine j_iconst (v := 0) dX4_hasPairsOf_25 (by decide) ?_
          refine j_iret dX4_hasPairsOf_26 rfl rfl ?_ (Nat.le_of_ble_eq_true rfl) (Nat.le_of_ble_eq_true rfl)
          exact ⟨rfl, rfl, false, rfl, rfl⟩
  exact j_lo2 (loop (20 + 1) 0 (by omega) (by omega)) (z_q1 rfl (z_q1 rfl (z_q1 rfl z_q0)))
set_option maxRecDepth 100000 in
set_option maxHeartbeats 4000000 in
theorem c_X4_hasPairsOf_s (hl : l.stackTraces = false) (f g c : Nat → Int32) (m so : Int32) : z_CF G l mX4_hasPairsOf 12 0 0 [.inr (9, [.int so, .ref 1, .ref 2, .ref 3, .int m]), z_ia 20 f, z_ia 20 g, .inr (11, [.ref 4]), z_ia 7 c] [.ref 0, .ref 0] (fun v L => ∃ b : Bool, v = some (.int (z_bi b)) ∧ L = [.inr (9, [.int so, .ref 1, .ref 2, .ref 3, .int m]), z_ia 20 f, z_ia 20 g, .inr (11, [.ref 4]), z_ia 7 c]) := by
  refine z_body hl (by decide) rfl (Nat.le_of_ble_eq_true rfl) ?_
  show z_J G l mX4_hasPairsOf (z_SF 12 0 0 [.inr (9, [.int so, .ref 1, .ref 2, .ref 3, .int m]), z_ia 20 f, z_ia 20 g, .inr (11, [.ref 4]), z_ia 7 c] (fun v L => ∃ b : Bool, v = some (.int (z_bi b)) ∧ L = [.inr (9, [.int so, .ref 1, .ref 2, .ref 3, .int m]), z_ia 20 f, z_ia 20 g, .inr (11, [.ref 4]), z_ia 7 c])) 0 [(0, _), (1, _)] [] _ 0 0
  refine j_iconst (v := 0) dX4_hasPairsOf_0 (by decide) ?_
  refine j_istore_n (lo' := [(2, _), (0, _), (1, _)]) dX4_hasPairsOf_1 (by decide) rfl ?_
  have loop : ∀ (n j : Nat) , j ≤ 20 → 20 < j + n → z_J G l mX4_hasPairsOf (z_SF 12 0 0 [.inr (9, [.int so, .ref 1, .ref 2, .ref 3, .int m]), z_ia 20 f, z_ia 20 g, .inr (11, [.ref 4]), z_ia 7 c] (fun v L => ∃ b : Bool, v = some (.int (z_bi b)) ∧ L = [.inr (9, [.int so, .ref 1, .ref 2, .ref 3, .int m]), z_ia 20 f, z_ia 20 g, .inr (11, [.ref 4]), z_ia 7 c])) 2 [(0, .ref 0), (1, .ref 0), (2, .int (nI j))] [] ([.inr (9, [.int so, .ref 1, .ref 2, .ref 3, .int m]), z_ia 20 f, z_ia 20 g, .inr (11, [.ref 4]), z_ia 7 c], z_no) 0 0 := by
    intro n
    induction n with
    | zero => intro j h1 h2 ; exact absurd h2 (by omega)
    | succ n ih =>
      intro j  h1 h2
      refine j_iload_n dX4_hasPairsOf_2 rfl ?_
      refine j_aload_n dX4_hasPairsOf_3 rfl rfl ?_
      refine j_getf dX4_hasPairsOf_4 fX4_9 rfl rfl ?_
      refine j_alen dX4_hasPairsOf_7 rfl rfl rfl ?_
      refine j_icmp_ge (tgt := 33) dX4_hasPairsOf_8 (by decide) (fun c_8 => ?_) (fun c_8 => ?_)
      · refine j_iconst (v := 1) dX4_hasPairsOf_33 (by decide) ?_
        refine j_iret dX4_hasPairsOf_34 rfl rfl ?_ (Nat.le_of_ble_eq_true rfl) (Nat.le_of_ble_eq_true rfl)
        exact ⟨rfl, rfl, true, rfl, rfl⟩
      · have hj : j < 20 := z_ltI c_8 (by omega) (by decide)
        refine j_aload_n dX4_hasPairsOf_11 rfl rfl ?_
        refine j_getf dX4_hasPairsOf_12 fX4_9 rfl rfl ?_
        refine j_iload_n dX4_hasPairsOf_15 rfl ?_
        refine j_ld dX4_hasPairsOf_16 rfl (vp_in_nI hj (by decide)) ?_
        refine j_aload_n dX4_hasPairsOf_17 rfl rfl ?_
        refine j_iload_n dX4_hasPairsOf_18 rfl ?_
        refine j_callV (q := (RX4, TX4, 5)) dX4_hasPairsOf_19 kX4_look lX4_37 inX4_look seX4_look rfl rfl (z_frame [0, 1, 2, 3, 4] rfl (by decide) (Nat.le_of_ble_eq_true rfl) (c_X4_look hl _ _ _ _ _ _)) (Nat.le_of_ble_eq_true rfl) ⟨(Nat.le_of_ble_eq_true rfl), (Nat.le_of_ble_eq_true rfl)⟩ rfl (Nat.le_of_ble_eq_true rfl) rfl rfl (fun _ _ h => h.elim) ?_
        rintro _ _ ⟨_, _, ⟨_, rfl, rfl⟩, rfl, rfl⟩
        refine j_w ([.inr (9, [_, _, _, _, _]), z_ia 20 _, z_ia 20 _, .inr (11, [_]), z_ia 7 _], z_no) rfl ?_
        refine j_icmp_eq (tgt := 27) dX4_hasPairsOf_22 (by decide) (fun c_22 => ?_) (fun c_22 => ?_)
        · refine j_iinc (lo' := [(2, _), (0, _), (1, _)]) dX4_hasPairsOf_27 rfl (z_inc _) (by decide) rfl ?_
          refine j_goto (tgt := 2) dX4_hasPairsOf_30 (by decide) ?_
          exact j_lo2 (ih (j + 1) (by omega) (by omega)) (z_q1 rfl (z_q1 rfl (z_q1 rfl z_q0)))
        · refine j_iconst (v := 0) dX4_hasPairsOf_25 (by decide) ?_
          refine j_iret dX4_hasPairsOf_26 rfl rfl ?_ (Nat.le_of_ble_eq_true rfl) (Nat.le_of_ble_eq_true rfl)
          exact ⟨rfl, rfl, false, rfl, rfl⟩
  exact j_lo2 (loop (20 + 1) 0 (by omega) (by omega)) (z_q1 rfl (z_q1 rfl (z_q1 rfl z_q0)))
end ZL2
