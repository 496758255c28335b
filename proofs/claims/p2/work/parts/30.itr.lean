section ZK2
variable {G : z_G} {l : Launch}
set_option maxRecDepth 100000 in
set_option maxHeartbeats 8000000 in
theorem c_Jx35411_init_45d68 (hl : l.stackTraces = false) (mo sz : Int32) (n : Nat) (f : Nat → Value) : z_CF G l mJx35411_init_45d68 11 0 0 [.inr (4, [.int mo, .ref 1, .int sz]), .inl (3, n, f), .inr (3, [.int 0, .int 0, .int 0, .null])] [.ref 2, .ref 0] (fun v L => v = none ∧ L = [.inr (4, [.int mo, .ref 1, .int sz]), .inl (3, n, f), .inr (3, [.int 0, .int (-1), .int mo, .ref 0])]) := by
  refine z_body hl (by decide) rfl (Nat.le_of_ble_eq_true rfl) ?_
  show z_J G l mJx35411_init_45d68 (z_SF 11 0 0 [.inr (4, [.int mo, .ref 1, .int sz]), .inl (3, n, f), .inr (3, [.int 0, .int 0, .int 0, .null])] (fun v L => v = none ∧ L = [.inr (4, [.int mo, .ref 1, .int sz]), .inl (3, n, f), .inr (3, [.int 0, .int (-1), .int mo, .ref 0])])) 0 [(0, _), (1, _)] [] _ 0 0
  refine j_aload_n dJx35411_init_45d68_0 rfl rfl ?_
  refine j_aload_n dJx35411_init_45d68_1 rfl rfl ?_
  refine j_putF (w' := ([.inr (4, [_, _, _]), .inl (3, _, _), .inr (3, [_, _, _, _])], z_no)) dJx35411_init_45d68_2 fJx35411_1 tJx35411_3 rfl (z_dc rfl rfl (z_w 1754 ((lwg_8 29).trans (by decide +kernel)) (by decide +kernel))) rfl (Or.inl ⟨_, rfl⟩) rfl ?_
  refine j_aload_n dJx35411_init_45d68_5 rfl rfl ?_
  refine j_objI dJx35411_init_45d68_6 oJx35411_7 z_oi1 z_oi2 (Nat.le_of_ble_eq_true rfl) (Nat.le_of_ble_eq_true rfl) ?_
  refine j_aload_n dJx35411_init_45d68_9 rfl rfl ?_
  refine j_iconst (v := (-1)) dJx35411_init_45d68_10 (by decide) ?_
  refine j_put (w' := ([.inr (4, [_, _, _]), .inl (3, _, _), .inr (3, [_, _, _, _])], z_no)) dJx35411_init_45d68_11 fJx35411_13 tJx35411_1 rfl ⟨rfl, rfl⟩ rfl ?_
  refine j_aload_n dJx35411_init_45d68_14 rfl rfl ?_
  refine j_aload_n dJx35411_init_45d68_15 rfl rfl ?_
  refine j_getf dJx35411_init_45d68_16 fJx35411_1 rfl rfl ?_
  refine j_getf dJx35411_init_45d68_19 fJx35411_17 rfl rfl ?_
  refine j_put (w' := ([.inr (4, [_, _, _]), .inl (3, _, _), .inr (3, [_, _, _, _])], z_no)) dJx35411_init_45d68_22 fJx35411_22 tJx35411_2 rfl ⟨rfl, rfl⟩ rfl ?_
  refine j_vret dJx35411_init_45d68_25 rfl ?_ (Nat.le_of_ble_eq_true rfl) (Nat.le_of_ble_eq_true rfl)
  exact ⟨rfl, rfl, rfl, rfl⟩
set_option maxRecDepth 100000 in
set_option maxHeartbeats 8000000 in
theorem c_Jx4a65c_iterator_32c93 (hl : l.stackTraces = false) (mo sz : Int32) (n : Nat) (f : Nat → Value) : z_CN G l mJx4a65c_iterator_32c93 12 1 4 1 [.inr (4, [.int mo, .ref 1, .int sz]), .inl (3, n, f)] [.ref 0] (fun v L => v = some (.ref 2) ∧ L = [.inr (4, [.int mo, .ref 1, .int sz]), .inl (3, n, f), .inr (3, [.int 0, .int (-1), .int mo, .ref 0])]) := by
  refine z_body hl (by decide) rfl (Nat.le_of_ble_eq_true rfl) ?_
  show z_J G l mJx4a65c_iterator_32c93 (z_SN 12 1 4 1 [.inr (4, [.int mo, .ref 1, .int sz]), .inl (3, n, f)] (fun v L => v = some (.ref 2) ∧ L = [.inr (4, [.int mo, .ref 1, .int sz]), .inl (3, n, f), .inr (3, [.int 0, .int (-1), .int mo, .ref 0])])) 0 [(0, _)] [] _ 0 0
  refine j_new (w' := ([.inr (4, [_, _, _]), .inl (3, _, _), .inr (3, [_, _, _, _])], z_no)) (n := 2) dJx4a65c_iterator_32c93_0 nJx4a65c_267 rfl (z_al_l rfl rfl) (Nat.le_of_ble_eq_true rfl) (Nat.le_of_ble_eq_true rfl) ?_
  refine j_dup dJx4a65c_iterator_32c93_3 rfl ?_
  refine j_aload_n dJx4a65c_iterator_32c93_4 rfl rfl ?_
  refine j_callI dJx4a65c_iterator_32c93_5 kJx35411_init_45d68 rfl lJx4a65c_269 inJx35411_init_45d68 rfl (z_dirF (c_Jx35411_init_45d68 hl _ _ _ _)) (Nat.le_of_ble_eq_true rfl) ⟨(Nat.le_of_ble_eq_true rfl), (Nat.le_of_ble_eq_true rfl)⟩ rfl (Nat.le_of_ble_eq_true rfl) rfl rfl (fun _ _ h => h.elim) ?_
  rintro _ _ ⟨_, ⟨rfl, rfl⟩, rfl⟩
  refine j_aret dJx4a65c_iterator_32c93_8 rfl (Or.inl ⟨_, rfl⟩) rfl ?_ (Nat.le_of_ble_eq_true rfl) (Nat.le_of_ble_eq_true rfl)
  exact ⟨rfl, (Nat.le_of_ble_eq_true rfl), rfl, rfl⟩
set_option maxRecDepth 100000 in
set_option maxHeartbeats 8000000 in
theorem c_Jx35411_hasNext_aae02 (hl : l.stackTraces = false) (mo sz cu la : Int32) (n : Nat) (f : Nat → Value) : z_CF G l mJx35411_hasNext_aae02 10 0 0 [.inr (4, [.int mo, .ref 1, .int sz]), .inl (3, n, f), .inr (3, [.int cu, .int la, .int mo, .ref 0])] [.ref 2] (fun v L => (∃ b : Bool, v = some (.int (z_bi b)) ∧ (b = true → ¬ cu = sz) ∧ (b = false → cu = sz)) ∧ L = [.inr (4, [.int mo, .ref 1, .int sz]), .inl (3, n, f), .inr (3, [.int cu, .int la, .int mo, .ref 0])]) := by
  refine z_body hl (by decide) rfl (Nat.le_of_ble_eq_true rfl) ?_
  show z_J G l mJx35411_hasNext_aae02 (z_SF 10 0 0 [.inr (4, [.int mo, .ref 1, .int sz]), .inl (3, n, f), .inr (3, [.int cu, .int la, .int mo, .ref 0])] (fun v L => (∃ b : Bool, v = some (.int (z_bi b)) ∧ (b = true → ¬ cu = sz) ∧ (b = false → cu = sz)) ∧ L = [.inr (4, [.int mo, .ref 1, .int sz]), .inl (3, n, f), .inr (3, [.int cu, .int la, .int mo, .ref 0])])) 0 [(0, _)] [] _ 0 0
  refine j_aload_n dJx35411_hasNext_aae02_0 rfl rfl ?_
  refine j_getf dJx35411_hasNext_aae02_1 fJx35411_25 rfl rfl ?_
  refine j_aload_n dJx35411_hasNext_aae02_4 rfl rfl ?_
  refine j_getf dJx35411_hasNext_aae02_5 fJx35411_1 rfl rfl ?_
  refine j_getf dJx35411_hasNext_aae02_8 fJx35411_28 rfl rfl ?_
  refine j_icmp_eq (tgt := 18) dJx35411_hasNext_aae02_11 (by decide) (fun c_11 => ?_) (fun c_11 => ?_)
  · refine j_iconst (v := 0) dJx35411_hasNext_aae02_18 (by decide) ?_
    refine j_iret dJx35411_hasNext_aae02_19 rfl rfl ?_ (Nat.le_of_ble_eq_true rfl) (Nat.le_of_ble_eq_true rfl)
    first | exact ⟨rfl, rfl, ⟨true, rfl, fun _ => c_11, fun z => Bool.noConfusion z⟩, rfl⟩ | exact ⟨rfl, rfl, ⟨false, rfl, fun z => Bool.noConfusion z, fun _ => c_11⟩, rfl⟩
  · refine j_iconst (v := 1) dJx35411_hasNext_aae02_14 (by decide) ?_
    refine j_goto (tgt := 19) dJx35411_hasNext_aae02_15 (by decide) ?_
    refine j_iret dJx35411_hasNext_aae02_19 rfl rfl ?_ (Nat.le_of_ble_eq_true rfl) (Nat.le_of_ble_eq_true rfl)
    first | exact ⟨rfl, rfl, ⟨true, rfl, fun _ => c_11, fun z => Bool.noConfusion z⟩, rfl⟩ | exact ⟨rfl, rfl, ⟨false, rfl, fun z => Bool.noConfusion z, fun _ => c_11⟩, rfl⟩
set_option maxRecDepth 100000 in
set_option maxHeartbeats 8000000 in
theorem c_Jx35411_checkForComodification_da8c8 (hl : l.stackTraces = false) (mo sz cu la : Int32) (n : Nat) (f : Nat → Value) : z_CF G l mJx35411_checkForComodification_da8c8 10 0 0 [.inr (4, [.int mo, .ref 1, .int sz]), .inl (3, n, f), .inr (3, [.int cu, .int la, .int mo, .ref 0])] [.ref 2] (fun v L => v = none ∧ L = [.inr (4, [.int mo, .ref 1, .int sz]), .inl (3, n, f), .inr (3, [.int cu, .int la, .int mo, .ref 0])]) := by
  refine z_body hl (by decide) rfl (Nat.le_of_ble_eq_true rfl) ?_
  show z_J G l mJx35411_checkForComodification_da8c8 (z_SF 10 0 0 [.inr (4, [.int mo, .ref 1, .int sz]), .inl (3, n, f), .inr (3, [.int cu, .int la, .int mo, .ref 0])] (fun v L => v = none ∧ L = [.inr (4, [.int mo, .ref 1, .int sz]), .inl (3, n, f), .inr (3, [.int cu, .int la, .int mo, .ref 0])])) 0 [(0, _)] [] _ 0 0
  refine j_aload_n dJx35411_checkForComodification_da8c8_0 rfl rfl ?_
  refine j_getf dJx35411_checkForComodification_da8c8_1 fJx35411_1 rfl rfl ?_
  refine j_getf dJx35411_checkForComodification_da8c8_4 fJx35411_17 rfl rfl ?_
  refine j_aload_n dJx35411_checkForComodification_da8c8_7 rfl rfl ?_
  refine j_getf dJx35411_checkForComodification_da8c8_8 fJx35411_22 rfl rfl ?_
  refine j_icmp_eq (tgt := 22) dJx35411_checkForComodification_da8c8_11 (by decide) (fun c_11 => ?_) (fun c_11 => ?_)
  · refine j_vret dJx35411_checkForComodification_da8c8_22 rfl ?_ (Nat.le_of_ble_eq_true rfl) (Nat.le_of_ble_eq_true rfl)
    exact ⟨rfl, rfl, rfl, rfl⟩
  · exact absurd rfl c_11
set_option maxRecDepth 100000 in
set_option maxHeartbeats 8000000 in
theorem c_Jx35411_next_0502b (hl : l.stackTraces = false) (mo la : Int32) (n j k : Nat) (f : Nat → Value) (hj : j < k) (hk : k ≤ n) (hn : n < 2147483648) (hr : z_ir (f (nI j).toNatClampNeg) = true) : z_CF G l mJx35411_next_0502b 12 0 0 [.inr (4, [.int mo, .ref 1, .int (nI k)]), .inl (3, n, f), .inr (3, [.int (nI j), .int la, .int mo, .ref 0])] [.ref 2] (fun v L => v = some (f (nI j).toNatClampNeg) ∧ L = [.inr (4, [.int mo, .ref 1, .int (nI k)]), .inl (3, n, f), .inr (3, [.int (nI (j + 1)), .int (nI j), .int mo, .ref 0])]) := by
  refine z_body hl (by decide) rfl (Nat.le_of_ble_eq_true rfl) ?_
  show z_J G l mJx35411_next_0502b (z_SF 12 0 0 [.inr (4, [.int mo, .ref 1, .int (nI k)]), .inl (3, n, f), .inr (3, [.int (nI j), .int la, .int mo, .ref 0])] (fun v L => v = some (f (nI j).toNatClampNeg) ∧ L = [.inr (4, [.int mo, .ref 1, .int (nI k)]), .inl (3, n, f), .inr (3, [.int (nI (j + 1)), .int (nI j), .int mo, .ref 0])])) 0 [(0, _)] [] _ 0 0
  refine j_aload_n dJx35411_next_0502b_0 rfl rfl ?_
  refine j_callV (q := (RJx35411, TJx35411, 4)) dJx35411_next_0502b_1 kJx35411_checkForComodification_da8c8 lJx35411_31 inJx35411_checkForComodification_da8c8 seJx35411_checkForComodification_da8c8 rfl rfl (z_dirF (c_Jx35411_checkForComodification_da8c8 hl _ _ _ _ _ _)) (Nat.le_of_ble_eq_true rfl) ⟨(Nat.le_of_ble_eq_true rfl), (Nat.le_of_ble_eq_true rfl)⟩ rfl (Nat.le_of_ble_eq_true rfl) rfl rfl (fun _ _ h => h.elim) ?_
  rintro _ _ ⟨_, ⟨rfl, rfl⟩, rfl⟩
  refine j_aload_n dJx35411_next_0502b_4 rfl rfl ?_
  refine j_getf dJx35411_next_0502b_5 fJx35411_25 rfl rfl ?_
  refine j_istore_n (lo' := [(1, _), (0, _)]) dJx35411_next_0502b_8 (by decide) rfl ?_
  refine j_iload_n dJx35411_next_0502b_9 rfl ?_
  refine j_aload_n dJx35411_next_0502b_10 rfl rfl ?_
  refine j_getf dJx35411_next_0502b_11 fJx35411_1 rfl rfl ?_
  refine j_getf dJx35411_next_0502b_14 fJx35411_28 rfl rfl ?_
  refine j_icmp_lt (tgt := 28) dJx35411_next_0502b_17 (by decide) (fun c_17 => ?_) (fun c_17 => ?_)
  · refine j_aload_n dJx35411_next_0502b_28 rfl rfl ?_
    refine j_getf dJx35411_next_0502b_29 fJx35411_1 rfl rfl ?_
    refine j_getf dJx35411_next_0502b_32 fJx35411_37 rfl rfl ?_
    refine j_astore_n (lo' := [(2, _), (1, _), (0, _)]) dJx35411_next_0502b_35 rfl (by decide) rfl ?_
    refine j_iload_n dJx35411_next_0502b_36 rfl ?_
    refine j_aload_n dJx35411_next_0502b_37 rfl rfl ?_
    refine j_alen dJx35411_next_0502b_38 rfl rfl rfl ?_
    refine j_icmp_lt (tgt := 50) dJx35411_next_0502b_39 (by decide) (fun c_39 => ?_) (fun c_39 => ?_)
    · refine j_aload_n dJx35411_next_0502b_50 rfl rfl ?_
      refine j_iload_n dJx35411_next_0502b_51 rfl ?_
      refine j_iconst (v := 1) dJx35411_next_0502b_52 (by decide) ?_
      refine j_iadd dJx35411_next_0502b_53 ?_
      refine j_top (congrArg Value.int (nI_1 j)) ?_
      refine j_put (w' := ([.inr (4, [_, _, _]), .inl (3, _, _), .inr (3, [_, _, _, _])], z_no)) dJx35411_next_0502b_54 fJx35411_25 tJx35411_0 rfl ⟨rfl, rfl⟩ rfl ?_
      refine j_aload_n dJx35411_next_0502b_57 rfl rfl ?_
      refine j_aload_n dJx35411_next_0502b_58 rfl rfl ?_
      refine j_iload_n dJx35411_next_0502b_59 rfl ?_
      refine j_dup_x1 dJx35411_next_0502b_60 rfl rfl ?_
      refine j_put (w' := ([.inr (4, [_, _, _]), .inl (3, _, _), .inr (3, [_, _, _, _])], z_no)) dJx35411_next_0502b_61 fJx35411_13 tJx35411_1 rfl ⟨rfl, rfl⟩ rfl ?_
      refine j_aald dJx35411_next_0502b_64 rfl rfl rfl (vp_in_nI (by omega) hn) rfl ?_
      refine j_aret dJx35411_next_0502b_65 rfl (Or.inl ⟨_, rfl⟩) hr ?_ (Nat.le_of_ble_eq_true rfl) (Nat.le_of_ble_eq_true rfl)
      exact ⟨rfl, rfl, rfl, rfl⟩
    · exact absurd (nI_lt (show j < n by omega) (by omega)) c_39
  · exact absurd (nI_lt hj (by omega)) c_17
end ZK2
