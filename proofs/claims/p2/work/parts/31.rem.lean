section ZK3
variable {G : z_G} {l : Launch}
set_option maxRecDepth 100000 in
set_option maxHeartbeats 8000000 in
theorem c_Jx4a65c_fastRemove_b59b0 (hl : l.stackTraces = false) (mo : Int32) (n j k : Nat) (f : Nat → Value) (hj : j ≤ k) (hk : k + 1 ≤ n) (hn : n < 2147483648) (hf : ∀ q, q < k + 1 → ∃ b, f q = .float b) : z_CF G l mJx4a65c_fastRemove_b59b0 12 0 0 [.inr (4, [.int mo, .ref 1, .int (nI (k + 1))]), .inl (3, n, f)] [.ref 0, .ref 1, .int (nI j)] (fun v L => v = none ∧ ∃ (mo' : Int32) (F : Nat → Value), L = [.inr (4, [.int mo', .ref 1, .int (nI k)]), .inl (3, n, F)] ∧ (∀ q, q < j → F q = f q) ∧ ∀ q, j ≤ q → q < k → F q = f (q + 1)) := by
  refine z_body hl (by decide) rfl (Nat.le_of_ble_eq_true rfl) ?_
  show z_J G l mJx4a65c_fastRemove_b59b0 (z_SF 12 0 0 [.inr (4, [.int mo, .ref 1, .int (nI (k + 1))]), .inl (3, n, f)] (fun v L => v = none ∧ ∃ (mo' : Int32) (F : Nat → Value), L = [.inr (4, [.int mo', .ref 1, .int (nI k)]), .inl (3, n, F)] ∧ (∀ q, q < j → F q = f q) ∧ ∀ q, j ≤ q → q < k → F q = f (q + 1))) 0 [(0, _), (1, _), (2, _)] [] _ 0 0
  refine j_aload_n dJx4a65c_fastRemove_b59b0_0 rfl rfl ?_
  refine j_dup dJx4a65c_fastRemove_b59b0_1 rfl ?_
  refine j_getf dJx4a65c_fastRemove_b59b0_2 fJx4a65c_63 rfl rfl ?_
  refine j_iconst (v := 1) dJx4a65c_fastRemove_b59b0_5 (by decide) ?_
  refine j_iadd dJx4a65c_fastRemove_b59b0_6 ?_
  refine j_put (w' := ([.inr (4, [_, _, _]), .inl (3, _, _)], z_no)) dJx4a65c_fastRemove_b59b0_7 fJx4a65c_63 tJx4a65c_0 rfl ⟨rfl, rfl⟩ rfl ?_
  refine j_aload_n dJx4a65c_fastRemove_b59b0_10 rfl rfl ?_
  refine j_getf dJx4a65c_fastRemove_b59b0_11 fJx4a65c_48 rfl rfl ?_
  refine j_iconst (v := 1) dJx4a65c_fastRemove_b59b0_14 (by decide) ?_
  refine j_isub dJx4a65c_fastRemove_b59b0_15 ?_
  refine j_top (congrArg Value.int (nI_pred k)) ?_
  refine j_dup dJx4a65c_fastRemove_b59b0_16 rfl ?_
  refine j_istore_n (lo' := [(3, _), (0, _), (1, _), (2, _)]) dJx4a65c_fastRemove_b59b0_17 (by decide) rfl ?_
  refine j_iload_n dJx4a65c_fastRemove_b59b0_18 rfl ?_
  refine j_icmp_le (tgt := 34) dJx4a65c_fastRemove_b59b0_19 (by decide) (fun c_19 => ?_) (fun c_19 => ?_)
  · refine j_aload_n dJx4a65c_fastRemove_b59b0_34 rfl rfl ?_
    refine j_aload_n dJx4a65c_fastRemove_b59b0_35 rfl rfl ?_
    refine j_iload_n dJx4a65c_fastRemove_b59b0_36 rfl ?_
    refine j_dup_x1 dJx4a65c_fastRemove_b59b0_37 rfl rfl ?_
    refine j_put (w' := ([.inr (4, [_, _, _]), .inl (3, _, _)], z_no)) dJx4a65c_fastRemove_b59b0_38 fJx4a65c_48 tJx4a65c_2 rfl ⟨rfl, rfl⟩ rfl ?_
    refine j_null dJx4a65c_fastRemove_b59b0_41 ?_
    refine j_aastN (w' := ([.inr (4, [_, _, _]), .inl (3, _, _)], z_no)) dJx4a65c_fastRemove_b59b0_42 rfl rfl (vp_in_nI (by omega) hn) rfl ?_
    refine j_vret dJx4a65c_fastRemove_b59b0_43 rfl ?_ (Nat.le_of_ble_eq_true rfl) (Nat.le_of_ble_eq_true rfl)
    first | exact ⟨rfl, rfl, rfl, _, _, rfl, fun q hq => by show cond (Nat.beq q (nI k).toNatClampNeg) _ _ = _; rw [nI_clamp (by omega), z_beq (by omega)]; rfl, fun q hq hq2 => absurd ((nI_leI (by omega) (by omega)).mp c_19) (by omega)⟩ | exact ⟨rfl, rfl, rfl, _, _, rfl, fun q hq => by show cond (Nat.beq q (nI k).toNatClampNeg) _ _ = _; rw [nI_clamp (by omega), z_beq (by omega)]; show va_cpy _ _ _ _ _ q = _; unfold va_cpy; rw [nI_clamp (by omega), if_neg (by omega)], fun q hq hq2 => by show cond (Nat.beq q (nI k).toNatClampNeg) _ _ = _; rw [nI_clamp (by omega), z_beq (by omega)]; show va_cpy _ _ _ _ _ q = _; unfold va_cpy; rw [nI_clamp (n := j) (by omega), nI_clamp (n := k - j) (by omega), if_pos (by omega), nI_clamp (by omega)]; congr 1; omega⟩
  · refine j_aload_n dJx4a65c_fastRemove_b59b0_22 rfl rfl ?_
    refine j_iload_n dJx4a65c_fastRemove_b59b0_23 rfl ?_
    refine j_iconst (v := 1) dJx4a65c_fastRemove_b59b0_24 (by decide) ?_
    refine j_iadd dJx4a65c_fastRemove_b59b0_25 ?_
    refine j_top (congrArg Value.int (nI_1 j)) ?_
    refine j_aload_n dJx4a65c_fastRemove_b59b0_26 rfl rfl ?_
    refine j_iload_n dJx4a65c_fastRemove_b59b0_27 rfl ?_
    refine j_iload_n dJx4a65c_fastRemove_b59b0_28 rfl ?_
    refine j_iload_n dJx4a65c_fastRemove_b59b0_29 rfl ?_
    refine j_isub dJx4a65c_fastRemove_b59b0_30 ?_
    refine j_top (congrArg Value.int (pk_sub (a := k) (b := j) (by omega))) ?_
    have hjk : j < k := Nat.not_le.mp (fun z => c_19 ((nI_leI (by omega) (by omega)).mpr z))
    refine j_acopy (w' := ([.inr (4, [_, _, _]), .inl (3, _, _)], z_no)) dJx4a65c_fastRemove_b59b0_31 lJx4a65c_112 ac_n ac_s ac_i rfl rfl rfl (nI_pos (by omega)) (nI_pos (by omega)) (nI_pos (by omega)) (by rw [nI_clamp (by omega), nI_clamp (by omega)]; omega) (by rw [nI_clamp (by omega), nI_clamp (by omega)]; omega) (fun i hi => by rw [nI_clamp (by omega)] at hi; rw [nI_clamp (by omega)]; obtain ⟨b9, e9⟩ := hf (j + 1 + i) (by omega); exact Or.inr (Or.inr ⟨"java/lang/Integer", "java/lang/Object", rfl, by rw [e9]; rfl, cs_IO⟩)) (Nat.le_of_ble_eq_true rfl) (Nat.le_of_ble_eq_true rfl) rfl ?_
    refine j_aload_n dJx4a65c_fastRemove_b59b0_34 rfl rfl ?_
    refine j_aload_n dJx4a65c_fastRemove_b59b0_35 rfl rfl ?_
    refine j_iload_n dJx4a65c_fastRemove_b59b0_36 rfl ?_
    refine j_dup_x1 dJx4a65c_fastRemove_b59b0_37 rfl rfl ?_
    refine j_put (w' := ([.inr (4, [_, _, _]), .inl (3, _, _)], z_no)) dJx4a65c_fastRemove_b59b0_38 fJx4a65c_48 tJx4a65c_2 rfl ⟨rfl, rfl⟩ rfl ?_
    refine j_null dJx4a65c_fastRemove_b59b0_41 ?_
    refine j_aastN (w' := ([.inr (4, [_, _, _]), .inl (3, _, _)], z_no)) dJx4a65c_fastRemove_b59b0_42 rfl rfl (vp_in_nI (by omega) hn) rfl ?_
    refine j_vret dJx4a65c_fastRemove_b59b0_43 rfl ?_ (Nat.le_of_ble_eq_true rfl) (Nat.le_of_ble_eq_true rfl)
    first | exact ⟨rfl, rfl, rfl, _, _, rfl, fun q hq => by show cond (Nat.beq q (nI k).toNatClampNeg) _ _ = _; rw [nI_clamp (by omega), z_beq (by omega)]; rfl, fun q hq hq2 => absurd ((nI_leI (by omega) (by omega)).mp c_19) (by omega)⟩ | exact ⟨rfl, rfl, rfl, _, _, rfl, fun q hq => by show cond (Nat.beq q (nI k).toNatClampNeg) _ _ = _; rw [nI_clamp (by omega), z_beq (by omega)]; show va_cpy _ _ _ _ _ q = _; unfold va_cpy; rw [nI_clamp (by omega), if_neg (by omega)], fun q hq hq2 => by show cond (Nat.beq q (nI k).toNatClampNeg) _ _ = _; rw [nI_clamp (by omega), z_beq (by omega)]; show va_cpy _ _ _ _ _ q = _; unfold va_cpy; rw [nI_clamp (n := j) (by omega), nI_clamp (n := k - j) (by omega), if_pos (by omega), nI_clamp (by omega)]; congr 1; omega⟩
set_option maxRecDepth 100000 in
set_option maxHeartbeats 8000000 in
theorem c_Jx4a65c_remove_915e3 (hl : l.stackTraces = false) (mo : Int32) (n j k : Nat) (f : Nat → Value) (hj : j ≤ k) (hk : k + 1 ≤ n) (hn : n < 2147483648) (hf : ∀ q, q < k + 1 → ∃ b, f q = .float b) : z_CF G l mJx4a65c_remove_915e3 14 0 0 [.inr (4, [.int mo, .ref 1, .int (nI (k + 1))]), .inl (3, n, f)] [.ref 0, .int (nI j)] (fun v L => v = some (f j) ∧ ∃ (mo' : Int32) (F : Nat → Value), L = [.inr (4, [.int mo', .ref 1, .int (nI k)]), .inl (3, n, F)] ∧ (∀ q, q < j → F q = f q) ∧ ∀ q, j ≤ q → q < k → F q = f (q + 1)) := by
  refine z_body hl (by decide) rfl (Nat.le_of_ble_eq_true rfl) ?_
  show z_J G l mJx4a65c_remove_915e3 (z_SF 14 0 0 [.inr (4, [.int mo, .ref 1, .int (nI (k + 1))]), .inl (3, n, f)] (fun v L => v = some (f j) ∧ ∃ (mo' : Int32) (F : Nat → Value), L = [.inr (4, [.int mo', .ref 1, .int (nI k)]), .inl (3, n, F)] ∧ (∀ q, q < j → F q = f q) ∧ ∀ q, j ≤ q → q < k → F q = f (q + 1))) 0 [(0, _), (1, _)] [] _ 0 0
  obtain ⟨b0, e0⟩ := hf j (by omega)
  refine j_iload_n dJx4a65c_remove_915e3_0 rfl ?_
  refine j_aload_n dJx4a65c_remove_915e3_1 rfl rfl ?_
  refine j_getf dJx4a65c_remove_915e3_2 fJx4a65c_48 rfl rfl ?_
  refine j_callS dJx4a65c_remove_915e3_5 kJ15_checkIndex_7cf53 lJx4a65c_118 stJ15_checkIndex_7cf53 (c_J15_checkIndex_7cf53 hl _ _ _ (nI_pos (by omega)) (nI_lt (show j < k + 1 by omega) (by omega))) (Nat.le_of_ble_eq_true rfl) ⟨(Nat.le_of_ble_eq_true rfl), (Nat.le_of_ble_eq_true rfl)⟩ rfl (Nat.le_of_ble_eq_true rfl) rfl rfl (fun _ _ h => h.elim) ?_
  rintro _ _ ⟨rfl, rfl⟩
  refine j_pop dJx4a65c_remove_915e3_8 rfl ?_
  refine j_aload_n dJx4a65c_remove_915e3_9 rfl rfl ?_
  refine j_getf dJx4a65c_remove_915e3_10 fJx4a65c_9 rfl rfl ?_
  refine j_astore_n (lo' := [(2, _), (0, _), (1, _)]) dJx4a65c_remove_915e3_13 rfl (by decide) rfl ?_
  refine j_aload_n dJx4a65c_remove_915e3_14 rfl rfl ?_
  refine j_iload_n dJx4a65c_remove_915e3_15 rfl ?_
  refine j_aald (v := .float b0) dJx4a65c_remove_915e3_16 rfl rfl rfl (vp_in_nI (by omega) hn) (by rw [nI_clamp (by omega)]; exact e0) ?_
  refine j_astore_n (lo' := [(3, _), (2, _), (0, _), (1, _)]) dJx4a65c_remove_915e3_17 rfl (by decide) rfl ?_
  refine j_aload_n dJx4a65c_remove_915e3_18 rfl rfl ?_
  refine j_aload_n dJx4a65c_remove_915e3_19 rfl rfl ?_
  refine j_iload_n dJx4a65c_remove_915e3_20 rfl ?_
  refine j_callV (q := (RJx4a65c, TJx4a65c, 3)) dJx4a65c_remove_915e3_21 kJx4a65c_fastRemove_b59b0 lJx4a65c_144 inJx4a65c_fastRemove_b59b0 seJx4a65c_fastRemove_b59b0 rfl rfl (z_dirF (c_Jx4a65c_fastRemove_b59b0 hl _ _ _ _ _ hj hk hn hf)) (Nat.le_of_ble_eq_true rfl) ⟨(Nat.le_of_ble_eq_true rfl), (Nat.le_of_ble_eq_true rfl)⟩ rfl (Nat.le_of_ble_eq_true rfl) rfl rfl (fun _ _ h => h.elim) ?_
  rintro _ _ ⟨_, ⟨rfl, _, F, rfl, hF1, hF2⟩, rfl⟩
  refine j_aload_n dJx4a65c_remove_915e3_24 rfl rfl ?_
  refine j_aret dJx4a65c_remove_915e3_25 rfl (Or.inl ⟨_, rfl⟩) rfl ?_ (Nat.le_of_ble_eq_true rfl) (Nat.le_of_ble_eq_true rfl)
  exact ⟨rfl, rfl, by rw [e0], _, _, rfl, hF1, hF2⟩
set_option maxRecDepth 100000 in
set_option maxHeartbeats 8000000 in
theorem c_Jx4a65c_clear_da8c8 (hl : l.stackTraces = false) (mo : Int32) (N k : Nat) (f : Nat → Value) (hk : k ≤ N) (hn : N < 2147483648) : z_CF G l mJx4a65c_clear_da8c8 11 0 0 [.inr (4, [.int mo, .ref 1, .int (nI k)]), .inl (3, N, f)] [.ref 0] (fun v L => v = none ∧ ∃ (mo' : Int32) (F : Nat → Value), L = [.inr (4, [.int mo', .ref 1, .int (0)]), .inl (3, N, F)]) := by
  refine z_body hl (by decide) rfl (Nat.le_of_ble_eq_true rfl) ?_
  show z_J G l mJx4a65c_clear_da8c8 (z_SF 11 0 0 [.inr (4, [.int mo, .ref 1, .int (nI k)]), .inl (3, N, f)] (fun v L => v = none ∧ ∃ (mo' : Int32) (F : Nat → Value), L = [.inr (4, [.int mo', .ref 1, .int (0)]), .inl (3, N, F)])) 0 [(0, _)] [] _ 0 0
  refine j_aload_n dJx4a65c_clear_da8c8_0 rfl rfl ?_
  refine j_dup dJx4a65c_clear_da8c8_1 rfl ?_
  refine j_getf dJx4a65c_clear_da8c8_2 fJx4a65c_63 rfl rfl ?_
  refine j_iconst (v := 1) dJx4a65c_clear_da8c8_5 (by decide) ?_
  refine j_iadd dJx4a65c_clear_da8c8_6 ?_
  refine j_put (w' := ([.inr (4, [_, _, _]), .inl (3, _, _)], z_no)) dJx4a65c_clear_da8c8_7 fJx4a65c_63 tJx4a65c_0 rfl ⟨rfl, rfl⟩ rfl ?_
  refine j_aload_n dJx4a65c_clear_da8c8_10 rfl rfl ?_
  refine j_getf dJx4a65c_clear_da8c8_11 fJx4a65c_9 rfl rfl ?_
  refine j_astore_n (lo' := [(1, _), (0, _)]) dJx4a65c_clear_da8c8_14 rfl (by decide) rfl ?_
  refine j_aload_n dJx4a65c_clear_da8c8_15 rfl rfl ?_
  refine j_getf dJx4a65c_clear_da8c8_16 fJx4a65c_48 rfl rfl ?_
  refine j_istore_n (lo' := [(2, _), (1, _), (0, _)]) dJx4a65c_clear_da8c8_19 (by decide) rfl ?_
  refine j_aload_n dJx4a65c_clear_da8c8_20 rfl rfl ?_
  refine j_iconst (v := 0) dJx4a65c_clear_da8c8_21 (by decide) ?_
  refine j_dup_x1 dJx4a65c_clear_da8c8_22 rfl rfl ?_
  refine j_put (w' := ([.inr (4, [_, _, _]), .inl (3, _, _)], z_no)) dJx4a65c_clear_da8c8_23 fJx4a65c_48 tJx4a65c_2 rfl ⟨rfl, rfl⟩ rfl ?_
  refine j_istore_n (lo' := [(3, _), (2, _), (1, _), (0, _)]) dJx4a65c_clear_da8c8_26 (by decide) rfl ?_
  have loop : ∀ (n j : Nat) (F : Nat → Value), j ≤ k → k < j + n → z_J G l mJx4a65c_clear_da8c8 (z_SF 11 0 0 [.inr (4, [.int mo, .ref 1, .int (nI k)]), .inl (3, N, f)] (fun v L => v = none ∧ ∃ (mo' : Int32) (F : Nat → Value), L = [.inr (4, [.int mo', .ref 1, .int (0)]), .inl (3, N, F)])) 27 [(0, .ref 0), (1, .ref 1), (2, .int (nI k)), (3, .int (nI j))] [] ([.inr (4, [.int (mo + 1), .ref 1, .int (0)]), .inl (3, N, F)], z_no) 0 0 := by
    intro n
    induction n with
    | zero => intro j F h1 h2 ; exact absurd h2 (by omega)
    | succ n ih =>
      intro j F h1 h2
      refine j_iload_n dJx4a65c_clear_da8c8_27 rfl ?_
      refine j_iload_n dJx4a65c_clear_da8c8_28 rfl ?_
      refine j_icmp_ge (tgt := 42) dJx4a65c_clear_da8c8_29 (by decide) (fun c_29 => ?_) (fun c_29 => ?_)
      · refine j_vret dJx4a65c_clear_da8c8_42 rfl ?_ (Nat.le_of_ble_eq_true rfl) (Nat.le_of_ble_eq_true rfl)
        exact ⟨rfl, rfl, rfl, _, _, rfl⟩
      · have hj : j < k := Nat.not_le.mp (fun z => c_29 ((nI_leI (by omega) (by omega)).mpr z))
        refine j_aload_n dJx4a65c_clear_da8c8_32 rfl rfl ?_
        refine j_iload_n dJx4a65c_clear_da8c8_33 rfl ?_
        refine j_null dJx4a65c_clear_da8c8_34 ?_
        refine j_aastN (w' := ([.inr (4, [_, _, _]), .inl (3, _, _)], z_no)) dJx4a65c_clear_da8c8_35 rfl rfl (vp_in_nI (by omega) hn) rfl ?_
        refine j_iinc (lo' := [(3, _), (0, _), (1, _), (2, _)]) dJx4a65c_clear_da8c8_36 rfl (z_inc _) (by decide) rfl ?_
        refine j_goto (tgt := 27) dJx4a65c_clear_da8c8_39 (by decide) ?_
        exact j_lo2 (ih (j + 1) _ (by omega) (by omega)) (z_q1 rfl (z_q1 rfl (z_q1 rfl (z_q1 rfl z_q0))))
  exact j_lo2 (loop (k + 1) 0 _ (by omega) (by omega)) (z_q1 rfl (z_q1 rfl (z_q1 rfl (z_q1 rfl z_q0))))
end ZK3
