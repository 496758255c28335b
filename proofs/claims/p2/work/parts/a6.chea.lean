section ZCe
variable {G : z_G} {l : Launch}
set_option maxRecDepth 100000 in
set_option maxHeartbeats 8000000 in
theorem c_X0_dropOldest_e (hl : l.stackTraces = false) (a d e s : Int32) (f : Nat → Int32)  : z_CF G l mX0_dropOldest 10 0 0 [.inr (5, [.ref 1, .int (nI 10), .int a, .int d, .int e, .int s]), z_ia 10 f] [.ref 0] (fun v L => v = none ∧ ∃ f' : Nat → Int32, (∀ i, i < 9 → f' i = f (i + 1)) ∧ L = [.inr (5, [.ref 1, .int (nI 9), .int a, .int d, .int e, .int s]), z_ia 10 f']) := by
  refine z_body hl (by decide) rfl (Nat.le_of_ble_eq_true rfl) ?_
  show z_J G l mX0_dropOldest (z_SF 10 0 0 [.inr (5, [.ref 1, .int (nI 10), .int a, .int d, .int e, .int s]), z_ia 10 f] (fun v L => v = none ∧ ∃ f' : Nat → Int32, (∀ i, i < 9 → f' i = f (i + 1)) ∧ L = [.inr (5, [.ref 1, .int (nI 9), .int a, .int d, .int e, .int s]), z_ia 10 f'])) 0 [(0, _)] [] _ 0 0
  refine j_iconst (v := 1) dX0_dropOldest_0 (by decide) ?_
  refine j_istore_n (lo' := [(1, _), (0, _)]) dX0_dropOldest_1 (by decide) rfl ?_
  have loop : ∀ (n9 : Nat) (f' : Nat → Int32) (j : Nat), (j ≤ 9) → (∀ i, i < j → f' i = f (i + 1)) → (∀ i, j ≤ i → f' i = f i) → (9 < j + n9) → z_J G l mX0_dropOldest (z_SF 10 0 0 [.inr (5, [.ref 1, .int (nI 10), .int a, .int d, .int e, .int s]), z_ia 10 f] (fun v L => v = none ∧ ∃ f' : Nat → Int32, (∀ i, i < 9 → f' i = f (i + 1)) ∧ L = [.inr (5, [.ref 1, .int (nI 9), .int a, .int d, .int e, .int s]), z_ia 10 f'])) 2 [(0, .ref 0), (1, .int (nI (j + 1)))] [] ([.inr (5, [.ref 1, .int (nI 10), .int a, .int d, .int e, .int s]), z_ia 10 f'], z_no) 0 0 := by
    intro n9
    induction n9 with
    | zero => intro f' j hj hm hr hf9; exact absurd hf9 (by omega)
    | succ n9 ih =>
      intro f' j hj hm hr hf9
      refine j_iload_n dX0_dropOldest_2 rfl ?_
      refine j_aload_n dX0_dropOldest_3 rfl rfl ?_
      refine j_getf dX0_dropOldest_4 fX0_9 rfl rfl ?_
      refine j_alen dX0_dropOldest_7 rfl rfl rfl ?_
      refine j_icmp_ge (tgt := 31) dX0_dropOldest_8 (by decide) (fun c_8 => ?_) (fun c_8 => ?_)
      · have hb8 : 10 ≤ (j + 1) := (nI_leI (a := 10) (b := (j + 1)) (by omega) (by omega)).mp c_8
        refine j_aload_n dX0_dropOldest_31 rfl rfl ?_
        refine j_dup dX0_dropOldest_32 rfl ?_
        refine j_getf dX0_dropOldest_33 fX0_32 rfl rfl ?_
        refine j_iconst (v := 1) dX0_dropOldest_36 (by decide) ?_
        refine j_isub dX0_dropOldest_37 ?_
        refine j_top (congrArg Value.int (q_nsub (a := 10) (b := 1) (by omega))) ?_
        refine j_put (w' := ([.inr (5, [_, _, _, _, _, _]), z_ia 10 _], z_no)) dX0_dropOldest_38 fX0_32 tX0_1 rfl ⟨rfl, rfl⟩ rfl ?_
        refine j_vret dX0_dropOldest_41 rfl ?_ (Nat.le_of_ble_eq_true rfl) (Nat.le_of_ble_eq_true rfl)
        exact ⟨rfl, rfl, rfl, _, fun i hi => hm i (by omega), rfl⟩
      · have hb8 : (j + 1) < 10 := Nat.not_le.mp (fun z => c_8 ((nI_leI (a := 10) (b := (j + 1)) (by omega) (by omega)).mpr z))
        refine j_aload_n dX0_dropOldest_11 rfl rfl ?_
        refine j_getf dX0_dropOldest_12 fX0_9 rfl rfl ?_
        refine j_iload_n dX0_dropOldest_15 rfl ?_
        refine j_iconst (v := 1) dX0_dropOldest_16 (by decide) ?_
        refine j_isub dX0_dropOldest_17 ?_
        refine j_top (congrArg Value.int (q_nsub (a := (j + 1)) (b := 1) (by omega))) ?_
        refine j_aload_n dX0_dropOldest_18 rfl rfl ?_
        refine j_getf dX0_dropOldest_19 fX0_9 rfl rfl ?_
        refine j_iload_n dX0_dropOldest_22 rfl ?_
        refine j_ldN dX0_dropOldest_23 rfl (k := (j + 1)) (by omega) (by omega) ?_
        refine j_stoN (w' := ([.inr (5, [_, _, _, _, _, _]), z_ia 10 _], z_no)) dX0_dropOldest_24 rfl (k := ((j + 1) - 1)) (by omega) (by omega) rfl ?_
        refine j_iinc (lo' := [(1, _), (0, _)]) dX0_dropOldest_25 rfl (z_inc _) (by decide) rfl ?_
        refine j_goto (tgt := 2) dX0_dropOldest_28 (by decide) ?_
        exact j_lo2 (ih _ (j + 1) (by omega) (sp_lt1 (fun i hi => (z_ui_ne (by omega)).trans (hm i hi)) (z_ui_self.trans (hr _ (by omega)))) (fun i hi => (z_ui_ne (by omega)).trans (hr i (by omega))) (by omega)) (z_q1 rfl (z_q1 rfl z_q0))
  exact j_lo2 (loop 10 _ 0 (by omega) (fun i hi => absurd hi (Nat.not_lt_zero _)) (fun _ _ => rfl) (by omega)) (z_q1 rfl (z_q1 rfl z_q0))
set_option maxRecDepth 100000 in
set_option maxHeartbeats 8000000 in
theorem c_X0_keep_e (hl : l.stackTraces = false) (a d e s : Int32) (f : Nat → Int32) (B : List Int32) (x : Int32) (hr : z_row 10 (nI B.length) f B) : z_CF G l mX0_keep 11 0 0 [.inr (5, [.ref 1, .int (nI B.length), .int a, .int d, .int e, .int s]), z_ia 10 f] [.ref 0, .int x] (fun v L => v = none ∧ ∃ f' : Nat → Int32, z_row 10 (nI (sp_rec B x).length) f' (sp_rec B x) ∧ L = [.inr (5, [.ref 1, .int (nI (sp_rec B x).length), .int a, .int d, .int e, .int s]), z_ia 10 f']) := by
  refine z_body hl (by decide) rfl (Nat.le_of_ble_eq_true rfl) ?_
  show z_J G l mX0_keep (z_SF 11 0 0 [.inr (5, [.ref 1, .int (nI B.length), .int a, .int d, .int e, .int s]), z_ia 10 f] (fun v L => v = none ∧ ∃ f' : Nat → Int32, z_row 10 (nI (sp_rec B x).length) f' (sp_rec B x) ∧ L = [.inr (5, [.ref 1, .int (nI (sp_rec B x).length), .int a, .int d, .int e, .int s]), z_ia 10 f'])) 0 [(0, _), (1, _)] [] _ 0 0
  have hln := hr.2.1
  refine j_aload_n dX0_keep_0 rfl rfl ?_
  refine j_getf dX0_keep_1 fX0_32 rfl rfl ?_
  refine j_aload_n dX0_keep_4 rfl rfl ?_
  refine j_getf dX0_keep_5 fX0_9 rfl rfl ?_
  refine j_alen dX0_keep_8 rfl rfl rfl ?_
  refine j_icmp_lt (tgt := 16) dX0_keep_9 (by decide) (fun c_9 => ?_) (fun c_9 => ?_)
  · have hb9 : B.length < 10 := (nI_ltI (a := B.length) (b := 10) (by omega) (by omega)).mp c_9
    refine j_aload_n dX0_keep_16 rfl rfl ?_
    refine j_getf dX0_keep_17 fX0_32 rfl rfl ?_
    refine j_if_lt (tgt := 55) dX0_keep_20 (by decide) (fun c_20 => ?_) (fun c_20 => ?_)
    · exact absurd c_20 (nI_pos (n := B.length) (by omega))
    · have hb20 : ¬ B.length < 0 := fun z => c_20 ((nI_ltI (a := B.length) (b := 0) (by omega) (by omega)).mpr z)
      refine j_aload_n dX0_keep_23 rfl rfl ?_
      refine j_getf dX0_keep_24 fX0_32 rfl rfl ?_
      refine j_aload_n dX0_keep_27 rfl rfl ?_
      refine j_getf dX0_keep_28 fX0_9 rfl rfl ?_
      refine j_alen dX0_keep_31 rfl rfl rfl ?_
      refine j_icmp_ge (tgt := 55) dX0_keep_32 (by decide) (fun c_32 => ?_) (fun c_32 => ?_)
      · have hb32 : 10 ≤ B.length := (nI_leI (a := 10) (b := B.length) (by omega) (by omega)).mp c_32
        exact absurd hb32 (by omega)
      · have hb32 : B.length < 10 := Nat.not_le.mp (fun z => c_32 ((nI_leI (a := 10) (b := B.length) (by omega) (by omega)).mpr z))
        refine j_aload_n dX0_keep_35 rfl rfl ?_
        refine j_getf dX0_keep_36 fX0_9 rfl rfl ?_
        refine j_aload_n dX0_keep_39 rfl rfl ?_
        refine j_getf dX0_keep_40 fX0_32 rfl rfl ?_
        refine j_iload_n dX0_keep_43 rfl ?_
        refine j_stoN (w' := ([.inr (5, [_, _, _, _, _, _]), z_ia 10 _], z_no)) dX0_keep_44 rfl (k := B.length) (by omega) (by omega) rfl ?_
        refine j_aload_n dX0_keep_45 rfl rfl ?_
        refine j_dup dX0_keep_46 rfl ?_
        refine j_getf dX0_keep_47 fX0_32 rfl rfl ?_
        refine j_iconst (v := 1) dX0_keep_50 (by decide) ?_
        refine j_iadd dX0_keep_51 ?_
        refine j_top (congrArg Value.int (show nI (B.length) + nI (1) = nI (B.length + 1) from nI_add _ _)) ?_
        refine j_put (w' := ([.inr (5, [_, _, _, _, _, _]), z_ia 10 _], z_no)) dX0_keep_52 fX0_32 tX0_1 rfl ⟨rfl, rfl⟩ rfl ?_
        refine j_vret dX0_keep_55 rfl ?_ (Nat.le_of_ble_eq_true rfl) (Nat.le_of_ble_eq_true rfl)
        exact ⟨rfl, rfl, rfl, _, (by rw [sp_rec_l hb9, List.length_append]; exact hr.push hb9), (by rw [sp_rec_l hb9, List.length_append]; rfl)⟩
  · have hb9 : ¬ B.length < 10 := fun z => c_9 ((nI_ltI (a := B.length) (b := 10) (by omega) (by omega)).mpr z)
    have hB10 : B.length = 10 := by omega
    have htl : B.tail.length = 9 := by rw [List.length_tail, hB10]
    refine j_aload_n dX0_keep_12 rfl rfl ?_
    refine j_w ([.inr (5, [.ref 1, .int (nI 10), .int a, .int d, .int e, .int s]), z_ia 10 f], z_no) (by rw [hB10] <;> rfl) ?_
    refine j_callV (q := (RX0, TX0, 6)) dX0_keep_13 kX0_dropOldest lX0_35 inX0_dropOldest seX0_dropOldest rfl rfl (z_frame [0, 1] rfl (by decide) (Nat.le_of_ble_eq_true rfl) (c_X0_dropOldest_e hl _ _ _ _ _)) (Nat.le_of_ble_eq_true rfl) ⟨(Nat.le_of_ble_eq_true rfl), (Nat.le_of_ble_eq_true rfl)⟩ rfl (Nat.le_of_ble_eq_true rfl) rfl rfl (fun _ _ h => h.elim) ?_
    rintro _ _ ⟨_, _, ⟨rfl, f9, hf9, rfl⟩, rfl, rfl⟩
    refine j_w ([.inr (5, [_, _, _, _, _, _]), z_ia 10 _], z_no) rfl ?_
    refine j_aload_n dX0_keep_16 rfl rfl ?_
    refine j_getf dX0_keep_17 fX0_32 rfl rfl ?_
    refine j_if_lt (tgt := 55) dX0_keep_20 (by decide) (fun c_20 => ?_) (fun c_20 => ?_)
    · exact absurd c_20 (nI_pos (n := 9) (by omega))
    · have hb20 : ¬ 9 < 0 := fun z => c_20 ((nI_ltI (a := 9) (b := 0) (by omega) (by omega)).mpr z)
      refine j_aload_n dX0_keep_23 rfl rfl ?_
      refine j_getf dX0_keep_24 fX0_32 rfl rfl ?_
      refine j_aload_n dX0_keep_27 rfl rfl ?_
      refine j_getf dX0_keep_28 fX0_9 rfl rfl ?_
      refine j_alen dX0_keep_31 rfl rfl rfl ?_
      refine j_icmp_ge (tgt := 55) dX0_keep_32 (by decide) (fun c_32 => ?_) (fun c_32 => ?_)
      · have hb32 : 10 ≤ 9 := (nI_leI (a := 10) (b := 9) (by omega) (by omega)).mp c_32
        exact absurd hb32 (by omega)
      · have hb32 : 9 < 10 := Nat.not_le.mp (fun z => c_32 ((nI_leI (a := 10) (b := 9) (by omega) (by omega)).mpr z))
        refine j_aload_n dX0_keep_35 rfl rfl ?_
        refine j_getf dX0_keep_36 fX0_9 rfl rfl ?_
        refine j_aload_n dX0_keep_39 rfl rfl ?_
        refine j_getf dX0_keep_40 fX0_32 rfl rfl ?_
        refine j_iload_n dX0_keep_43 rfl ?_
        refine j_stoN (w' := ([.inr (5, [_, _, _, _, _, _]), z_ia 10 _], z_no)) dX0_keep_44 rfl (k := 9) (by omega) (by omega) rfl ?_
        refine j_aload_n dX0_keep_45 rfl rfl ?_
        refine j_dup dX0_keep_46 rfl ?_
        refine j_getf dX0_keep_47 fX0_32 rfl rfl ?_
        refine j_iconst (v := 1) dX0_keep_50 (by decide) ?_
        refine j_iadd dX0_keep_51 ?_
        refine j_top (congrArg Value.int (show nI (9) + nI (1) = nI (9 + 1) from nI_add _ _)) ?_
        refine j_put (w' := ([.inr (5, [_, _, _, _, _, _]), z_ia 10 _], z_no)) dX0_keep_52 fX0_32 tX0_1 rfl ⟨rfl, rfl⟩ rfl ?_
        refine j_vret dX0_keep_55 rfl ?_ (Nat.le_of_ble_eq_true rfl) (Nat.le_of_ble_eq_true rfl)
        exact ⟨rfl, rfl, rfl, _, (by rw [sp_rec_g (by omega)]; have z := (hr.tail hB10 hf9).push (x := x) (by omega); rw [htl] at z; rw [List.length_append, htl]; exact z), (by rw [sp_rec_g (by omega), List.length_append, htl]; rfl)⟩
set_option maxRecDepth 100000 in
set_option maxHeartbeats 8000000 in
theorem c_X0_takesIn_e (hl : l.stackTraces = false) (h : sp_H) (f : Nat → Int32) (x : Int32) (he : z_row 10 (nI h.2.length) f h.2) : z_CF G l mX0_takesIn 12 0 0 [.inr (5, [.ref 1, .int (nI h.2.length), .int h.1.2.1, .int h.1.2.2.1, .int h.1.2.2.2, .int h.1.1]), z_ia 10 f] [.ref 0, .int x] (fun v L => v = some (.int (z_bi (sp_in h x).isSome)) ∧ ∃ f' : Nat → Int32, z_row 10 (nI ((sp_in h x).getD h).2.length) f' ((sp_in h x).getD h).2 ∧ L = [.inr (5, [.ref 1, .int (nI ((sp_in h x).getD h).2.length), .int ((sp_in h x).getD h).1.2.1, .int ((sp_in h x).getD h).1.2.2.1, .int ((sp_in h x).getD h).1.2.2.2, .int ((sp_in h x).getD h).1.1]), z_ia 10 f']) := by
  refine z_body hl (by decide) rfl (Nat.le_of_ble_eq_true rfl) ?_
  show z_J G l mX0_takesIn (z_SF 12 0 0 [.inr (5, [.ref 1, .int (nI h.2.length), .int h.1.2.1, .int h.1.2.2.1, .int h.1.2.2.2, .int h.1.1]), z_ia 10 f] (fun v L => v = some (.int (z_bi (sp_in h x).isSome)) ∧ ∃ f' : Nat → Int32, z_row 10 (nI ((sp_in h x).getD h).2.length) f' ((sp_in h x).getD h).2 ∧ L = [.inr (5, [.ref 1, .int (nI ((sp_in h x).getD h).2.length), .int ((sp_in h x).getD h).1.2.1, .int ((sp_in h x).getD h).1.2.2.1, .int ((sp_in h x).getD h).1.2.2.2, .int ((sp_in h x).getD h).1.1]), z_ia 10 f'])) 0 [(0, _), (1, _)] [] _ 0 0
  refine j_aload_n dX0_takesIn_0 rfl rfl ?_
  refine j_getf dX0_takesIn_1 fX0_19 rfl rfl ?_
  refine j_sipush (v := (-1000)) dX0_takesIn_4 (by decide) ?_
  refine j_icmp_eq (tgt := 20) dX0_takesIn_7 (by decide) (fun c_7 => ?_) (fun c_7 => ?_)
  · have e0 := sp_inS (h := h) (x := x) (fun z => z.1 c_7)
    refine j_aload_n dX0_takesIn_20 rfl rfl ?_
    refine j_dup dX0_takesIn_21 rfl ?_
    refine j_getf dX0_takesIn_22 fX0_22 rfl rfl ?_
    refine j_iconst (v := 1) dX0_takesIn_25 (by decide) ?_
    refine j_iadd dX0_takesIn_26 ?_
    refine j_put (w' := ([.inr (5, [_, _, _, _, _, _]), z_ia 10 _], z_no)) dX0_takesIn_27 fX0_22 tX0_2 rfl ⟨rfl, rfl⟩ rfl ?_
    refine j_aload_n dX0_takesIn_30 rfl rfl ?_
    refine j_dup dX0_takesIn_31 rfl ?_
    refine j_getf dX0_takesIn_32 fX0_25 rfl rfl ?_
    refine j_iload_n dX0_takesIn_35 rfl ?_
    refine j_iadd dX0_takesIn_36 ?_
    refine j_put (w' := ([.inr (5, [_, _, _, _, _, _]), z_ia 10 _], z_no)) dX0_takesIn_37 fX0_25 tX0_3 rfl ⟨rfl, rfl⟩ rfl ?_
    refine j_aload_n dX0_takesIn_40 rfl rfl ?_
    refine j_iload_n dX0_takesIn_41 rfl ?_
    refine j_put (w' := ([.inr (5, [_, _, _, _, _, _]), z_ia 10 _], z_no)) dX0_takesIn_42 fX0_15 tX0_4 rfl ⟨rfl, rfl⟩ rfl ?_
    refine j_aload_n dX0_takesIn_45 rfl rfl ?_
    refine j_iload_n dX0_takesIn_46 rfl ?_
    refine j_callV (q := (RX0, TX0, 6)) dX0_takesIn_47 kX0_keep lX0_28 inX0_keep seX0_keep rfl rfl (z_frame [0, 1] rfl (by decide) (Nat.le_of_ble_eq_true rfl) (c_X0_keep_e hl _ _ _ _ _ h.2 x he)) (Nat.le_of_ble_eq_true rfl) ⟨(Nat.le_of_ble_eq_true rfl), (Nat.le_of_ble_eq_true rfl)⟩ rfl (Nat.le_of_ble_eq_true rfl) rfl rfl (fun _ _ h => h.elim) ?_
    rintro _ _ ⟨_, _, ⟨rfl, f9, hf9, rfl⟩, rfl, rfl⟩
    refine j_w ([.inr (5, [_, _, _, _, _, _]), z_ia 10 _], z_no) rfl ?_
    refine j_iconst (v := 1) dX0_takesIn_50 (by decide) ?_
    refine j_iret dX0_takesIn_51 rfl rfl ?_ (Nat.le_of_ble_eq_true rfl) (Nat.le_of_ble_eq_true rfl)
    exact ⟨rfl, rfl, (by rw [e0]; rfl), _, (by rw [e0]; exact hf9), (by rw [e0]; rfl)⟩
  · refine j_iload_n dX0_takesIn_10 rfl ?_
    refine j_aload_n dX0_takesIn_11 rfl rfl ?_
    refine j_getf dX0_takesIn_12 fX0_19 rfl rfl ?_
    refine j_icmp_ne (tgt := 20) dX0_takesIn_15 (by decide) (fun c_15 => ?_) (fun c_15 => ?_)
    · have e0 := sp_inS (h := h) (x := x) (fun z => c_15 z.2)
      refine j_aload_n dX0_takesIn_20 rfl rfl ?_
      refine j_dup dX0_takesIn_21 rfl ?_
      refine j_getf dX0_takesIn_22 fX0_22 rfl rfl ?_
      refine j_iconst (v := 1) dX0_takesIn_25 (by decide) ?_
      refine j_iadd dX0_takesIn_26 ?_
      refine j_put (w' := ([.inr (5, [_, _, _, _, _, _]), z_ia 10 _], z_no)) dX0_takesIn_27 fX0_22 tX0_2 rfl ⟨rfl, rfl⟩ rfl ?_
      refine j_aload_n dX0_takesIn_30 rfl rfl ?_
      refine j_dup dX0_takesIn_31 rfl ?_
      refine j_getf dX0_takesIn_32 fX0_25 rfl rfl ?_
      refine j_iload_n dX0_takesIn_35 rfl ?_
      refine j_iadd dX0_takesIn_36 ?_
      refine j_put (w' := ([.inr (5, [_, _, _, _, _, _]), z_ia 10 _], z_no)) dX0_takesIn_37 fX0_25 tX0_3 rfl ⟨rfl, rfl⟩ rfl ?_
      refine j_aload_n dX0_takesIn_40 rfl rfl ?_
      refine j_iload_n dX0_takesIn_41 rfl ?_
      refine j_put (w' := ([.inr (5, [_, _, _, _, _, _]), z_ia 10 _], z_no)) dX0_takesIn_42 fX0_15 tX0_4 rfl ⟨rfl, rfl⟩ rfl ?_
      refine j_aload_n dX0_takesIn_45 rfl rfl ?_
      refine j_iload_n dX0_takesIn_46 rfl ?_
      refine j_callV (q := (RX0, TX0, 6)) dX0_takesIn_47 kX0_keep lX0_28 inX0_keep seX0_keep rfl rfl (z_frame [0, 1] rfl (by decide) (Nat.le_of_ble_eq_true rfl) (c_X0_keep_e hl _ _ _ _ _ h.2 x he)) (Nat.le_of_ble_eq_true rfl) ⟨(Nat.le_of_ble_eq_true rfl), (Nat.le_of_ble_eq_true rfl)⟩ rfl (Nat.le_of_ble_eq_true rfl) rfl rfl (fun _ _ h => h.elim) ?_
      rintro _ _ ⟨_, _, ⟨rfl, f9, hf9, rfl⟩, rfl, rfl⟩
      refine j_w ([.inr (5, [_, _, _, _, _, _]), z_ia 10 _], z_no) rfl ?_
      refine j_iconst (v := 1) dX0_takesIn_50 (by decide) ?_
      refine j_iret dX0_takesIn_51 rfl rfl ?_ (Nat.le_of_ble_eq_true rfl) (Nat.le_of_ble_eq_true rfl)
      exact ⟨rfl, rfl, (by rw [e0]; rfl), _, (by rw [e0]; exact hf9), (by rw [e0]; rfl)⟩
    · have e0 := sp_inN (h := h) (x := x) c_7 c_15
      refine j_iconst (v := 0) dX0_takesIn_18 (by decide) ?_
      refine j_iret dX0_takesIn_19 rfl rfl ?_ (Nat.le_of_ble_eq_true rfl) (Nat.le_of_ble_eq_true rfl)
      exact ⟨rfl, rfl, (by rw [e0]; rfl), _, (by rw [e0]; exact he), (by rw [e0]; rfl)⟩
set_option maxRecDepth 100000 in
set_option maxHeartbeats 8000000 in
theorem c_X0_beginAnew_e (hl : l.stackTraces = false) (h : sp_H) (f : Nat → Int32)  : z_CF G l mX0_beginAnew 10 0 0 [.inr (5, [.ref 1, .int (nI h.2.length), .int h.1.2.1, .int h.1.2.2.1, .int h.1.2.2.2, .int h.1.1]), z_ia 10 f] [.ref 0] (fun v L => v = none ∧ L = [.inr (5, [.ref 1, .int (nI ((h.1.1, 0, 0, -1), ([] : List Int32)).2.length), .int ((h.1.1, 0, 0, -1), ([] : List Int32)).1.2.1, .int ((h.1.1, 0, 0, -1), ([] : List Int32)).1.2.2.1, .int ((h.1.1, 0, 0, -1), ([] : List Int32)).1.2.2.2, .int ((h.1.1, 0, 0, -1), ([] : List Int32)).1.1]), z_ia 10 f]) := by
  refine z_body hl (by decide) rfl (Nat.le_of_ble_eq_true rfl) ?_
  show z_J G l mX0_beginAnew (z_SF 10 0 0 [.inr (5, [.ref 1, .int (nI h.2.length), .int h.1.2.1, .int h.1.2.2.1, .int h.1.2.2.2, .int h.1.1]), z_ia 10 f] (fun v L => v = none ∧ L = [.inr (5, [.ref 1, .int (nI ((h.1.1, 0, 0, -1), ([] : List Int32)).2.length), .int ((h.1.1, 0, 0, -1), ([] : List Int32)).1.2.1, .int ((h.1.1, 0, 0, -1), ([] : List Int32)).1.2.2.1, .int ((h.1.1, 0, 0, -1), ([] : List Int32)).1.2.2.2, .int ((h.1.1, 0, 0, -1), ([] : List Int32)).1.1]), z_ia 10 f])) 0 [(0, _)] [] _ 0 0
  refine j_aload_n dX0_beginAnew_0 rfl rfl ?_
  refine j_iconst (v := 0) dX0_beginAnew_1 (by decide) ?_
  refine j_put (w' := ([.inr (5, [_, _, _, _, _, _]), z_ia 10 _], z_no)) dX0_beginAnew_2 fX0_32 tX0_1 rfl ⟨rfl, rfl⟩ rfl ?_
  refine j_aload_n dX0_beginAnew_5 rfl rfl ?_
  refine j_iconst (v := 0) dX0_beginAnew_6 (by decide) ?_
  refine j_put (w' := ([.inr (5, [_, _, _, _, _, _]), z_ia 10 _], z_no)) dX0_beginAnew_7 fX0_22 tX0_2 rfl ⟨rfl, rfl⟩ rfl ?_
  refine j_aload_n dX0_beginAnew_10 rfl rfl ?_
  refine j_iconst (v := 0) dX0_beginAnew_11 (by decide) ?_
  refine j_put (w' := ([.inr (5, [_, _, _, _, _, _]), z_ia 10 _], z_no)) dX0_beginAnew_12 fX0_25 tX0_3 rfl ⟨rfl, rfl⟩ rfl ?_
  refine j_aload_n dX0_beginAnew_15 rfl rfl ?_
  refine j_iconst (v := (-1)) dX0_beginAnew_16 (by decide) ?_
  refine j_put (w' := ([.inr (5, [_, _, _, _, _, _]), z_ia 10 _], z_no)) dX0_beginAnew_17 fX0_15 tX0_4 rfl ⟨rfl, rfl⟩ rfl ?_
  refine j_vret dX0_beginAnew_20 rfl ?_ (Nat.le_of_ble_eq_true rfl) (Nat.le_of_ble_eq_true rfl)
  exact ⟨rfl, rfl, rfl, rfl⟩
set_option maxRecDepth 100000 in
set_option maxHeartbeats 8000000 in
theorem c_X0_tells_e (hl : l.stackTraces = false) (h : sp_H) (f : Nat → Int32) (w : Int32)  : z_CF G l mX0_tells 10 0 0 [.inr (5, [.ref 1, .int (nI h.2.length), .int h.1.2.1, .int h.1.2.2.1, .int h.1.2.2.2, .int h.1.1]), z_ia 10 f] [.ref 0, .int w] (fun v L => v = some (.int (sp_tel h w)) ∧ L = [.inr (5, [.ref 1, .int (nI h.2.length), .int h.1.2.1, .int h.1.2.2.1, .int h.1.2.2.2, .int h.1.1]), z_ia 10 f]) := by
  refine z_body hl (by decide) rfl (Nat.le_of_ble_eq_true rfl) ?_
  show z_J G l mX0_tells (z_SF 10 0 0 [.inr (5, [.ref 1, .int (nI h.2.length), .int h.1.2.1, .int h.1.2.2.1, .int h.1.2.2.2, .int h.1.1]), z_ia 10 f] (fun v L => v = some (.int (sp_tel h w)) ∧ L = [.inr (5, [.ref 1, .int (nI h.2.length), .int h.1.2.1, .int h.1.2.2.1, .int h.1.2.2.2, .int h.1.1]), z_ia 10 f])) 0 [(0, _), (1, _)] [] _ 0 0
  refine j_iload_n dX0_tells_0 rfl ?_
  rcases z_sw3 w with rfl | rfl | rfl | hp
  · refine j_tsIn (tgt := 28) dX0_tells_1 (by decide) (by decide) rfl (by decide) ?_
    refine j_aload_n dX0_tells_28 rfl rfl ?_
    refine j_getf dX0_tells_29 fX0_22 rfl rfl ?_
    refine j_iret dX0_tells_32 rfl rfl ?_ (Nat.le_of_ble_eq_true rfl) (Nat.le_of_ble_eq_true rfl)
    exact ⟨rfl, rfl, rfl, rfl⟩
  · refine j_tsIn (tgt := 33) dX0_tells_1 (by decide) (by decide) rfl (by decide) ?_
    refine j_aload_n dX0_tells_33 rfl rfl ?_
    refine j_getf dX0_tells_34 fX0_25 rfl rfl ?_
    refine j_iret dX0_tells_37 rfl rfl ?_ (Nat.le_of_ble_eq_true rfl) (Nat.le_of_ble_eq_true rfl)
    exact ⟨rfl, rfl, rfl, rfl⟩
  · refine j_tsIn (tgt := 38) dX0_tells_1 (by decide) (by decide) rfl (by decide) ?_
    refine j_aload_n dX0_tells_38 rfl rfl ?_
    refine j_getf dX0_tells_39 fX0_15 rfl rfl ?_
    refine j_iret dX0_tells_42 rfl rfl ?_ (Nat.le_of_ble_eq_true rfl) (Nat.le_of_ble_eq_true rfl)
    exact ⟨rfl, rfl, rfl, rfl⟩
  · refine j_tsOut (tgt := 43) dX0_tells_1 hp (by decide) ?_
    refine j_aload_n dX0_tells_43 rfl rfl ?_
    refine j_getf dX0_tells_44 fX0_19 rfl rfl ?_
    refine j_iret dX0_tells_47 rfl rfl ?_ (Nat.le_of_ble_eq_true rfl) (Nat.le_of_ble_eq_true rfl)
    exact ⟨rfl, rfl, (by rw [sp_tel3 hp] <;> rfl), rfl⟩
end ZCe
