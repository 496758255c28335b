section ZCt
variable {G : z_G} {l : Launch}
set_option maxRecDepth 100000 in
set_option maxHeartbeats 8000000 in
theorem c_X4_look_e (hl : l.stackTraces = false) (b : Bool) (f g c : Nat → Int32) (m : Int32) (T : List (Nat × Int32)) (k : Nat) (ht : z_tba f g T) (hk : k < 20) : z_CF G l mX4_look 10 0 0 [.inr (9, [.int (z_bi b), .ref 1, .ref 2, .ref 3, .int m]), z_ia 20 f, z_ia 20 g, .inr (11, [.ref 4]), z_ia 7 c] [.ref 0, .int (nI k)] (fun v L => v = some (.int (sp_lk T k)) ∧ L = [.inr (9, [.int (z_bi b), .ref 1, .ref 2, .ref 3, .int m]), z_ia 20 f, z_ia 20 g, .inr (11, [.ref 4]), z_ia 7 c]) := by
  refine z_body hl (by decide) rfl (Nat.le_of_ble_eq_true rfl) ?_
  show z_J G l mX4_look (z_SF 10 0 0 [.inr (9, [.int (z_bi b), .ref 1, .ref 2, .ref 3, .int m]), z_ia 20 f, z_ia 20 g, .inr (11, [.ref 4]), z_ia 7 c] (fun v L => v = some (.int (sp_lk T k)) ∧ L = [.inr (9, [.int (z_bi b), .ref 1, .ref 2, .ref 3, .int m]), z_ia 20 f, z_ia 20 g, .inr (11, [.ref 4]), z_ia 7 c])) 0 [(0, _), (1, _)] [] _ 0 0
  have hln := ht.len
  refine j_iload_n dX4_look_0 rfl ?_
  refine j_if_lt (tgt := 22) dX4_look_1 (by decide) (fun c_1 => ?_) (fun c_1 => ?_)
  · exact absurd c_1 (nI_pos (n := k) (by omega))
  · have hb1 : ¬ k < 0 := fun z => c_1 ((nI_ltI (a := k) (b := 0) (by omega) (by omega)).mpr z)
    refine j_iload_n dX4_look_4 rfl ?_
    refine j_aload_n dX4_look_5 rfl rfl ?_
    refine j_getf dX4_look_6 fX4_9 rfl rfl ?_
    refine j_alen dX4_look_9 rfl rfl rfl ?_
    refine j_icmp_ge (tgt := 22) dX4_look_10 (by decide) (fun c_10 => ?_) (fun c_10 => ?_)
    · have hb10 : 20 ≤ k := (nI_leI (a := 20) (b := k) (by omega) (by omega)).mp c_10
      exact absurd hk (by omega)
    · have hb10 : k < 20 := Nat.not_le.mp (fun z => c_10 ((nI_leI (a := 20) (b := k) (by omega) (by omega)).mpr z))
      refine j_aload_n dX4_look_13 rfl rfl ?_
      refine j_getf dX4_look_14 fX4_9 rfl rfl ?_
      refine j_iload_n dX4_look_17 rfl ?_
      refine j_ldN dX4_look_18 rfl (k := k) (by omega) (by omega) ?_
      refine j_goto (tgt := 25) dX4_look_19 (by decide) ?_
      refine j_iret dX4_look_25 rfl rfl ?_ (Nat.le_of_ble_eq_true rfl) (Nat.le_of_ble_eq_true rfl)
      exact ⟨rfl, rfl, congrArg (fun z => some (Value.int z)) (ht.2.1 k hk), rfl⟩
set_option maxRecDepth 100000 in
set_option maxHeartbeats 8000000 in
theorem c_X4_keyAt_e (hl : l.stackTraces = false) (b : Bool) (f g c : Nat → Int32) (M : Nat) (T : List (Nat × Int32)) (j : Nat) (p : Nat × Int32) (ht : z_tba f g T) (hM : M = T.length) (hj : T[j]? = some p) : z_CF G l mX4_keyAt 10 0 0 [.inr (9, [.int (z_bi b), .ref 1, .ref 2, .ref 3, .int (nI M)]), z_ia 20 f, z_ia 20 g, .inr (11, [.ref 4]), z_ia 7 c] [.ref 0, .int (nI j)] (fun v L => v = some (.int (nI p.1)) ∧ L = [.inr (9, [.int (z_bi b), .ref 1, .ref 2, .ref 3, .int (nI M)]), z_ia 20 f, z_ia 20 g, .inr (11, [.ref 4]), z_ia 7 c]) := by
  refine z_body hl (by decide) rfl (Nat.le_of_ble_eq_true rfl) ?_
  show z_J G l mX4_keyAt (z_SF 10 0 0 [.inr (9, [.int (z_bi b), .ref 1, .ref 2, .ref 3, .int (nI M)]), z_ia 20 f, z_ia 20 g, .inr (11, [.ref 4]), z_ia 7 c] (fun v L => v = some (.int (nI p.1)) ∧ L = [.inr (9, [.int (z_bi b), .ref 1, .ref 2, .ref 3, .int (nI M)]), z_ia 20 f, z_ia 20 g, .inr (11, [.ref 4]), z_ia 7 c])) 0 [(0, _), (1, _)] [] _ 0 0
  have hln := ht.len
  have hlt : j < T.length := (List.getElem?_eq_some_iff.mp hj).1
  refine j_iload_n dX4_keyAt_0 rfl ?_
  refine j_if_lt (tgt := 30) dX4_keyAt_1 (by decide) (fun c_1 => ?_) (fun c_1 => ?_)
  · exact absurd c_1 (nI_pos (n := j) (by omega))
  · have hb1 : ¬ j < 0 := fun z => c_1 ((nI_ltI (a := j) (b := 0) (by omega) (by omega)).mpr z)
    refine j_iload_n dX4_keyAt_4 rfl ?_
    refine j_aload_n dX4_keyAt_5 rfl rfl ?_
    refine j_getf dX4_keyAt_6 fX4_29 rfl rfl ?_
    refine j_icmp_ge (tgt := 30) dX4_keyAt_9 (by decide) (fun c_9 => ?_) (fun c_9 => ?_)
    · have hb9 : M ≤ j := (nI_leI (a := M) (b := j) (by omega) (by omega)).mp c_9
      exact absurd hlt (by omega)
    · have hb9 : j < M := Nat.not_le.mp (fun z => c_9 ((nI_leI (a := M) (b := j) (by omega) (by omega)).mpr z))
      refine j_iload_n dX4_keyAt_12 rfl ?_
      refine j_aload_n dX4_keyAt_13 rfl rfl ?_
      refine j_getf dX4_keyAt_14 fX4_15 rfl rfl ?_
      refine j_alen dX4_keyAt_17 rfl rfl rfl ?_
      refine j_icmp_ge (tgt := 30) dX4_keyAt_18 (by decide) (fun c_18 => ?_) (fun c_18 => ?_)
      · have hb18 : 20 ≤ j := (nI_leI (a := 20) (b := j) (by omega) (by omega)).mp c_18
        exact absurd hlt (by omega)
      · have hb18 : j < 20 := Nat.not_le.mp (fun z => c_18 ((nI_leI (a := 20) (b := j) (by omega) (by omega)).mpr z))
        refine j_aload_n dX4_keyAt_21 rfl rfl ?_
        refine j_getf dX4_keyAt_22 fX4_15 rfl rfl ?_
        refine j_iload_n dX4_keyAt_25 rfl ?_
        refine j_ldN dX4_keyAt_26 rfl (k := j) (by omega) (by omega) ?_
        refine j_goto (tgt := 31) dX4_keyAt_27 (by decide) ?_
        refine j_iret dX4_keyAt_31 rfl rfl ?_ (Nat.le_of_ble_eq_true rfl) (Nat.le_of_ble_eq_true rfl)
        exact ⟨rfl, rfl, congrArg (fun z => some (Value.int z)) (ht.key hj), rfl⟩
set_option maxRecDepth 100000 in
set_option maxHeartbeats 8000000 in
theorem c_X4_addKey_e (hl : l.stackTraces = false) (b : Bool) (f g c : Nat → Int32) (T : List (Nat × Int32)) (k : Nat) (ht : z_tba f g T) (hk : k < 20) (he : sp_lk T k = -1000) : z_CF G l mX4_addKey 10 0 0 [.inr (9, [.int (z_bi b), .ref 1, .ref 2, .ref 3, .int (nI (T).length)]), z_ia 20 f, z_ia 20 g, .inr (11, [.ref 4]), z_ia 7 c] [.ref 0, .int (nI k)] (fun v L => v = none ∧ ∃ g' : Nat → Int32, z_sq g' ((sp_ks T).take (sp_pl b T k) ++ k :: (sp_ks T).drop (sp_pl b T k)) ∧ L = [.inr (9, [.int (z_bi b), .ref 1, .ref 2, .ref 3, .int (nI (T.length + 1))]), z_ia 20 f, z_ia 20 g', .inr (11, [.ref 4]), z_ia 7 c]) := by
  refine z_body hl (by decide) rfl (Nat.le_of_ble_eq_true rfl) ?_
  show z_J G l mX4_addKey (z_SF 10 0 0 [.inr (9, [.int (z_bi b), .ref 1, .ref 2, .ref 3, .int (nI (T).length)]), z_ia 20 f, z_ia 20 g, .inr (11, [.ref 4]), z_ia 7 c] (fun v L => v = none ∧ ∃ g' : Nat → Int32, z_sq g' ((sp_ks T).take (sp_pl b T k) ++ k :: (sp_ks T).drop (sp_pl b T k)) ∧ L = [.inr (9, [.int (z_bi b), .ref 1, .ref 2, .ref 3, .int (nI (T.length + 1))]), z_ia 20 f, z_ia 20 g', .inr (11, [.ref 4]), z_ia 7 c])) 0 [(0, _), (1, _)] [] _ 0 0
  have hln := ht.len
  have hr9 := ht.room hk he
  refine j_aload_n dX4_addKey_0 rfl rfl ?_
  refine j_getf dX4_addKey_1 fX4_29 rfl rfl ?_
  refine j_if_lt (tgt := 19) dX4_addKey_4 (by decide) (fun c_4 => ?_) (fun c_4 => ?_)
  · exact absurd c_4 (nI_pos (n := T.length) (by omega))
  · have hb4 : ¬ T.length < 0 := fun z => c_4 ((nI_ltI (a := T.length) (b := 0) (by omega) (by omega)).mpr z)
    refine j_aload_n dX4_addKey_7 rfl rfl ?_
    refine j_getf dX4_addKey_8 fX4_29 rfl rfl ?_
    refine j_aload_n dX4_addKey_11 rfl rfl ?_
    refine j_getf dX4_addKey_12 fX4_15 rfl rfl ?_
    refine j_alen dX4_addKey_15 rfl rfl rfl ?_
    refine j_icmp_lt (tgt := 20) dX4_addKey_16 (by decide) (fun c_16 => ?_) (fun c_16 => ?_)
    · have hb16 : T.length < 20 := (nI_ltI (a := T.length) (b := 20) (by omega) (by omega)).mp c_16
      refine j_aload_n dX4_addKey_20 rfl rfl ?_
      refine j_getf dX4_addKey_21 fX4_29 rfl rfl ?_
      refine j_istore_n (lo' := [(2, _), (0, _), (1, _)]) dX4_addKey_24 (by decide) rfl ?_
      have loop : ∀ (n9 : Nat) (g' : Nat → Int32) (j : Nat), (j ≤ T.length) → (z_sh g g' j T.length) → (b = true → sp_at T k j = sp_at T k T.length) → (b = false → j = T.length) → (j < n9) → z_J G l mX4_addKey (z_SF 10 0 0 [.inr (9, [.int (z_bi b), .ref 1, .ref 2, .ref 3, .int (nI (T).length)]), z_ia 20 f, z_ia 20 g, .inr (11, [.ref 4]), z_ia 7 c] (fun v L => v = none ∧ ∃ g' : Nat → Int32, z_sq g' ((sp_ks T).take (sp_pl b T k) ++ k :: (sp_ks T).drop (sp_pl b T k)) ∧ L = [.inr (9, [.int (z_bi b), .ref 1, .ref 2, .ref 3, .int (nI (T.length + 1))]), z_ia 20 f, z_ia 20 g', .inr (11, [.ref 4]), z_ia 7 c])) 25 [(0, .ref 0), (1, .int (nI k)), (2, .int (nI j))] [] ([.inr (9, [.int (z_bi b), .ref 1, .ref 2, .ref 3, .int (nI (T).length)]), z_ia 20 f, z_ia 20 g', .inr (11, [.ref 4]), z_ia 7 c], z_no) 0 0 := by
        intro n9
        induction n9 with
        | zero => intro g' j hj hs hp hp0 hf9; exact absurd hf9 (by omega)
        | succ n9 ih =>
          intro g' j hj hs hp hp0 hf9
          refine j_aload_n dX4_addKey_25 rfl rfl ?_
          refine j_getf dX4_addKey_26 fX4_25 rfl rfl ?_
          refine j_if_eq (tgt := 68) dX4_addKey_29 (by decide) (fun c_29 => ?_) (fun c_29 => ?_)
          · have hb29 := z_bF c_29
            have hpl : sp_pl b T k = j := by rw [hb29]; exact (hp0 hb29).symm
            refine j_aload_n dX4_addKey_68 rfl rfl ?_
            refine j_getf dX4_addKey_69 fX4_15 rfl rfl ?_
            refine j_iload_n dX4_addKey_72 rfl ?_
            refine j_iload_n dX4_addKey_73 rfl ?_
            refine j_stoN (w' := ([.inr (9, [_, _, _, _, _]), z_ia 20 _, z_ia 20 _, .inr (11, [_]), z_ia 7 _], z_no)) dX4_addKey_74 rfl (k := j) (by omega) (by omega) rfl ?_
            refine j_aload_n dX4_addKey_75 rfl rfl ?_
            refine j_dup dX4_addKey_76 rfl ?_
            refine j_getf dX4_addKey_77 fX4_29 rfl rfl ?_
            refine j_iconst (v := 1) dX4_addKey_80 (by decide) ?_
            refine j_iadd dX4_addKey_81 ?_
            refine j_top (congrArg Value.int (show nI (T.length) + nI (1) = nI (T.length + 1) from nI_add _ _)) ?_
            refine j_put (w' := ([.inr (9, [_, _, _, _, _]), z_ia 20 _, z_ia 20 _, .inr (11, [_]), z_ia 7 _], z_no)) dX4_addKey_82 fX4_29 tX4_4 rfl ⟨rfl, rfl⟩ rfl ?_
            refine j_vret dX4_addKey_85 rfl ?_ (Nat.le_of_ble_eq_true rfl) (Nat.le_of_ble_eq_true rfl)
            exact ⟨rfl, rfl, rfl, _, (by rw [hpl]; have z := hs; rw [← sp_ksl (T := T)] at z; exact z.ins (by rw [sp_ksl]; exact hj) ht.2.2), rfl⟩
          · have hb29 := z_bt c_29
            refine j_iload_n dX4_addKey_32 rfl ?_
            refine j_if_le (tgt := 68) dX4_addKey_33 (by decide) (fun c_33 => ?_) (fun c_33 => ?_)
            · have hb33 : j ≤ 0 := (nI_leI (a := j) (b := 0) (by omega) (by omega)).mp c_33
              have hj0 : j = 0 := by omega
              have hpl : sp_pl b T k = j := by rw [hb29]; refine (hp hb29).symm.trans ?_; rw [hj0]; rfl
              refine j_aload_n dX4_addKey_68 rfl rfl ?_
              refine j_getf dX4_addKey_69 fX4_15 rfl rfl ?_
              refine j_iload_n dX4_addKey_72 rfl ?_
              refine j_iload_n dX4_addKey_73 rfl ?_
              refine j_stoN (w' := ([.inr (9, [_, _, _, _, _]), z_ia 20 _, z_ia 20 _, .inr (11, [_]), z_ia 7 _], z_no)) dX4_addKey_74 rfl (k := j) (by omega) (by omega) rfl ?_
              refine j_aload_n dX4_addKey_75 rfl rfl ?_
              refine j_dup dX4_addKey_76 rfl ?_
              refine j_getf dX4_addKey_77 fX4_29 rfl rfl ?_
              refine j_iconst (v := 1) dX4_addKey_80 (by decide) ?_
              refine j_iadd dX4_addKey_81 ?_
              refine j_top (congrArg Value.int (show nI (T.length) + nI (1) = nI (T.length + 1) from nI_add _ _)) ?_
              refine j_put (w' := ([.inr (9, [_, _, _, _, _]), z_ia 20 _, z_ia 20 _, .inr (11, [_]), z_ia 7 _], z_no)) dX4_addKey_82 fX4_29 tX4_4 rfl ⟨rfl, rfl⟩ rfl ?_
              refine j_vret dX4_addKey_85 rfl ?_ (Nat.le_of_ble_eq_true rfl) (Nat.le_of_ble_eq_true rfl)
              exact ⟨rfl, rfl, rfl, _, (by rw [hpl]; have z := hs; rw [← sp_ksl (T := T)] at z; exact z.ins (by rw [sp_ksl]; exact hj) ht.2.2), rfl⟩
            · have hb33 : 0 < j := Nat.not_le.mp (fun z => c_33 ((nI_leI (a := j) (b := 0) (by omega) (by omega)).mpr z))
              refine j_aload_n dX4_addKey_36 rfl rfl ?_
              refine j_getf dX4_addKey_37 fX4_15 rfl rfl ?_
              refine j_iload_n dX4_addKey_40 rfl ?_
              refine j_iconst (v := 1) dX4_addKey_41 (by decide) ?_
              refine j_isub dX4_addKey_42 ?_
              refine j_top (congrArg Value.int (q_nsub (a := j) (b := 1) (by omega))) ?_
              refine j_ldN dX4_addKey_43 rfl (k := (j - 1)) (by omega) (by omega) ?_
              refine j_iload_n dX4_addKey_44 rfl ?_
              obtain ⟨p9, hq9, hm9⟩ := sp_gt (T := T) (j := j - 1) (by omega)
              have hk9 : g' (j - 1) = nI p9.1 := (hs.1 (j - 1) (by omega)).trans (ht.key hq9)
              have hp20 := (ht.1.2 p9 hm9).1
              refine j_icmp_le (tgt := 68) dX4_addKey_45 (by decide) (fun c_45 => ?_) (fun c_45 => ?_)
              · rw [hk9] at c_45
                have hle : ¬ k < p9.1 := Nat.not_lt.mpr ((nI_leI (a := p9.1) (b := k) (by omega) (by omega)).mp c_45)
                have hpl : sp_pl b T k = j := by rw [hb29]; exact (hp hb29).symm.trans (sp_at_eq hb33 hq9 hle)
                refine j_aload_n dX4_addKey_68 rfl rfl ?_
                refine j_getf dX4_addKey_69 fX4_15 rfl rfl ?_
                refine j_iload_n dX4_addKey_72 rfl ?_
                refine j_iload_n dX4_addKey_73 rfl ?_
                refine j_stoN (w' := ([.inr (9, [_, _, _, _, _]), z_ia 20 _, z_ia 20 _, .inr (11, [_]), z_ia 7 _], z_no)) dX4_addKey_74 rfl (k := j) (by omega) (by omega) rfl ?_
                refine j_aload_n dX4_addKey_75 rfl rfl ?_
                refine j_dup dX4_addKey_76 rfl ?_
                refine j_getf dX4_addKey_77 fX4_29 rfl rfl ?_
                refine j_iconst (v := 1) dX4_addKey_80 (by decide) ?_
                refine j_iadd dX4_addKey_81 ?_
                refine j_top (congrArg Value.int (show nI (T.length) + nI (1) = nI (T.length + 1) from nI_add _ _)) ?_
                refine j_put (w' := ([.inr (9, [_, _, _, _, _]), z_ia 20 _, z_ia 20 _, .inr (11, [_]), z_ia 7 _], z_no)) dX4_addKey_82 fX4_29 tX4_4 rfl ⟨rfl, rfl⟩ rfl ?_
                refine j_vret dX4_addKey_85 rfl ?_ (Nat.le_of_ble_eq_true rfl) (Nat.le_of_ble_eq_true rfl)
                exact ⟨rfl, rfl, rfl, _, (by rw [hpl]; have z := hs; rw [← sp_ksl (T := T)] at z; exact z.ins (by rw [sp_ksl]; exact hj) ht.2.2), rfl⟩
              · rw [hk9] at c_45
                have hgt : k < p9.1 := Nat.not_le.mp (fun z => c_45 ((nI_leI (a := p9.1) (b := k) (by omega) (by omega)).mpr z))
                refine j_aload_n dX4_addKey_48 rfl rfl ?_
                refine j_getf dX4_addKey_49 fX4_15 rfl rfl ?_
                refine j_iload_n dX4_addKey_52 rfl ?_
                refine j_aload_n dX4_addKey_53 rfl rfl ?_
                refine j_getf dX4_addKey_54 fX4_15 rfl rfl ?_
                refine j_iload_n dX4_addKey_57 rfl ?_
                refine j_iconst (v := 1) dX4_addKey_58 (by decide) ?_
                refine j_isub dX4_addKey_59 ?_
                refine j_top (congrArg Value.int (q_nsub (a := j) (b := 1) (by omega))) ?_
                refine j_ldN dX4_addKey_60 rfl (k := (j - 1)) (by omega) (by omega) ?_
                refine j_stoN (w' := ([.inr (9, [_, _, _, _, _]), z_ia 20 _, z_ia 20 _, .inr (11, [_]), z_ia 7 _], z_no)) dX4_addKey_61 rfl (k := j) (by omega) (by omega) rfl ?_
                refine j_iinc (lo' := [(2, _), (0, _), (1, _)]) dX4_addKey_62 rfl (q_ndec (a := j) (by omega)) (by decide) rfl ?_
                refine j_goto (tgt := 25) dX4_addKey_65 (by decide) ?_
                exact j_lo2 (ih _ (j - 1) (by omega) (hs.step hb33) (fun _ => (sp_at_st hb33 hq9 hgt).symm.trans (hp hb29)) (fun z => by rw [hb29] at z; cases z) (by omega)) (z_q1 rfl (z_q1 rfl (z_q1 rfl z_q0)))
      exact j_lo2 (loop (T.length + 1) _ T.length (Nat.le_refl _) z_sh.rf (fun _ => rfl) (fun _ => rfl) (by omega)) (z_q1 rfl (z_q1 rfl (z_q1 rfl z_q0)))
    · have hb16 : ¬ T.length < 20 := fun z => c_16 ((nI_ltI (a := T.length) (b := 20) (by omega) (by omega)).mpr z)
      exact absurd hr9 (by omega)
set_option maxRecDepth 100000 in
set_option maxHeartbeats 8000000 in
theorem c_X4_takeKey_e (hl : l.stackTraces = false) (b : Bool) (f g c : Nat → Int32) (T : List (Nat × Int32)) (k : Nat) (ht : z_tba f g T) (hk : k < 20) : z_CF G l mX4_takeKey 10 0 0 [.inr (9, [.int (z_bi b), .ref 1, .ref 2, .ref 3, .int (nI (T).length)]), z_ia 20 f, z_ia 20 g, .inr (11, [.ref 4]), z_ia 7 c] [.ref 0, .int (nI k)] (fun v L => v = none ∧ ∃ g' : Nat → Int32, z_sq g' ((sp_ks T).filter (fun x => !(x == k))) ∧ L = [.inr (9, [.int (z_bi b), .ref 1, .ref 2, .ref 3, .int (nI (sp_go T k).length)]), z_ia 20 f, z_ia 20 g', .inr (11, [.ref 4]), z_ia 7 c]) := by
  refine z_body hl (by decide) rfl (Nat.le_of_ble_eq_true rfl) ?_
  show z_J G l mX4_takeKey (z_SF 10 0 0 [.inr (9, [.int (z_bi b), .ref 1, .ref 2, .ref 3, .int (nI (T).length)]), z_ia 20 f, z_ia 20 g, .inr (11, [.ref 4]), z_ia 7 c] (fun v L => v = none ∧ ∃ g' : Nat → Int32, z_sq g' ((sp_ks T).filter (fun x => !(x == k))) ∧ L = [.inr (9, [.int (z_bi b), .ref 1, .ref 2, .ref 3, .int (nI (sp_go T k).length)]), z_ia 20 f, z_ia 20 g', .inr (11, [.ref 4]), z_ia 7 c])) 0 [(0, _), (1, _)] [] _ 0 0
  have hln := ht.len
  refine j_iconst (v := 0) dX4_takeKey_0 (by decide) ?_
  refine j_istore_n (lo' := [(2, _), (0, _), (1, _)]) dX4_takeKey_1 (by decide) rfl ?_
  refine j_iconst (v := 0) dX4_takeKey_2 (by decide) ?_
  refine j_istore_n (lo' := [(3, _), (2, _), (0, _), (1, _)]) dX4_takeKey_3 (by decide) rfl ?_
  have loop : ∀ (n9 : Nat) (g' : Nat → Int32) (q j : Nat), (j ≤ T.length) → (q = (((sp_ks T).take j).filter (fun x => !(x == k))).length) → (q ≤ j) → (z_sq g' (((sp_ks T).take j).filter (fun x => !(x == k)))) → (∀ x, j ≤ x → g' x = g x) → (T.length < j + n9) → z_J G l mX4_takeKey (z_SF 10 0 0 [.inr (9, [.int (z_bi b), .ref 1, .ref 2, .ref 3, .int (nI (T).length)]), z_ia 20 f, z_ia 20 g, .inr (11, [.ref 4]), z_ia 7 c] (fun v L => v = none ∧ ∃ g' : Nat → Int32, z_sq g' ((sp_ks T).filter (fun x => !(x == k))) ∧ L = [.inr (9, [.int (z_bi b), .ref 1, .ref 2, .ref 3, .int (nI (sp_go T k).length)]), z_ia 20 f, z_ia 20 g', .inr (11, [.ref 4]), z_ia 7 c])) 4 [(0, .ref 0), (1, .int (nI k)), (2, .int (nI q)), (3, .int (nI j))] [] ([.inr (9, [.int (z_bi b), .ref 1, .ref 2, .ref 3, .int (nI (T).length)]), z_ia 20 f, z_ia 20 g', .inr (11, [.ref 4]), z_ia 7 c], z_no) 0 0 := by
    intro n9
    induction n9 with
    | zero => intro g' q j hj hq hqj hs hrr hf9; exact absurd hf9 (by omega)
    | succ n9 ih =>
      intro g' q j hj hq hqj hs hrr hf9
      refine j_iload_n dX4_takeKey_4 rfl ?_
      refine j_aload_n dX4_takeKey_5 rfl rfl ?_
      refine j_getf dX4_takeKey_6 fX4_29 rfl rfl ?_
      refine j_icmp_ge (tgt := 52) dX4_takeKey_9 (by decide) (fun c_9 => ?_) (fun c_9 => ?_)
      · have hb9 : T.length ≤ j := (nI_leI (a := T.length) (b := j) (by omega) (by omega)).mp c_9
        have hjT : j = T.length := by omega
        have hqT : q = ((sp_ks T).filter (fun x => !(x == k))).length := by rw [hq, hjT, ← sp_ksl (T := T), List.take_length]
        rw [hjT, ← sp_ksl (T := T), List.take_length] at hs
        refine j_aload_n dX4_takeKey_52 rfl rfl ?_
        refine j_iload_n dX4_takeKey_53 rfl ?_
        refine j_put (w' := ([.inr (9, [_, _, _, _, _]), z_ia 20 _, z_ia 20 _, .inr (11, [_]), z_ia 7 _], z_no)) dX4_takeKey_54 fX4_29 tX4_4 rfl ⟨rfl, rfl⟩ rfl ?_
        refine j_vret dX4_takeKey_57 rfl ?_ (Nat.le_of_ble_eq_true rfl) (Nat.le_of_ble_eq_true rfl)
        exact ⟨rfl, rfl, rfl, _, hs, by rw [sp_go_len, ← hqT]⟩
      · have hb9 : j < T.length := Nat.not_le.mp (fun z => c_9 ((nI_leI (a := T.length) (b := j) (by omega) (by omega)).mpr z))
        refine j_iload_n dX4_takeKey_12 rfl ?_
        refine j_aload_n dX4_takeKey_13 rfl rfl ?_
        refine j_getf dX4_takeKey_14 fX4_15 rfl rfl ?_
        refine j_alen dX4_takeKey_17 rfl rfl rfl ?_
        refine j_icmp_ge (tgt := 52) dX4_takeKey_18 (by decide) (fun c_18 => ?_) (fun c_18 => ?_)
        · have hb18 : 20 ≤ j := (nI_leI (a := 20) (b := j) (by omega) (by omega)).mp c_18
          exact absurd hb9 (by omega)
        · have hb18 : j < 20 := Nat.not_le.mp (fun z => c_18 ((nI_leI (a := 20) (b := j) (by omega) (by omega)).mpr z))
          refine j_aload_n dX4_takeKey_21 rfl rfl ?_
          refine j_getf dX4_takeKey_22 fX4_15 rfl rfl ?_
          refine j_iload_n dX4_takeKey_25 rfl ?_
          refine j_ldN dX4_takeKey_26 rfl (k := j) (by omega) (by omega) ?_
          refine j_iload_n dX4_takeKey_27 rfl ?_
          obtain ⟨p9, hp9, hm9⟩ := sp_gt (T := T) (j := j) (by omega)
          have hkk : (sp_ks T)[j]? = some p9.1 := by unfold sp_ks; rw [List.getElem?_map, hp9]; rfl
          have hp20 := (ht.1.2 p9 hm9).1
          have hk9 : g' j = nI p9.1 := (hrr j (Nat.le_refl _)).trans (ht.key hp9)
          refine j_icmp_eq (tgt := 46) dX4_takeKey_28 (by decide) (fun c_28 => ?_) (fun c_28 => ?_)
          · have hkq : p9.1 = k := nI_inj (hk9.symm.trans c_28) (by omega) (by omega)
            refine j_iinc (lo' := [(3, _), (0, _), (1, _), (2, _)]) dX4_takeKey_46 rfl (z_inc _) (by decide) rfl ?_
            refine j_goto (tgt := 4) dX4_takeKey_49 (by decide) ?_
            exact j_lo2 (ih _ _ (j + 1) (by omega) (hq.trans (by rw [z_sq.skip hkk hkq] <;> rfl)) (by omega) (by rw [z_sq.skip hkk hkq]; exact hs) (fun x hx => hrr x (by omega)) (by omega)) (z_q1 rfl (z_q1 rfl (z_q1 rfl (z_q1 rfl z_q0))))
          · have hkq : ¬ p9.1 = k := fun z => c_28 (hk9.trans (by rw [z] <;> rfl))
            have hkp := z_sq.keep ht.2.2 hkk hs hrr hkq
            rw [← hq] at hkp
            refine j_aload_n dX4_takeKey_31 rfl rfl ?_
            refine j_getf dX4_takeKey_32 fX4_15 rfl rfl ?_
            refine j_iload_n dX4_takeKey_35 rfl ?_
            refine j_aload_n dX4_takeKey_36 rfl rfl ?_
            refine j_getf dX4_takeKey_37 fX4_15 rfl rfl ?_
            refine j_iload_n dX4_takeKey_40 rfl ?_
            refine j_ldN dX4_takeKey_41 rfl (k := j) (by omega) (by omega) ?_
            refine j_stoN (w' := ([.inr (9, [_, _, _, _, _]), z_ia 20 _, z_ia 20 _, .inr (11, [_]), z_ia 7 _], z_no)) dX4_takeKey_42 rfl (k := q) (by omega) (by omega) rfl ?_
            refine j_iinc (lo' := [(2, _), (0, _), (1, _), (3, _)]) dX4_takeKey_43 rfl (z_inc _) (by decide) rfl ?_
            refine j_iinc (lo' := [(3, _), (2, _), (0, _), (1, _)]) dX4_takeKey_46 rfl (z_inc _) (by decide) rfl ?_
            refine j_goto (tgt := 4) dX4_takeKey_49 (by decide) ?_
            exact j_lo2 (ih _ _ (j + 1) (by omega) hkp.2.symm (by have := sp_fl_le (i := j + 1) (k := k) (K := sp_ks T); omega) hkp.1 (fun x hx => (z_ui_ne (by omega)).trans (hrr x (by omega))) (by omega)) (z_q1 rfl (z_q1 rfl (z_q1 rfl (z_q1 rfl z_q0))))
  exact j_lo2 (loop (T.length + 1) _ 0 0 (by omega) rfl (by omega) z_sq.nil (fun _ _ => rfl) (by omega)) (z_q1 rfl (z_q1 rfl (z_q1 rfl (z_q1 rfl z_q0))))
set_option maxRecDepth 100000 in
set_option maxHeartbeats 8000000 in
theorem c_X4_setValm_e (hl : l.stackTraces = false) (b : Bool) (f g c : Nat → Int32) (m : Nat) (k : Nat) (x : Int32) (hk : k < 20) : z_CF G l mX4_setValue 10 0 0 [.inr (9, [.int (z_bi b), .ref 1, .ref 2, .ref 3, .int (nI m)]), z_ia 20 f, z_ia 20 g, .inr (11, [.ref 4]), z_ia 7 c] [.ref 0, .int (nI k), .int x] (fun v L => v = none ∧ L = [.inr (9, [.int (z_bi b), .ref 1, .ref 2, .ref 3, .int (nI m)]), z_ia 20 (z_ui f k x), z_ia 20 g, .inr (11, [.ref 4]), z_ia 7 c]) := by
  refine z_body hl (by decide) rfl (Nat.le_of_ble_eq_true rfl) ?_
  show z_J G l mX4_setValue (z_SF 10 0 0 [.inr (9, [.int (z_bi b), .ref 1, .ref 2, .ref 3, .int (nI m)]), z_ia 20 f, z_ia 20 g, .inr (11, [.ref 4]), z_ia 7 c] (fun v L => v = none ∧ L = [.inr (9, [.int (z_bi b), .ref 1, .ref 2, .ref 3, .int (nI m)]), z_ia 20 (z_ui f k x), z_ia 20 g, .inr (11, [.ref 4]), z_ia 7 c])) 0 [(0, _), (1, _), (2, _)] [] _ 0 0
  refine j_iload_n dX4_setValue_0 rfl ?_
  refine j_if_lt (tgt := 20) dX4_setValue_1 (by decide) (fun c_1 => ?_) (fun c_1 => ?_)
  · exact absurd c_1 (nI_pos (n := k) (by omega))
  · have hb1 : ¬ k < 0 := fun z => c_1 ((nI_ltI (a := k) (b := 0) (by omega) (by omega)).mpr z)
    refine j_iload_n dX4_setValue_4 rfl ?_
    refine j_aload_n dX4_setValue_5 rfl rfl ?_
    refine j_getf dX4_setValue_6 fX4_9 rfl rfl ?_
    refine j_alen dX4_setValue_9 rfl rfl rfl ?_
    refine j_icmp_ge (tgt := 20) dX4_setValue_10 (by decide) (fun c_10 => ?_) (fun c_10 => ?_)
    · have hb10 : 20 ≤ k := (nI_leI (a := 20) (b := k) (by omega) (by omega)).mp c_10
      exact absurd hk (by omega)
    · have hb10 : k < 20 := Nat.not_le.mp (fun z => c_10 ((nI_leI (a := 20) (b := k) (by omega) (by omega)).mpr z))
      refine j_aload_n dX4_setValue_13 rfl rfl ?_
      refine j_getf dX4_setValue_14 fX4_9 rfl rfl ?_
      refine j_iload_n dX4_setValue_17 rfl ?_
      refine j_iload_n dX4_setValue_18 rfl ?_
      refine j_stoN (w' := ([.inr (9, [_, _, _, _, _]), z_ia 20 _, z_ia 20 _, .inr (11, [_]), z_ia 7 _], z_no)) dX4_setValue_19 rfl (k := k) (by omega) (by omega) rfl ?_
      refine j_vret dX4_setValue_20 rfl ?_ (Nat.le_of_ble_eq_true rfl) (Nat.le_of_ble_eq_true rfl)
      exact ⟨rfl, rfl, rfl, rfl⟩
set_option maxRecDepth 100000 in
set_option maxHeartbeats 8000000 in
theorem c_X4_store_e (hl : l.stackTraces = false) (b : Bool) (f g c : Nat → Int32) (T : List (Nat × Int32)) (k : Nat) (x : Int32) (ht : z_tba f g T) (hk : k < 20) (hx : z_vl x) : z_CF G l mX4_store 12 0 0 [.inr (9, [.int (z_bi b), .ref 1, .ref 2, .ref 3, .int (nI (T).length)]), z_ia 20 f, z_ia 20 g, .inr (11, [.ref 4]), z_ia 7 c] [.ref 0, .int (nI k), .int x] (fun v L => v = some (.int (sp_lk T k)) ∧ ∃ f' g' : Nat → Int32, z_tba f' g' (sp_pt b T k x) ∧ L = [.inr (9, [.int (z_bi b), .ref 1, .ref 2, .ref 3, .int (nI ((sp_pt b T k x)).length)]), z_ia 20 f', z_ia 20 g', .inr (11, [.ref 4]), z_ia 7 (z_bp c 5)]) := by
  refine z_body hl (by decide) rfl (Nat.le_of_ble_eq_true rfl) ?_
  show z_J G l mX4_store (z_SF 12 0 0 [.inr (9, [.int (z_bi b), .ref 1, .ref 2, .ref 3, .int (nI (T).length)]), z_ia 20 f, z_ia 20 g, .inr (11, [.ref 4]), z_ia 7 c] (fun v L => v = some (.int (sp_lk T k)) ∧ ∃ f' g' : Nat → Int32, z_tba f' g' (sp_pt b T k x) ∧ L = [.inr (9, [.int (z_bi b), .ref 1, .ref 2, .ref 3, .int (nI ((sp_pt b T k x)).length)]), z_ia 20 f', z_ia 20 g', .inr (11, [.ref 4]), z_ia 7 (z_bp c 5)])) 0 [(0, _), (1, _), (2, _)] [] _ 0 0
  have hln := ht.len
  refine j_aload_n dX4_store_0 rfl rfl ?_
  refine j_getf dX4_store_1 fX4_21 rfl rfl ?_
  refine j_iconst (v := 5) dX4_store_4 (by decide) ?_
  refine j_callV (q := (RX6, TX6, 1)) dX4_store_5 kX6_add lX4_33 inX6_add seX6_add rfl rfl (z_frame [3, 4] rfl (by decide) (Nat.le_of_ble_eq_true rfl) (c_X6_add_e hl _ 5 (by decide))) (Nat.le_of_ble_eq_true rfl) ⟨(Nat.le_of_ble_eq_true rfl), (Nat.le_of_ble_eq_true rfl)⟩ rfl (Nat.le_of_ble_eq_true rfl) rfl rfl (fun _ _ h => h.elim) ?_
  rintro _ _ ⟨_, _, ⟨rfl, rfl⟩, rfl, rfl⟩
  refine j_w ([.inr (9, [_, _, _, _, _]), z_ia 20 _, z_ia 20 _, .inr (11, [_]), z_ia 7 _], z_no) rfl ?_
  refine j_aload_n dX4_store_8 rfl rfl ?_
  refine j_iload_n dX4_store_9 rfl ?_
  refine j_callV (q := (RX4, TX4, 5)) dX4_store_10 kX4_look lX4_37 inX4_look seX4_look rfl rfl (z_frame [0, 1, 2, 3, 4] rfl (by decide) (Nat.le_of_ble_eq_true rfl) (c_X4_look_e hl _ _ _ _ _ T k ht hk)) (Nat.le_of_ble_eq_true rfl) ⟨(Nat.le_of_ble_eq_true rfl), (Nat.le_of_ble_eq_true rfl)⟩ rfl (Nat.le_of_ble_eq_true rfl) rfl rfl (fun _ _ h => h.elim) ?_
  rintro _ _ ⟨_, _, ⟨rfl, rfl⟩, rfl, rfl⟩
  refine j_w ([.inr (9, [_, _, _, _, _]), z_ia 20 _, z_ia 20 _, .inr (11, [_]), z_ia 7 _], z_no) rfl ?_
  refine j_istore_n (lo' := [(3, _), (0, _), (1, _), (2, _)]) dX4_store_13 (by decide) rfl ?_
  refine j_iload_n dX4_store_14 rfl ?_
  refine j_sipush (v := (-1000)) dX4_store_15 (by decide) ?_
  refine j_icmp_ne (tgt := 26) dX4_store_18 (by decide) (fun c_18 => ?_) (fun c_18 => ?_)
  · have e9 : sp_pt b T k x = sp_st T k x := if_neg c_18
    refine j_aload_n dX4_store_26 rfl rfl ?_
    refine j_iload_n dX4_store_27 rfl ?_
    refine j_iload_n dX4_store_28 rfl ?_
    refine j_callV (q := (RX4, TX4, 5)) dX4_store_29 kX4_setValue lX4_44 inX4_setValue seX4_setValue rfl rfl (z_frame [0, 1, 2, 3, 4] rfl (by decide) (Nat.le_of_ble_eq_true rfl) (c_X4_setValm_e hl _ _ _ _ (T.length) k x hk)) (Nat.le_of_ble_eq_true rfl) ⟨(Nat.le_of_ble_eq_true rfl), (Nat.le_of_ble_eq_true rfl)⟩ rfl (Nat.le_of_ble_eq_true rfl) rfl rfl (fun _ _ h => h.elim) ?_
    rintro _ _ ⟨_, _, ⟨rfl, rfl⟩, rfl, rfl⟩
    refine j_w ([.inr (9, [_, _, _, _, _]), z_ia 20 _, z_ia 20 _, .inr (11, [_]), z_ia 7 _], z_no) rfl ?_
    refine j_iload_n dX4_store_32 rfl ?_
    refine j_iret dX4_store_33 rfl rfl ?_ (Nat.le_of_ble_eq_true rfl) (Nat.le_of_ble_eq_true rfl)
    first | exact ⟨rfl, rfl, rfl, _, _, (by rw [e9]; exact ht.st c_18 hx), (by rw [e9, sp_st_len] <;> rfl)⟩ | exact ⟨rfl, rfl, rfl, _, _, (by rw [e9]; exact ht.ins hk c9 hx hg9), (by rw [e9, sp_ins_len] <;> rfl)⟩
  · have c9 : sp_lk T k = -1000 := c_18
    have e9 : sp_pt b T k x = sp_ins T (sp_pl b T k) k x := if_pos c9
    refine j_aload_n dX4_store_21 rfl rfl ?_
    refine j_iload_n dX4_store_22 rfl ?_
    refine j_callV (q := (RX4, TX4, 5)) dX4_store_23 kX4_addKey lX4_41 inX4_addKey seX4_addKey rfl rfl (z_frame [0, 1, 2, 3, 4] rfl (by decide) (Nat.le_of_ble_eq_true rfl) (c_X4_addKey_e hl _ _ _ _ T k ht hk c9)) (Nat.le_of_ble_eq_true rfl) ⟨(Nat.le_of_ble_eq_true rfl), (Nat.le_of_ble_eq_true rfl)⟩ rfl (Nat.le_of_ble_eq_true rfl) rfl rfl (fun _ _ h => h.elim) ?_
    rintro _ _ ⟨_, _, ⟨rfl, g9, hg9, rfl⟩, rfl, rfl⟩
    refine j_w ([.inr (9, [_, _, _, _, _]), z_ia 20 _, z_ia 20 _, .inr (11, [_]), z_ia 7 _], z_no) rfl ?_
    refine j_aload_n dX4_store_26 rfl rfl ?_
    refine j_iload_n dX4_store_27 rfl ?_
    refine j_iload_n dX4_store_28 rfl ?_
    refine j_callV (q := (RX4, TX4, 5)) dX4_store_29 kX4_setValue lX4_44 inX4_setValue seX4_setValue rfl rfl (z_frame [0, 1, 2, 3, 4] rfl (by decide) (Nat.le_of_ble_eq_true rfl) (c_X4_setValm_e hl _ _ _ _ (T.length + 1) k x hk)) (Nat.le_of_ble_eq_true rfl) ⟨(Nat.le_of_ble_eq_true rfl), (Nat.le_of_ble_eq_true rfl)⟩ rfl (Nat.le_of_ble_eq_true rfl) rfl rfl (fun _ _ h => h.elim) ?_
    rintro _ _ ⟨_, _, ⟨rfl, rfl⟩, rfl, rfl⟩
    refine j_w ([.inr (9, [_, _, _, _, _]), z_ia 20 _, z_ia 20 _, .inr (11, [_]), z_ia 7 _], z_no) rfl ?_
    refine j_iload_n dX4_store_32 rfl ?_
    refine j_iret dX4_store_33 rfl rfl ?_ (Nat.le_of_ble_eq_true rfl) (Nat.le_of_ble_eq_true rfl)
    first | exact ⟨rfl, rfl, rfl, _, _, (by rw [e9]; exact ht.st c_18 hx), (by rw [e9, sp_st_len] <;> rfl)⟩ | exact ⟨rfl, rfl, rfl, _, _, (by rw [e9]; exact ht.ins hk c9 hx hg9), (by rw [e9, sp_ins_len] <;> rfl)⟩
set_option maxRecDepth 100000 in
set_option maxHeartbeats 8000000 in
theorem c_X4_sendAway_e (hl : l.stackTraces = false) (b : Bool) (f g c : Nat → Int32) (T : List (Nat × Int32)) (k : Nat) (ht : z_tba f g T) (hk : k < 20) : z_CF G l mX4_sendAway 12 0 0 [.inr (9, [.int (z_bi b), .ref 1, .ref 2, .ref 3, .int (nI (T).length)]), z_ia 20 f, z_ia 20 g, .inr (11, [.ref 4]), z_ia 7 c] [.ref 0, .int (nI k)] (fun v L => v = some (.int (sp_lk T k)) ∧ ∃ f' g' : Nat → Int32, z_tba f' g' (sp_go T k) ∧ L = [.inr (9, [.int (z_bi b), .ref 1, .ref 2, .ref 3, .int (nI ((sp_go T k)).length)]), z_ia 20 f', z_ia 20 g', .inr (11, [.ref 4]), z_ia 7 (z_bp c 6)]) := by
  refine z_body hl (by decide) rfl (Nat.le_of_ble_eq_true rfl) ?_
  show z_J G l mX4_sendAway (z_SF 12 0 0 [.inr (9, [.int (z_bi b), .ref 1, .ref 2, .ref 3, .int (nI (T).length)]), z_ia 20 f, z_ia 20 g, .inr (11, [.ref 4]), z_ia 7 c] (fun v L => v = some (.int (sp_lk T k)) ∧ ∃ f' g' : Nat → Int32, z_tba f' g' (sp_go T k) ∧ L = [.inr (9, [.int (z_bi b), .ref 1, .ref 2, .ref 3, .int (nI ((sp_go T k)).length)]), z_ia 20 f', z_ia 20 g', .inr (11, [.ref 4]), z_ia 7 (z_bp c 6)])) 0 [(0, _), (1, _)] [] _ 0 0
  have hln := ht.len
  refine j_aload_n dX4_sendAway_0 rfl rfl ?_
  refine j_getf dX4_sendAway_1 fX4_21 rfl rfl ?_
  refine j_bipush (v := 6) dX4_sendAway_4 (by decide) ?_
  refine j_callV (q := (RX6, TX6, 1)) dX4_sendAway_6 kX6_add lX4_33 inX6_add seX6_add rfl rfl (z_frame [3, 4] rfl (by decide) (Nat.le_of_ble_eq_true rfl) (c_X6_add_e hl _ 6 (by decide))) (Nat.le_of_ble_eq_true rfl) ⟨(Nat.le_of_ble_eq_true rfl), (Nat.le_of_ble_eq_true rfl)⟩ rfl (Nat.le_of_ble_eq_true rfl) rfl rfl (fun _ _ h => h.elim) ?_
  rintro _ _ ⟨_, _, ⟨rfl, rfl⟩, rfl, rfl⟩
  refine j_w ([.inr (9, [_, _, _, _, _]), z_ia 20 _, z_ia 20 _, .inr (11, [_]), z_ia 7 _], z_no) rfl ?_
  refine j_aload_n dX4_sendAway_9 rfl rfl ?_
  refine j_iload_n dX4_sendAway_10 rfl ?_
  refine j_callV (q := (RX4, TX4, 5)) dX4_sendAway_11 kX4_look lX4_37 inX4_look seX4_look rfl rfl (z_frame [0, 1, 2, 3, 4] rfl (by decide) (Nat.le_of_ble_eq_true rfl) (c_X4_look_e hl _ _ _ _ _ T k ht hk)) (Nat.le_of_ble_eq_true rfl) ⟨(Nat.le_of_ble_eq_true rfl), (Nat.le_of_ble_eq_true rfl)⟩ rfl (Nat.le_of_ble_eq_true rfl) rfl rfl (fun _ _ h => h.elim) ?_
  rintro _ _ ⟨_, _, ⟨rfl, rfl⟩, rfl, rfl⟩
  refine j_w ([.inr (9, [_, _, _, _, _]), z_ia 20 _, z_ia 20 _, .inr (11, [_]), z_ia 7 _], z_no) rfl ?_
  refine j_istore_n (lo' := [(2, _), (0, _), (1, _)]) dX4_sendAway_14 (by decide) rfl ?_
  refine j_iload_n dX4_sendAway_15 rfl ?_
  refine j_sipush (v := (-1000)) dX4_sendAway_16 (by decide) ?_
  refine j_icmp_eq (tgt := 35) dX4_sendAway_19 (by decide) (fun c_19 => ?_) (fun c_19 => ?_)
  · have e9 : sp_go T k = T := sp_go_no ((sp_lk_iff ht.1).mp c_19)
    refine j_iload_n dX4_sendAway_35 rfl ?_
    refine j_iret dX4_sendAway_36 rfl rfl ?_ (Nat.le_of_ble_eq_true rfl) (Nat.le_of_ble_eq_true rfl)
    first | exact ⟨rfl, rfl, rfl, _, _, (by rw [e9]; exact ht), (by rw [e9] <;> rfl)⟩ | exact ⟨rfl, rfl, rfl, _, _, ht.go hg9, rfl⟩
  · refine j_aload_n dX4_sendAway_22 rfl rfl ?_
    refine j_iload_n dX4_sendAway_23 rfl ?_
    refine j_callV (q := (RX4, TX4, 5)) dX4_sendAway_24 kX4_takeKey lX4_48 inX4_takeKey seX4_takeKey rfl rfl (z_frame [0, 1, 2, 3, 4] rfl (by decide) (Nat.le_of_ble_eq_true rfl) (c_X4_takeKey_e hl _ _ _ _ T k ht hk)) (Nat.le_of_ble_eq_true rfl) ⟨(Nat.le_of_ble_eq_true rfl), (Nat.le_of_ble_eq_true rfl)⟩ rfl (Nat.le_of_ble_eq_true rfl) rfl rfl (fun _ _ h => h.elim) ?_
    rintro _ _ ⟨_, _, ⟨rfl, g9, hg9, rfl⟩, rfl, rfl⟩
    refine j_w ([.inr (9, [_, _, _, _, _]), z_ia 20 _, z_ia 20 _, .inr (11, [_]), z_ia 7 _], z_no) rfl ?_
    refine j_aload_n dX4_sendAway_27 rfl rfl ?_
    refine j_iload_n dX4_sendAway_28 rfl ?_
    refine j_sipush (v := (-1000)) dX4_sendAway_29 (by decide) ?_
    refine j_callV (q := (RX4, TX4, 5)) dX4_sendAway_32 kX4_setValue lX4_44 inX4_setValue seX4_setValue rfl rfl (z_frame [0, 1, 2, 3, 4] rfl (by decide) (Nat.le_of_ble_eq_true rfl) (c_X4_setValm_e hl _ _ _ _ ((sp_go T k).length) k (-1000) hk)) (Nat.le_of_ble_eq_true rfl) ⟨(Nat.le_of_ble_eq_true rfl), (Nat.le_of_ble_eq_true rfl)⟩ rfl (Nat.le_of_ble_eq_true rfl) rfl rfl (fun _ _ h => h.elim) ?_
    rintro _ _ ⟨_, _, ⟨rfl, rfl⟩, rfl, rfl⟩
    refine j_w ([.inr (9, [_, _, _, _, _]), z_ia 20 _, z_ia 20 _, .inr (11, [_]), z_ia 7 _], z_no) rfl ?_
    refine j_iload_n dX4_sendAway_35 rfl ?_
    refine j_iret dX4_sendAway_36 rfl rfl ?_ (Nat.le_of_ble_eq_true rfl) (Nat.le_of_ble_eq_true rfl)
    first | exact ⟨rfl, rfl, rfl, _, _, (by rw [e9]; exact ht), (by rw [e9] <;> rfl)⟩ | exact ⟨rfl, rfl, rfl, _, _, ht.go hg9, rfl⟩
set_option maxRecDepth 100000 in
set_option maxHeartbeats 8000000 in
theorem c_X4_makeEmpty_e (hl : l.stackTraces = false) (b : Bool) (f g c : Nat → Int32) (T : List (Nat × Int32)) (ht : z_tba f g T) : z_CF G l mX4_makeEmpty 10 0 0 [.inr (9, [.int (z_bi b), .ref 1, .ref 2, .ref 3, .int (nI (T).length)]), z_ia 20 f, z_ia 20 g, .inr (11, [.ref 4]), z_ia 7 c] [.ref 0] (fun v L => v = some (.int (nI T.length)) ∧ ∃ f' : Nat → Int32, z_tba f' g [] ∧ L = [.inr (9, [.int (z_bi b), .ref 1, .ref 2, .ref 3, .int 0]), z_ia 20 f', z_ia 20 g, .inr (11, [.ref 4]), z_ia 7 c]) := by
  refine z_body hl (by decide) rfl (Nat.le_of_ble_eq_true rfl) ?_
  show z_J G l mX4_makeEmpty (z_SF 10 0 0 [.inr (9, [.int (z_bi b), .ref 1, .ref 2, .ref 3, .int (nI (T).length)]), z_ia 20 f, z_ia 20 g, .inr (11, [.ref 4]), z_ia 7 c] (fun v L => v = some (.int (nI T.length)) ∧ ∃ f' : Nat → Int32, z_tba f' g [] ∧ L = [.inr (9, [.int (z_bi b), .ref 1, .ref 2, .ref 3, .int 0]), z_ia 20 f', z_ia 20 g, .inr (11, [.ref 4]), z_ia 7 c])) 0 [(0, _)] [] _ 0 0
  have hln := ht.len
  refine j_aload_n dX4_makeEmpty_0 rfl rfl ?_
  refine j_getf dX4_makeEmpty_1 fX4_29 rfl rfl ?_
  refine j_istore_n (lo' := [(1, _), (0, _)]) dX4_makeEmpty_4 (by decide) rfl ?_
  refine j_aload_n dX4_makeEmpty_5 rfl rfl ?_
  refine j_iconst (v := 0) dX4_makeEmpty_6 (by decide) ?_
  refine j_put (w' := ([.inr (9, [_, _, _, _, _]), z_ia 20 _, z_ia 20 _, .inr (11, [_]), z_ia 7 _], z_no)) dX4_makeEmpty_7 fX4_29 tX4_4 rfl ⟨rfl, rfl⟩ rfl ?_
  refine j_iconst (v := 0) dX4_makeEmpty_10 (by decide) ?_
  refine j_istore_n (lo' := [(2, _), (1, _), (0, _)]) dX4_makeEmpty_11 (by decide) rfl ?_
  have loop : ∀ (n9 : Nat) (f' : Nat → Int32) (j : Nat), (j ≤ 20) → (∀ i, i < j → f' i = -1000) → (20 < j + n9) → z_J G l mX4_makeEmpty (z_SF 10 0 0 [.inr (9, [.int (z_bi b), .ref 1, .ref 2, .ref 3, .int (nI (T).length)]), z_ia 20 f, z_ia 20 g, .inr (11, [.ref 4]), z_ia 7 c] (fun v L => v = some (.int (nI T.length)) ∧ ∃ f' : Nat → Int32, z_tba f' g [] ∧ L = [.inr (9, [.int (z_bi b), .ref 1, .ref 2, .ref 3, .int 0]), z_ia 20 f', z_ia 20 g, .inr (11, [.ref 4]), z_ia 7 c])) 12 [(0, .ref 0), (1, .int (nI T.length)), (2, .int (nI j))] [] ([.inr (9, [.int (z_bi b), .ref 1, .ref 2, .ref 3, .int 0]), z_ia 20 f', z_ia 20 g, .inr (11, [.ref 4]), z_ia 7 c], z_no) 0 0 := by
    intro n9
    induction n9 with
    | zero => intro f' j hj hz hf9; exact absurd hf9 (by omega)
    | succ n9 ih =>
      intro f' j hj hz hf9
      refine j_iload_n dX4_makeEmpty_12 rfl ?_
      refine j_aload_n dX4_makeEmpty_13 rfl rfl ?_
      refine j_getf dX4_makeEmpty_14 fX4_9 rfl rfl ?_
      refine j_alen dX4_makeEmpty_17 rfl rfl rfl ?_
      refine j_icmp_ge (tgt := 36) dX4_makeEmpty_18 (by decide) (fun c_18 => ?_) (fun c_18 => ?_)
      · have hb18 : 20 ≤ j := (nI_leI (a := 20) (b := j) (by omega) (by omega)).mp c_18
        refine j_iload_n dX4_makeEmpty_36 rfl ?_
        refine j_iret dX4_makeEmpty_37 rfl rfl ?_ (Nat.le_of_ble_eq_true rfl) (Nat.le_of_ble_eq_true rfl)
        exact ⟨rfl, rfl, rfl, _, z_tba.nil (g := g) (fun i hi => hz i (by omega)), rfl⟩
      · have hb18 : j < 20 := Nat.not_le.mp (fun z => c_18 ((nI_leI (a := 20) (b := j) (by omega) (by omega)).mpr z))
        refine j_aload_n dX4_makeEmpty_21 rfl rfl ?_
        refine j_getf dX4_makeEmpty_22 fX4_9 rfl rfl ?_
        refine j_iload_n dX4_makeEmpty_25 rfl ?_
        refine j_sipush (v := (-1000)) dX4_makeEmpty_26 (by decide) ?_
        refine j_stoN (w' := ([.inr (9, [_, _, _, _, _]), z_ia 20 _, z_ia 20 _, .inr (11, [_]), z_ia 7 _], z_no)) dX4_makeEmpty_29 rfl (k := j) (by omega) (by omega) rfl ?_
        refine j_iinc (lo' := [(2, _), (0, _), (1, _)]) dX4_makeEmpty_30 rfl (z_inc _) (by decide) rfl ?_
        refine j_goto (tgt := 12) dX4_makeEmpty_33 (by decide) ?_
        exact j_lo2 (ih _ (j + 1) (by omega) (sp_lt1 (fun i hi => (z_ui_ne (by omega)).trans (hz i hi)) z_ui_self) (by omega)) (z_q1 rfl (z_q1 rfl (z_q1 rfl z_q0)))
  exact j_lo2 (loop 21 _ 0 (by omega) (fun i hi => absurd hi (Nat.not_lt_zero _)) (by omega)) (z_q1 rfl (z_q1 rfl (z_q1 rfl z_q0)))
set_option maxRecDepth 100000 in
set_option maxHeartbeats 8000000 in
theorem c_X4_sortKeys_e (hl : l.stackTraces = false) (b : Bool) (f g c : Nat → Int32) (m : Int32) (U : List (Nat × Int32)) (hv : ∀ k, k < 20 → f k = sp_lk U k) : z_CF G l mX4_sortKeys 10 0 0 [.inr (9, [.int (z_bi b), .ref 1, .ref 2, .ref 3, .int m]), z_ia 20 f, z_ia 20 g, .inr (11, [.ref 4]), z_ia 7 c] [.ref 0] (fun v L => v = none ∧ ∃ g' : Nat → Int32, z_sq g' (sp_sk U 20) ∧ L = [.inr (9, [.int (z_bi b), .ref 1, .ref 2, .ref 3, .int m]), z_ia 20 f, z_ia 20 g', .inr (11, [.ref 4]), z_ia 7 c]) := by
  refine z_body hl (by decide) rfl (Nat.le_of_ble_eq_true rfl) ?_
  show z_J G l mX4_sortKeys (z_SF 10 0 0 [.inr (9, [.int (z_bi b), .ref 1, .ref 2, .ref 3, .int m]), z_ia 20 f, z_ia 20 g, .inr (11, [.ref 4]), z_ia 7 c] (fun v L => v = none ∧ ∃ g' : Nat → Int32, z_sq g' (sp_sk U 20) ∧ L = [.inr (9, [.int (z_bi b), .ref 1, .ref 2, .ref 3, .int m]), z_ia 20 f, z_ia 20 g', .inr (11, [.ref 4]), z_ia 7 c])) 0 [(0, _)] [] _ 0 0
  refine j_iconst (v := 0) dX4_sortKeys_0 (by decide) ?_
  refine j_istore_n (lo' := [(1, _), (0, _)]) dX4_sortKeys_1 (by decide) rfl ?_
  refine j_iconst (v := 0) dX4_sortKeys_2 (by decide) ?_
  refine j_istore_n (lo' := [(2, _), (1, _), (0, _)]) dX4_sortKeys_3 (by decide) rfl ?_
  have loop : ∀ (n9 : Nat) (g' : Nat → Int32) (q j : Nat), (j ≤ 20) → (q = (sp_sk U j).length) → (q ≤ j) → (z_sq g' (sp_sk U j)) → (20 < j + n9) → z_J G l mX4_sortKeys (z_SF 10 0 0 [.inr (9, [.int (z_bi b), .ref 1, .ref 2, .ref 3, .int m]), z_ia 20 f, z_ia 20 g, .inr (11, [.ref 4]), z_ia 7 c] (fun v L => v = none ∧ ∃ g' : Nat → Int32, z_sq g' (sp_sk U 20) ∧ L = [.inr (9, [.int (z_bi b), .ref 1, .ref 2, .ref 3, .int m]), z_ia 20 f, z_ia 20 g', .inr (11, [.ref 4]), z_ia 7 c])) 4 [(0, .ref 0), (1, .int (nI q)), (2, .int (nI j))] [] ([.inr (9, [.int (z_bi b), .ref 1, .ref 2, .ref 3, .int m]), z_ia 20 f, z_ia 20 g', .inr (11, [.ref 4]), z_ia 7 c], z_no) 0 0 := by
    intro n9
    induction n9 with
    | zero => intro g' q j hj hq hqj hs hf9; exact absurd hf9 (by omega)
    | succ n9 ih =>
      intro g' q j hj hq hqj hs hf9
      refine j_iload_n dX4_sortKeys_4 rfl ?_
      refine j_aload_n dX4_sortKeys_5 rfl rfl ?_
      refine j_getf dX4_sortKeys_6 fX4_9 rfl rfl ?_
      refine j_alen dX4_sortKeys_9 rfl rfl rfl ?_
      refine j_icmp_ge (tgt := 50) dX4_sortKeys_10 (by decide) (fun c_10 => ?_) (fun c_10 => ?_)
      · have hb10 : 20 ≤ j := (nI_leI (a := 20) (b := j) (by omega) (by omega)).mp c_10
        have hj20 : j = 20 := by omega
        subst hj20
        refine j_vret dX4_sortKeys_50 rfl ?_ (Nat.le_of_ble_eq_true rfl) (Nat.le_of_ble_eq_true rfl)
        exact ⟨rfl, rfl, rfl, _, hs, rfl⟩
      · have hb10 : j < 20 := Nat.not_le.mp (fun z => c_10 ((nI_leI (a := 20) (b := j) (by omega) (by omega)).mpr z))
        refine j_iload_n dX4_sortKeys_13 rfl ?_
        refine j_aload_n dX4_sortKeys_14 rfl rfl ?_
        refine j_getf dX4_sortKeys_15 fX4_15 rfl rfl ?_
        refine j_alen dX4_sortKeys_18 rfl rfl rfl ?_
        refine j_icmp_ge (tgt := 50) dX4_sortKeys_19 (by decide) (fun c_19 => ?_) (fun c_19 => ?_)
        · have hb19 : 20 ≤ q := (nI_leI (a := 20) (b := q) (by omega) (by omega)).mp c_19
          exact absurd hb10 (by omega)
        · have hb19 : q < 20 := Nat.not_le.mp (fun z => c_19 ((nI_leI (a := 20) (b := q) (by omega) (by omega)).mpr z))
          refine j_aload_n dX4_sortKeys_22 rfl rfl ?_
          refine j_getf dX4_sortKeys_23 fX4_9 rfl rfl ?_
          refine j_iload_n dX4_sortKeys_26 rfl ?_
          refine j_ldN dX4_sortKeys_27 rfl (k := j) (by omega) (by omega) ?_
          refine j_sipush (v := (-1000)) dX4_sortKeys_28 (by decide) ?_
          have hf := hv j hb10
          refine j_icmp_eq (tgt := 44) dX4_sortKeys_31 (by decide) (fun c_31 => ?_) (fun c_31 => ?_)
          · have hlk : sp_lk U j = -1000 := hf.symm.trans c_31
            refine j_iinc (lo' := [(2, _), (0, _), (1, _)]) dX4_sortKeys_44 rfl (z_inc _) (by decide) rfl ?_
            refine j_goto (tgt := 4) dX4_sortKeys_47 (by decide) ?_
            exact j_lo2 (ih _ _ (j + 1) (by omega) (hq.trans (by rw [sp_sk_n hlk] <;> rfl)) (by omega) (by rw [sp_sk_n hlk]; exact hs) (by omega)) (z_q1 rfl (z_q1 rfl (z_q1 rfl z_q0)))
          · have hlk : ¬ sp_lk U j = -1000 := fun z => c_31 (hf.trans z)
            refine j_aload_n dX4_sortKeys_34 rfl rfl ?_
            refine j_getf dX4_sortKeys_35 fX4_15 rfl rfl ?_
            refine j_iload_n dX4_sortKeys_38 rfl ?_
            refine j_iload_n dX4_sortKeys_39 rfl ?_
            refine j_stoN (w' := ([.inr (9, [_, _, _, _, _]), z_ia 20 _, z_ia 20 _, .inr (11, [_]), z_ia 7 _], z_no)) dX4_sortKeys_40 rfl (k := q) (by omega) (by omega) rfl ?_
            refine j_iinc (lo' := [(1, _), (0, _), (2, _)]) dX4_sortKeys_41 rfl (z_inc _) (by decide) rfl ?_
            refine j_iinc (lo' := [(2, _), (1, _), (0, _)]) dX4_sortKeys_44 rfl (z_inc _) (by decide) rfl ?_
            refine j_goto (tgt := 4) dX4_sortKeys_47 (by decide) ?_
            exact j_lo2 (ih _ _ (j + 1) (by omega) (by rw [sp_sk_s hlk, List.length_append, ← hq]; rfl) (by omega) (by rw [sp_sk_s hlk, hq]; exact hs.push) (by omega)) (z_q1 rfl (z_q1 rfl (z_q1 rfl z_q0)))
  exact j_lo2 (loop 21 _ 0 0 (by omega) rfl (by omega) z_sq.nil (by omega)) (z_q1 rfl (z_q1 rfl (z_q1 rfl z_q0)))
set_option maxRecDepth 100000 in
set_option maxHeartbeats 8000000 in
theorem c_X4_become_e (hl : l.stackTraces = false) (b : Bool) (f g c : Nat → Int32) (m : Int32) (b2 : Bool) (f2 g2 c2 : Nat → Int32) (U : List (Nat × Int32)) (ht : z_tba f2 g2 U) : z_CF G l mX4_become 12 0 0 [.inr (9, [.int (z_bi b), .ref 1, .ref 2, .ref 3, .int m]), z_ia 20 f, z_ia 20 g, .inr (11, [.ref 4]), z_ia 7 c, .inr (9, [.int (z_bi b2), .ref 6, .ref 7, .ref 8, .int (nI (U).length)]), z_ia 20 f2, z_ia 20 g2, .inr (11, [.ref 9]), z_ia 7 c2] [.ref 0, .ref 5] (fun v L => v = none ∧ ∃ f' g' : Nat → Int32, z_tba f' g' (sp_cp b U) ∧ L = [.inr (9, [.int (z_bi b), .ref 1, .ref 2, .ref 3, .int (nI (sp_cp b U).length)]), z_ia 20 f', z_ia 20 g', .inr (11, [.ref 4]), z_ia 7 c, .inr (9, [.int (z_bi b2), .ref 6, .ref 7, .ref 8, .int (nI (U).length)]), z_ia 20 f2, z_ia 20 g2, .inr (11, [.ref 9]), z_ia 7 c2]) := by
  refine z_body hl (by decide) rfl (Nat.le_of_ble_eq_true rfl) ?_
  show z_J G l mX4_become (z_SF 12 0 0 [.inr (9, [.int (z_bi b), .ref 1, .ref 2, .ref 3, .int m]), z_ia 20 f, z_ia 20 g, .inr (11, [.ref 4]), z_ia 7 c, .inr (9, [.int (z_bi b2), .ref 6, .ref 7, .ref 8, .int (nI (U).length)]), z_ia 20 f2, z_ia 20 g2, .inr (11, [.ref 9]), z_ia 7 c2] (fun v L => v = none ∧ ∃ f' g' : Nat → Int32, z_tba f' g' (sp_cp b U) ∧ L = [.inr (9, [.int (z_bi b), .ref 1, .ref 2, .ref 3, .int (nI (sp_cp b U).length)]), z_ia 20 f', z_ia 20 g', .inr (11, [.ref 4]), z_ia 7 c, .inr (9, [.int (z_bi b2), .ref 6, .ref 7, .ref 8, .int (nI (U).length)]), z_ia 20 f2, z_ia 20 g2, .inr (11, [.ref 9]), z_ia 7 c2])) 0 [(0, _), (1, _)] [] _ 0 0
  have hln := ht.len
  refine j_aload_n dX4_become_0 rfl rfl ?_
  refine j_getf dX4_become_1 fX4_9 rfl rfl ?_
  refine j_aload_n dX4_become_4 rfl rfl ?_
  refine j_getf dX4_become_5 fX4_9 rfl rfl ?_
  refine j_callSN dX4_become_8 kX8_takeOver lX4_51 stX8_takeOver (z_frame [1, 6] rfl (by decide) (Nat.le_of_ble_eq_true rfl) (c_X8_takeOver_e hl 20 f f2 (by decide))) (Nat.le_of_ble_eq_true rfl) ⟨(Nat.le_of_ble_eq_true rfl), (Nat.le_of_ble_eq_true rfl)⟩ rfl (Nat.le_of_ble_eq_true rfl) rfl rfl (fun _ _ h => h.elim) ?_
  rintro _ _ ⟨_, _, ⟨rfl, f9, hf9, rfl⟩, rfl, rfl⟩
  refine j_w ([.inr (9, [_, _, _, _, _]), z_ia 20 _, z_ia 20 _, .inr (11, [_]), z_ia 7 _, .inr (9, [_, _, _, _, _]), z_ia 20 _, z_ia 20 _, .inr (11, [_]), z_ia 7 _], z_no) rfl ?_
  refine j_aload_n dX4_become_11 rfl rfl ?_
  refine j_getf dX4_become_12 fX4_15 rfl rfl ?_
  refine j_aload_n dX4_become_15 rfl rfl ?_
  refine j_getf dX4_become_16 fX4_15 rfl rfl ?_
  refine j_callSN dX4_become_19 kX8_takeOver lX4_51 stX8_takeOver (z_frame [2, 7] rfl (by decide) (Nat.le_of_ble_eq_true rfl) (c_X8_takeOver_e hl 20 g g2 (by decide))) (Nat.le_of_ble_eq_true rfl) ⟨(Nat.le_of_ble_eq_true rfl), (Nat.le_of_ble_eq_true rfl)⟩ rfl (Nat.le_of_ble_eq_true rfl) rfl rfl (fun _ _ h => h.elim) ?_
  rintro _ _ ⟨_, _, ⟨rfl, g9, hg9, rfl⟩, rfl, rfl⟩
  refine j_w ([.inr (9, [_, _, _, _, _]), z_ia 20 _, z_ia 20 _, .inr (11, [_]), z_ia 7 _, .inr (9, [_, _, _, _, _]), z_ia 20 _, z_ia 20 _, .inr (11, [_]), z_ia 7 _], z_no) rfl ?_
  refine j_aload_n dX4_become_22 rfl rfl ?_
  refine j_aload_n dX4_become_23 rfl rfl ?_
  refine j_getf dX4_become_24 fX4_29 rfl rfl ?_
  refine j_put (w' := ([.inr (9, [_, _, _, _, _]), z_ia 20 _, z_ia 20 _, .inr (11, [_]), z_ia 7 _, .inr (9, [_, _, _, _, _]), z_ia 20 _, z_ia 20 _, .inr (11, [_]), z_ia 7 _], z_no)) dX4_become_27 fX4_29 tX4_4 rfl ⟨rfl, rfl⟩ rfl ?_
  refine j_aload_n dX4_become_30 rfl rfl ?_
  refine j_getf dX4_become_31 fX4_25 rfl rfl ?_
  refine j_if_eq (tgt := 41) dX4_become_34 (by decide) (fun c_34 => ?_) (fun c_34 => ?_)
  · have hb34 := z_bF c_34
    refine j_vret dX4_become_41 rfl ?_ (Nat.le_of_ble_eq_true rfl) (Nat.le_of_ble_eq_true rfl)
    first | exact ⟨rfl, rfl, rfl, _, _, ⟨sp_cp_ok ht.1, fun k hk => ((hf9 k hk).trans (ht.2.1 k hk)).trans (sp_lk_cp ht.1).symm, (by rw [hb34, sp_ks_cp]; exact hg8)⟩, (by rw [sp_cp_len ht.1] <;> rfl)⟩ | exact ⟨rfl, rfl, rfl, _, _, ⟨sp_cp_ok ht.1, fun k hk => ((hf9 k hk).trans (ht.2.1 k hk)).trans (sp_lk_cp ht.1).symm, (by rw [hb34]; exact fun j k hj => (hg9 j (by have := (List.getElem?_eq_some_iff.mp hj).1; rw [show sp_cp false U = U from rfl, sp_ksl] at this; omega)).trans (ht.2.2 j k hj))⟩, (by rw [sp_cp_len ht.1] <;> rfl)⟩
  · have hb34 := z_bt c_34
    refine j_aload_n dX4_become_37 rfl rfl ?_
    refine j_callV (q := (RX4, TX4, 5)) dX4_become_38 kX4_sortKeys lX4_55 inX4_sortKeys seX4_sortKeys rfl rfl (z_frame [0, 1, 2, 3, 4] rfl (by decide) (Nat.le_of_ble_eq_true rfl) (c_X4_sortKeys_e hl _ _ _ _ _ U (fun k hk => (hf9 k hk).trans (ht.2.1 k hk)))) (Nat.le_of_ble_eq_true rfl) ⟨(Nat.le_of_ble_eq_true rfl), (Nat.le_of_ble_eq_true rfl)⟩ rfl (Nat.le_of_ble_eq_true rfl) rfl rfl (fun _ _ h => h.elim) ?_
    rintro _ _ ⟨_, _, ⟨rfl, g8, hg8, rfl⟩, rfl, rfl⟩
    refine j_w ([.inr (9, [_, _, _, _, _]), z_ia 20 _, z_ia 20 _, .inr (11, [_]), z_ia 7 _, .inr (9, [_, _, _, _, _]), z_ia 20 _, z_ia 20 _, .inr (11, [_]), z_ia 7 _], z_no) rfl ?_
    refine j_vret dX4_become_41 rfl ?_ (Nat.le_of_ble_eq_true rfl) (Nat.le_of_ble_eq_true rfl)
    first | exact ⟨rfl, rfl, rfl, _, _, ⟨sp_cp_ok ht.1, fun k hk => ((hf9 k hk).trans (ht.2.1 k hk)).trans (sp_lk_cp ht.1).symm, (by rw [hb34, sp_ks_cp]; exact hg8)⟩, (by rw [sp_cp_len ht.1] <;> rfl)⟩ | exact ⟨rfl, rfl, rfl, _, _, ⟨sp_cp_ok ht.1, fun k hk => ((hf9 k hk).trans (ht.2.1 k hk)).trans (sp_lk_cp ht.1).symm, (by rw [hb34]; exact fun j k hj => (hg9 j (by have := (List.getElem?_eq_some_iff.mp hj).1; rw [show sp_cp false U = U from rfl, sp_ksl] at this; omega)).trans (ht.2.2 j k hj))⟩, (by rw [sp_cp_len ht.1] <;> rfl)⟩
set_option maxRecDepth 100000 in
set_option maxHeartbeats 8000000 in
theorem c_X4_hasPairsOf_e (hl : l.stackTraces = false) (b : Bool) (f g c : Nat → Int32) (T : List (Nat × Int32)) (b2 : Bool) (f2 g2 c2 : Nat → Int32) (U : List (Nat × Int32)) (ht : z_tba f g T) (ht2 : z_tba f2 g2 U) : z_CF G l mX4_hasPairsOf 12 0 0 [.inr (9, [.int (z_bi b), .ref 1, .ref 2, .ref 3, .int (nI (T).length)]), z_ia 20 f, z_ia 20 g, .inr (11, [.ref 4]), z_ia 7 c, .inr (9, [.int (z_bi b2), .ref 6, .ref 7, .ref 8, .int (nI (U).length)]), z_ia 20 f2, z_ia 20 g2, .inr (11, [.ref 9]), z_ia 7 c2] [.ref 0, .ref 5] (fun v L => v = some (.int (z_bi (sp_lik T U))) ∧ L = [.inr (9, [.int (z_bi b), .ref 1, .ref 2, .ref 3, .int (nI (T).length)]), z_ia 20 f, z_ia 20 g, .inr (11, [.ref 4]), z_ia 7 c, .inr (9, [.int (z_bi b2), .ref 6, .ref 7, .ref 8, .int (nI (U).length)]), z_ia 20 f2, z_ia 20 g2, .inr (11, [.ref 9]), z_ia 7 c2]) := by
  refine z_body hl (by decide) rfl (Nat.le_of_ble_eq_true rfl) ?_
  show z_J G l mX4_hasPairsOf (z_SF 12 0 0 [.inr (9, [.int (z_bi b), .ref 1, .ref 2, .ref 3, .int (nI (T).length)]), z_ia 20 f, z_ia 20 g, .inr (11, [.ref 4]), z_ia 7 c, .inr (9, [.int (z_bi b2), .ref 6, .ref 7, .ref 8, .int (nI (U).length)]), z_ia 20 f2, z_ia 20 g2, .inr (11, [.ref 9]), z_ia 7 c2] (fun v L => v = some (.int (z_bi (sp_lik T U))) ∧ L = [.inr (9, [.int (z_bi b), .ref 1, .ref 2, .ref 3, .int (nI (T).length)]), z_ia 20 f, z_ia 20 g, .inr (11, [.ref 4]), z_ia 7 c, .inr (9, [.int (z_bi b2), .ref 6, .ref 7, .ref 8, .int (nI (U).length)]), z_ia 20 f2, z_ia 20 g2, .inr (11, [.ref 9]), z_ia 7 c2])) 0 [(0, _), (1, _)] [] _ 0 0
  refine j_iconst (v := 0) dX4_hasPairsOf_0 (by decide) ?_
  refine j_istore_n (lo' := [(2, _), (0, _), (1, _)]) dX4_hasPairsOf_1 (by decide) rfl ?_
  have loop : ∀ (n9 : Nat) (j : Nat), (j ≤ 20) → (∀ i, i < j → sp_lk T i = sp_lk U i) → (20 < j + n9) → z_J G l mX4_hasPairsOf (z_SF 12 0 0 [.inr (9, [.int (z_bi b), .ref 1, .ref 2, .ref 3, .int (nI (T).length)]), z_ia 20 f, z_ia 20 g, .inr (11, [.ref 4]), z_ia 7 c, .inr (9, [.int (z_bi b2), .ref 6, .ref 7, .ref 8, .int (nI (U).length)]), z_ia 20 f2, z_ia 20 g2, .inr (11, [.ref 9]), z_ia 7 c2] (fun v L => v = some (.int (z_bi (sp_lik T U))) ∧ L = [.inr (9, [.int (z_bi b), .ref 1, .ref 2, .ref 3, .int (nI (T).length)]), z_ia 20 f, z_ia 20 g, .inr (11, [.ref 4]), z_ia 7 c, .inr (9, [.int (z_bi b2), .ref 6, .ref 7, .ref 8, .int (nI (U).length)]), z_ia 20 f2, z_ia 20 g2, .inr (11, [.ref 9]), z_ia 7 c2])) 2 [(0, .ref 0), (1, .ref 5), (2, .int (nI j))] [] ([.inr (9, [.int (z_bi b), .ref 1, .ref 2, .ref 3, .int (nI (T).length)]), z_ia 20 f, z_ia 20 g, .inr (11, [.ref 4]), z_ia 7 c, .inr (9, [.int (z_bi b2), .ref 6, .ref 7, .ref 8, .int (nI (U).length)]), z_ia 20 f2, z_ia 20 g2, .inr (11, [.ref 9]), z_ia 7 c2], z_no) 0 0 := by
    intro n9
    induction n9 with
    | zero => intro j hj hz hf9; exact absurd hf9 (by omega)
    | succ n9 ih =>
      intro j hj hz hf9
      refine j_iload_n dX4_hasPairsOf_2 rfl ?_
      refine j_aload_n dX4_hasPairsOf_3 rfl rfl ?_
      refine j_getf dX4_hasPairsOf_4 fX4_9 rfl rfl ?_
      refine j_alen dX4_hasPairsOf_7 rfl rfl rfl ?_
      refine j_icmp_ge (tgt := 33) dX4_hasPairsOf_8 (by decide) (fun c_8 => ?_) (fun c_8 => ?_)
      · have hb8 : 20 ≤ j := (nI_leI (a := 20) (b := j) (by omega) (by omega)).mp c_8
        refine j_iconst (v := 1) dX4_hasPairsOf_33 (by decide) ?_
        refine j_iret dX4_hasPairsOf_34 rfl rfl ?_ (Nat.le_of_ble_eq_true rfl) (Nat.le_of_ble_eq_true rfl)
        exact ⟨rfl, rfl, (by rw [sp_lik1 (fun k hk => hz k (by omega))]; rfl), rfl⟩
      · have hb8 : j < 20 := Nat.not_le.mp (fun z => c_8 ((nI_leI (a := 20) (b := j) (by omega) (by omega)).mpr z))
        refine j_aload_n dX4_hasPairsOf_11 rfl rfl ?_
        refine j_getf dX4_hasPairsOf_12 fX4_9 rfl rfl ?_
        refine j_iload_n dX4_hasPairsOf_15 rfl ?_
        refine j_ldN dX4_hasPairsOf_16 rfl (k := j) (by omega) (by omega) ?_
        refine j_aload_n dX4_hasPairsOf_17 rfl rfl ?_
        refine j_iload_n dX4_hasPairsOf_18 rfl ?_
        refine j_callV (q := (RX4, TX4, 5)) dX4_hasPairsOf_19 kX4_look lX4_37 inX4_look seX4_look rfl rfl (z_frame [5, 6, 7, 8, 9] rfl (by decide) (Nat.le_of_ble_eq_true rfl) (c_X4_look_e hl _ _ _ _ _ U j ht2 hb8)) (Nat.le_of_ble_eq_true rfl) ⟨(Nat.le_of_ble_eq_true rfl), (Nat.le_of_ble_eq_true rfl)⟩ rfl (Nat.le_of_ble_eq_true rfl) rfl rfl (fun _ _ h => h.elim) ?_
        rintro _ _ ⟨_, _, ⟨rfl, rfl⟩, rfl, rfl⟩
        refine j_w ([.inr (9, [_, _, _, _, _]), z_ia 20 _, z_ia 20 _, .inr (11, [_]), z_ia 7 _, .inr (9, [_, _, _, _, _]), z_ia 20 _, z_ia 20 _, .inr (11, [_]), z_ia 7 _], z_no) rfl ?_
        refine j_icmp_eq (tgt := 27) dX4_hasPairsOf_22 (by decide) (fun c_22 => ?_) (fun c_22 => ?_)
        · have heq : sp_lk T j = sp_lk U j := (ht.2.1 j hb8).symm.trans c_22
          refine j_iinc (lo' := [(2, _), (0, _), (1, _)]) dX4_hasPairsOf_27 rfl (z_inc _) (by decide) rfl ?_
          refine j_goto (tgt := 2) dX4_hasPairsOf_30 (by decide) ?_
          exact j_lo2 (ih (j + 1) (by omega) (sp_lt1 hz heq) (by omega)) (z_q1 rfl (z_q1 rfl (z_q1 rfl z_q0)))
        · have hne : ¬ sp_lk T j = sp_lk U j := fun z => c_22 ((ht.2.1 j hb8).trans z)
          refine j_iconst (v := 0) dX4_hasPairsOf_25 (by decide) ?_
          refine j_iret dX4_hasPairsOf_26 rfl rfl ?_ (Nat.le_of_ble_eq_true rfl) (Nat.le_of_ble_eq_true rfl)
          exact ⟨rfl, rfl, (by rw [sp_lik0 hb8 hne]; rfl), rfl⟩
  exact j_lo2 (loop 21 0 (by omega) (fun i hi => absurd hi (Nat.not_lt_zero _)) (by omega)) (z_q1 rfl (z_q1 rfl (z_q1 rfl z_q0)))
set_option maxRecDepth 100000 in
set_option maxHeartbeats 8000000 in
theorem c_X4_hasPairsOf_s_e (hl : l.stackTraces = false) (b : Bool) (f g c : Nat → Int32) (T : List (Nat × Int32)) (ht : z_tba f g T) : z_CF G l mX4_hasPairsOf 12 0 0 [.inr (9, [.int (z_bi b), .ref 1, .ref 2, .ref 3, .int (nI (T).length)]), z_ia 20 f, z_ia 20 g, .inr (11, [.ref 4]), z_ia 7 c] [.ref 0, .ref 0] (fun v L => v = some (.int (z_bi (sp_lik T T))) ∧ L = [.inr (9, [.int (z_bi b), .ref 1, .ref 2, .ref 3, .int (nI (T).length)]), z_ia 20 f, z_ia 20 g, .inr (11, [.ref 4]), z_ia 7 c]) := by
  refine z_body hl (by decide) rfl (Nat.le_of_ble_eq_true rfl) ?_
  show z_J G l mX4_hasPairsOf (z_SF 12 0 0 [.inr (9, [.int (z_bi b), .ref 1, .ref 2, .ref 3, .int (nI (T).length)]), z_ia 20 f, z_ia 20 g, .inr (11, [.ref 4]), z_ia 7 c] (fun v L => v = some (.int (z_bi (sp_lik T T))) ∧ L = [.inr (9, [.int (z_bi b), .ref 1, .ref 2, .ref 3, .int (nI (T).length)]), z_ia 20 f, z_ia 20 g, .inr (11, [.ref 4]), z_ia 7 c])) 0 [(0, _), (1, _)] [] _ 0 0
  refine j_iconst (v := 0) dX4_hasPairsOf_0 (by decide) ?_
  refine j_istore_n (lo' := [(2, _), (0, _), (1, _)]) dX4_hasPairsOf_1 (by decide) rfl ?_
  have loop : ∀ (n9 : Nat) (j : Nat), (j ≤ 20) → (∀ i, i < j → sp_lk T i = sp_lk T i) → (20 < j + n9) → z_J G l mX4_hasPairsOf (z_SF 12 0 0 [.inr (9, [.int (z_bi b), .ref 1, .ref 2, .ref 3, .int (nI (T).length)]), z_ia 20 f, z_ia 20 g, .inr (11, [.ref 4]), z_ia 7 c] (fun v L => v = some (.int (z_bi (sp_lik T T))) ∧ L = [.inr (9, [.int (z_bi b), .ref 1, .ref 2, .ref 3, .int (nI (T).length)]), z_ia 20 f, z_ia 20 g, .inr (11, [.ref 4]), z_ia 7 c])) 2 [(0, .ref 0), (1, .ref 0), (2, .int (nI j))] [] ([.inr (9, [.int (z_bi b), .ref 1, .ref 2, .ref 3, .int (nI (T).length)]), z_ia 20 f, z_ia 20 g, .inr (11, [.ref 4]), z_ia 7 c], z_no) 0 0 := by
    intro n9
    induction n9 with
    | zero => intro j hj hz hf9; exact absurd hf9 (by omega)
    | succ n9 ih =>
      intro j hj hz hf9
      refine j_iload_n dX4_hasPairsOf_2 rfl ?_
      refine j_aload_n dX4_hasPairsOf_3 rfl rfl ?_
      refine j_getf dX4_hasPairsOf_4 fX4_9 rfl rfl ?_
      refine j_alen dX4_hasPairsOf_7 rfl rfl rfl ?_
      refine j_icmp_ge (tgt := 33) dX4_hasPairsOf_8 (by decide) (fun c_8 => ?_) (fun c_8 => ?_)
      · have hb8 : 20 ≤ j := (nI_leI (a := 20) (b := j) (by omega) (by omega)).mp c_8
        refine j_iconst (v := 1) dX4_hasPairsOf_33 (by decide) ?_
        refine j_iret dX4_hasPairsOf_34 rfl rfl ?_ (Nat.le_of_ble_eq_true rfl) (Nat.le_of_ble_eq_true rfl)
        exact ⟨rfl, rfl, (by rw [sp_lik1 (fun k hk => hz k (by omega))]; rfl), rfl⟩
      · have hb8 : j < 20 := Nat.not_le.mp (fun z => c_8 ((nI_leI (a := 20) (b := j) (by omega) (by omega)).mpr z))
        refine j_aload_n dX4_hasPairsOf_11 rfl rfl ?_
        refine j_getf dX4_hasPairsOf_12 fX4_9 rfl rfl ?_
        refine j_iload_n dX4_hasPairsOf_15 rfl ?_
        refine j_ldN dX4_hasPairsOf_16 rfl (k := j) (by omega) (by omega) ?_
        refine j_aload_n dX4_hasPairsOf_17 rfl rfl ?_
        refine j_iload_n dX4_hasPairsOf_18 rfl ?_
        refine j_callV (q := (RX4, TX4, 5)) dX4_hasPairsOf_19 kX4_look lX4_37 inX4_look seX4_look rfl rfl (z_frame [0, 1, 2, 3, 4] rfl (by decide) (Nat.le_of_ble_eq_true rfl) (c_X4_look_e hl _ _ _ _ _ T j ht hb8)) (Nat.le_of_ble_eq_true rfl) ⟨(Nat.le_of_ble_eq_true rfl), (Nat.le_of_ble_eq_true rfl)⟩ rfl (Nat.le_of_ble_eq_true rfl) rfl rfl (fun _ _ h => h.elim) ?_
        rintro _ _ ⟨_, _, ⟨rfl, rfl⟩, rfl, rfl⟩
        refine j_w ([.inr (9, [_, _, _, _, _]), z_ia 20 _, z_ia 20 _, .inr (11, [_]), z_ia 7 _], z_no) rfl ?_
        refine j_icmp_eq (tgt := 27) dX4_hasPairsOf_22 (by decide) (fun c_22 => ?_) (fun c_22 => ?_)
        · have heq : sp_lk T j = sp_lk T j := (ht.2.1 j hb8).symm.trans c_22
          refine j_iinc (lo' := [(2, _), (0, _), (1, _)]) dX4_hasPairsOf_27 rfl (z_inc _) (by decide) rfl ?_
          refine j_goto (tgt := 2) dX4_hasPairsOf_30 (by decide) ?_
          exact j_lo2 (ih (j + 1) (by omega) (sp_lt1 hz heq) (by omega)) (z_q1 rfl (z_q1 rfl (z_q1 rfl z_q0)))
        · have hne : ¬ sp_lk T j = sp_lk T j := fun z => c_22 ((ht.2.1 j hb8).trans z)
          refine j_iconst (v := 0) dX4_hasPairsOf_25 (by decide) ?_
          refine j_iret dX4_hasPairsOf_26 rfl rfl ?_ (Nat.le_of_ble_eq_true rfl) (Nat.le_of_ble_eq_true rfl)
          exact ⟨rfl, rfl, (by rw [sp_lik0 hb8 hne]; rfl), rfl⟩
  exact j_lo2 (loop 21 0 (by omega) (fun i hi => absurd hi (Nat.not_lt_zero _)) (by omega)) (z_q1 rfl (z_q1 rfl (z_q1 rfl z_q0)))
set_option maxRecDepth 100000 in
set_option maxHeartbeats 8000000 in
theorem c_X4_reckonAbsent_e (hl : l.stackTraces = false) (b : Bool) (f g c : Nat → Int32) (T : List (Nat × Int32)) (k : Nat) (r n : Int32) (ht : z_tba f g T) (hk : k < 20) (hn : z_vl n) : z_CF G l mX4_reckonAbsent 14 0 0 [.inr (9, [.int (z_bi b), .ref 1, .ref 2, .ref 3, .int (nI (T).length)]), z_ia 20 f, z_ia 20 g, .inr (11, [.ref 4]), z_ia 7 c] [.ref 0, .int (nI k), .int r, .int n] (fun v L => v = some (.int ((sp_cia b T c k r n).1.getD (-1001))) ∧ ∃ f' g' : Nat → Int32, z_tba f' g' (sp_cia b T c k r n).2.1 ∧ L = [.inr (9, [.int (z_bi b), .ref 1, .ref 2, .ref 3, .int (nI ((sp_cia b T c k r n).2.1).length)]), z_ia 20 f', z_ia 20 g', .inr (11, [.ref 4]), z_ia 7 (sp_cia b T c k r n).2.2]) := by
  refine z_body hl (by decide) rfl (Nat.le_of_ble_eq_true rfl) ?_
  show z_J G l mX4_reckonAbsent (z_SF 14 0 0 [.inr (9, [.int (z_bi b), .ref 1, .ref 2, .ref 3, .int (nI (T).length)]), z_ia 20 f, z_ia 20 g, .inr (11, [.ref 4]), z_ia 7 c] (fun v L => v = some (.int ((sp_cia b T c k r n).1.getD (-1001))) ∧ ∃ f' g' : Nat → Int32, z_tba f' g' (sp_cia b T c k r n).2.1 ∧ L = [.inr (9, [.int (z_bi b), .ref 1, .ref 2, .ref 3, .int (nI ((sp_cia b T c k r n).2.1).length)]), z_ia 20 f', z_ia 20 g', .inr (11, [.ref 4]), z_ia 7 (sp_cia b T c k r n).2.2])) 0 [(0, _), (1, _), (2, _), (3, _)] [] _ 0 0
  have hln := ht.len
  refine j_aload_n dX4_reckonAbsent_0 rfl rfl ?_
  refine j_iload_n dX4_reckonAbsent_1 rfl ?_
  refine j_callV (q := (RX4, TX4, 5)) dX4_reckonAbsent_2 kX4_look lX4_37 inX4_look seX4_look rfl rfl (z_frame [0, 1, 2, 3, 4] rfl (by decide) (Nat.le_of_ble_eq_true rfl) (c_X4_look_e hl _ _ _ _ _ T k ht hk)) (Nat.le_of_ble_eq_true rfl) ⟨(Nat.le_of_ble_eq_true rfl), (Nat.le_of_ble_eq_true rfl)⟩ rfl (Nat.le_of_ble_eq_true rfl) rfl rfl (fun _ _ h => h.elim) ?_
  rintro _ _ ⟨_, _, ⟨rfl, rfl⟩, rfl, rfl⟩
  refine j_w ([.inr (9, [_, _, _, _, _]), z_ia 20 _, z_ia 20 _, .inr (11, [_]), z_ia 7 _], z_no) rfl ?_
  refine j_istore (lo' := [(4, _), (0, _), (1, _), (2, _), (3, _)]) dX4_reckonAbsent_5 (by decide) rfl ?_
  refine j_iload dX4_reckonAbsent_7 rfl ?_
  refine j_sipush (v := (-1000)) dX4_reckonAbsent_9 (by decide) ?_
  refine j_icmp_eq (tgt := 18) dX4_reckonAbsent_12 (by decide) (fun c_12 => ?_) (fun c_12 => ?_)
  · have e0 : sp_cia b T c k r n = sp_bec b T c k (q_rt r (nI k) 0 n) := if_pos c_12
    have hd0 : q_d (sp_lk T k) = 0 := if_pos c_12
    refine j_iload_n dX4_reckonAbsent_18 rfl ?_
    refine j_iload_n dX4_reckonAbsent_19 rfl ?_
    refine j_iload dX4_reckonAbsent_20 rfl ?_
    refine j_iload_n dX4_reckonAbsent_22 rfl ?_
    refine j_callSN dX4_reckonAbsent_23 kX8_ruleTells lX4_58 stX8_ruleTells (c_X8_ruleTells_e hl _ _ _ _ _) (Nat.le_of_ble_eq_true rfl) ⟨(Nat.le_of_ble_eq_true rfl), (Nat.le_of_ble_eq_true rfl)⟩ rfl (Nat.le_of_ble_eq_true rfl) rfl rfl (fun _ _ h => h.elim) ?_
    rintro _ _ ⟨rfl, rfl⟩
    refine j_istore (lo' := [(5, _), (4, _), (0, _), (1, _), (2, _), (3, _)]) dX4_reckonAbsent_26 (by decide) rfl ?_
    refine j_iload dX4_reckonAbsent_28 rfl ?_
    refine j_sipush (v := (-1000)) dX4_reckonAbsent_30 (by decide) ?_
    refine j_icmp_eq (tgt := 52) dX4_reckonAbsent_33 (by decide) (fun c_33 => ?_) (fun c_33 => ?_)
    · have hsm : ¬ (q_rt r (nI k) (q_d (sp_lk T k)) n).getD (-1001) = -1001 := by rw [c_33]; decide
      have e1 := q_gs hsm
      rw [hd0] at e1 c_33
      have e2 : sp_cia b T c k r n = (some (-1000), T, c) := by rw [e0, e1, c_33]; exact sp_bec0 c_12
      refine j_iload dX4_reckonAbsent_52 rfl ?_
      refine j_iret dX4_reckonAbsent_54 rfl rfl ?_ (Nat.le_of_ble_eq_true rfl) (Nat.le_of_ble_eq_true rfl)
      first | exact ⟨rfl, rfl, (by rw [e2]; rfl), _, _, (by rw [e2]; exact ht9), (by rw [e2] <;> rfl)⟩ | exact ⟨rfl, rfl, (by rw [e2]; first | exact (congrArg (fun z => some (Value.int z)) c_41) | (rw [hd0, c_33]; rfl)), _, _, (by rw [e2]; exact ht), (by rw [e2] <;> rfl)⟩
    · have hnn : ¬ (q_rt r (nI k) (q_d (sp_lk T k)) n).getD (-1001) = -1000 := c_33
      refine j_iload dX4_reckonAbsent_36 rfl ?_
      refine j_sipush (v := (-1001)) dX4_reckonAbsent_38 (by decide) ?_
      refine j_icmp_eq (tgt := 52) dX4_reckonAbsent_41 (by decide) (fun c_41 => ?_) (fun c_41 => ?_)
      · have e1 := q_gn (m := -1001) (fun y hy => q_rtm (q_d_vl ht.1) hn hy) c_41
        rw [hd0] at e1
        have e2 : sp_cia b T c k r n = (none, T, c) := by rw [e0, e1]; rfl
        refine j_iload dX4_reckonAbsent_52 rfl ?_
        refine j_iret dX4_reckonAbsent_54 rfl rfl ?_ (Nat.le_of_ble_eq_true rfl) (Nat.le_of_ble_eq_true rfl)
        first | exact ⟨rfl, rfl, (by rw [e2]; rfl), _, _, (by rw [e2]; exact ht9), (by rw [e2] <;> rfl)⟩ | exact ⟨rfl, rfl, (by rw [e2]; first | exact (congrArg (fun z => some (Value.int z)) c_41) | (rw [hd0, c_33]; rfl)), _, _, (by rw [e2]; exact ht), (by rw [e2] <;> rfl)⟩
      · have hsm : ¬ (q_rt r (nI k) (q_d (sp_lk T k)) n).getD (-1001) = -1001 := c_41
        have hvl : z_vl ((q_rt r (nI k) (q_d (sp_lk T k)) n).getD (-1001)) := (q_rt_r (q_d_vl ht.1) hn (q_gs (m := -1001) hsm)).resolve_left hnn
        have e1 := q_gs hsm
        have e2 : sp_cia b T c k r n = (some ((q_rt r (nI k) (q_d (sp_lk T k)) n).getD (-1001)), sp_pt b T k ((q_rt r (nI k) (q_d (sp_lk T k)) n).getD (-1001)), z_bp c 5) := by rw [e0]; rw [hd0] at e1 hnn ⊢; rw [e1]; exact if_neg hnn
        refine j_aload_n dX4_reckonAbsent_44 rfl rfl ?_
        refine j_iload_n dX4_reckonAbsent_45 rfl ?_
        refine j_iload dX4_reckonAbsent_46 rfl ?_
        refine j_callV (q := (RX4, TX4, 5)) dX4_reckonAbsent_48 kX4_store lX4_62 inX4_store seX4_store rfl rfl (z_frame [0, 1, 2, 3, 4] rfl (by decide) (Nat.le_of_ble_eq_true rfl) (c_X4_store_e hl _ _ _ _ T k ((q_rt r (nI k) (q_d (sp_lk T k)) n).getD (-1001)) ht hk hvl)) (Nat.le_of_ble_eq_true rfl) ⟨(Nat.le_of_ble_eq_true rfl), (Nat.le_of_ble_eq_true rfl)⟩ rfl (Nat.le_of_ble_eq_true rfl) rfl rfl (fun _ _ h => h.elim) ?_
        rintro _ _ ⟨_, _, ⟨rfl, f9, g9, ht9, rfl⟩, rfl, rfl⟩
        refine j_w ([.inr (9, [_, _, _, _, _]), z_ia 20 _, z_ia 20 _, .inr (11, [_]), z_ia 7 _], z_no) rfl ?_
        refine j_pop dX4_reckonAbsent_51 rfl ?_
        refine j_iload dX4_reckonAbsent_52 rfl ?_
        refine j_iret dX4_reckonAbsent_54 rfl rfl ?_ (Nat.le_of_ble_eq_true rfl) (Nat.le_of_ble_eq_true rfl)
        first | exact ⟨rfl, rfl, (by rw [e2]; rfl), _, _, (by rw [e2]; exact ht9), (by rw [e2] <;> rfl)⟩ | exact ⟨rfl, rfl, (by rw [e2]; first | exact (congrArg (fun z => some (Value.int z)) c_41) | (rw [hd0, c_33]; rfl)), _, _, (by rw [e2]; exact ht), (by rw [e2] <;> rfl)⟩
  · have e0 : sp_cia b T c k r n = (some (sp_lk T k), T, c) := if_neg c_12
    refine j_iload dX4_reckonAbsent_15 rfl ?_
    refine j_iret dX4_reckonAbsent_17 rfl rfl ?_ (Nat.le_of_ble_eq_true rfl) (Nat.le_of_ble_eq_true rfl)
    exact ⟨rfl, rfl, (by rw [e0]; rfl), _, _, (by rw [e0]; exact ht), (by rw [e0] <;> rfl)⟩
set_option maxRecDepth 100000 in
set_option maxHeartbeats 8000000 in
theorem c_X4_reckon_e (hl : l.stackTraces = false) (b : Bool) (f g c : Nat → Int32) (T : List (Nat × Int32)) (k : Nat) (r n : Int32) (ht : z_tba f g T) (hk : k < 20) (hn : z_vl n) : z_CF G l mX4_reckon 14 0 0 [.inr (9, [.int (z_bi b), .ref 1, .ref 2, .ref 3, .int (nI (T).length)]), z_ia 20 f, z_ia 20 g, .inr (11, [.ref 4]), z_ia 7 c] [.ref 0, .int (nI k), .int r, .int n] (fun v L => v = some (.int ((sp_bec b T c k (q_rt r (nI k) (q_d (sp_lk T k)) n)).1.getD (-1001))) ∧ ∃ f' g' : Nat → Int32, z_tba f' g' (sp_bec b T c k (q_rt r (nI k) (q_d (sp_lk T k)) n)).2.1 ∧ L = [.inr (9, [.int (z_bi b), .ref 1, .ref 2, .ref 3, .int (nI ((sp_bec b T c k (q_rt r (nI k) (q_d (sp_lk T k)) n)).2.1).length)]), z_ia 20 f', z_ia 20 g', .inr (11, [.ref 4]), z_ia 7 (sp_bec b T c k (q_rt r (nI k) (q_d (sp_lk T k)) n)).2.2]) := by
  refine z_body hl (by decide) rfl (Nat.le_of_ble_eq_true rfl) ?_
  show z_J G l mX4_reckon (z_SF 14 0 0 [.inr (9, [.int (z_bi b), .ref 1, .ref 2, .ref 3, .int (nI (T).length)]), z_ia 20 f, z_ia 20 g, .inr (11, [.ref 4]), z_ia 7 c] (fun v L => v = some (.int ((sp_bec b T c k (q_rt r (nI k) (q_d (sp_lk T k)) n)).1.getD (-1001))) ∧ ∃ f' g' : Nat → Int32, z_tba f' g' (sp_bec b T c k (q_rt r (nI k) (q_d (sp_lk T k)) n)).2.1 ∧ L = [.inr (9, [.int (z_bi b), .ref 1, .ref 2, .ref 3, .int (nI ((sp_bec b T c k (q_rt r (nI k) (q_d (sp_lk T k)) n)).2.1).length)]), z_ia 20 f', z_ia 20 g', .inr (11, [.ref 4]), z_ia 7 (sp_bec b T c k (q_rt r (nI k) (q_d (sp_lk T k)) n)).2.2])) 0 [(0, _), (1, _), (2, _), (3, _)] [] _ 0 0
  have hln := ht.len
  refine j_aload_n dX4_reckon_0 rfl rfl ?_
  refine j_iload_n dX4_reckon_1 rfl ?_
  refine j_callV (q := (RX4, TX4, 5)) dX4_reckon_2 kX4_look lX4_37 inX4_look seX4_look rfl rfl (z_frame [0, 1, 2, 3, 4] rfl (by decide) (Nat.le_of_ble_eq_true rfl) (c_X4_look_e hl _ _ _ _ _ T k ht hk)) (Nat.le_of_ble_eq_true rfl) ⟨(Nat.le_of_ble_eq_true rfl), (Nat.le_of_ble_eq_true rfl)⟩ rfl (Nat.le_of_ble_eq_true rfl) rfl rfl (fun _ _ h => h.elim) ?_
  rintro _ _ ⟨_, _, ⟨rfl, rfl⟩, rfl, rfl⟩
  refine j_w ([.inr (9, [_, _, _, _, _]), z_ia 20 _, z_ia 20 _, .inr (11, [_]), z_ia 7 _], z_no) rfl ?_
  refine j_istore (lo' := [(4, _), (0, _), (1, _), (2, _), (3, _)]) dX4_reckon_5 (by decide) rfl ?_
  refine j_iload_n dX4_reckon_7 rfl ?_
  refine j_iload_n dX4_reckon_8 rfl ?_
  refine j_iload dX4_reckon_9 rfl ?_
  refine j_iload_n dX4_reckon_11 rfl ?_
  refine j_callSN dX4_reckon_12 kX8_ruleTells lX4_58 stX8_ruleTells (c_X8_ruleTells_e hl _ _ _ _ _) (Nat.le_of_ble_eq_true rfl) ⟨(Nat.le_of_ble_eq_true rfl), (Nat.le_of_ble_eq_true rfl)⟩ rfl (Nat.le_of_ble_eq_true rfl) rfl rfl (fun _ _ h => h.elim) ?_
  rintro _ _ ⟨rfl, rfl⟩
  refine j_istore (lo' := [(5, _), (4, _), (0, _), (1, _), (2, _), (3, _)]) dX4_reckon_15 (by decide) rfl ?_
  refine j_iload dX4_reckon_17 rfl ?_
  refine j_sipush (v := (-1001)) dX4_reckon_19 (by decide) ?_
  refine j_icmp_ne (tgt := 29) dX4_reckon_22 (by decide) (fun c_22 => ?_) (fun c_22 => ?_)
  · have hsm : ¬ (q_rt r (nI k) (q_d (sp_lk T k)) n).getD (-1001) = -1001 := c_22
    have e1 := q_gs hsm
    refine j_iload dX4_reckon_29 rfl ?_
    refine j_sipush (v := (-1000)) dX4_reckon_31 (by decide) ?_
    refine j_icmp_eq (tgt := 48) dX4_reckon_34 (by decide) (fun c_34 => ?_) (fun c_34 => ?_)
    · refine j_iload dX4_reckon_48 rfl ?_
      refine j_sipush (v := (-1000)) dX4_reckon_50 (by decide) ?_
      refine j_icmp_eq (tgt := 62) dX4_reckon_53 (by decide) (fun c_53 => ?_) (fun c_53 => ?_)
      · have e2 : sp_bec b T c k (q_rt r (nI k) (q_d (sp_lk T k)) n) = (some (-1000), T, c) := by rw [e1, c_34]; exact sp_bec0 c_53
        refine j_iload dX4_reckon_62 rfl ?_
        refine j_iret dX4_reckon_64 rfl rfl ?_ (Nat.le_of_ble_eq_true rfl) (Nat.le_of_ble_eq_true rfl)
        first | exact ⟨rfl, rfl, (by rw [e2]; first | rfl | (rw [c_34]; rfl)), _, _, (by rw [e2]; exact ht9), (by rw [e2] <;> rfl)⟩ | exact ⟨rfl, rfl, (by rw [e2, c_34]; rfl), _, _, (by rw [e2]; exact ht), (by rw [e2] <;> rfl)⟩
      · have e2 : sp_bec b T c k (q_rt r (nI k) (q_d (sp_lk T k)) n) = (some (-1000), sp_go T k, z_bp c 6) := by rw [e1, c_34]; exact sp_bec1 c_53
        refine j_aload_n dX4_reckon_56 rfl rfl ?_
        refine j_iload_n dX4_reckon_57 rfl ?_
        refine j_callV (q := (RX4, TX4, 5)) dX4_reckon_58 kX4_sendAway lX4_70 inX4_sendAway seX4_sendAway rfl rfl (z_frame [0, 1, 2, 3, 4] rfl (by decide) (Nat.le_of_ble_eq_true rfl) (c_X4_sendAway_e hl _ _ _ _ T k ht hk)) (Nat.le_of_ble_eq_true rfl) ⟨(Nat.le_of_ble_eq_true rfl), (Nat.le_of_ble_eq_true rfl)⟩ rfl (Nat.le_of_ble_eq_true rfl) rfl rfl (fun _ _ h => h.elim) ?_
        rintro _ _ ⟨_, _, ⟨rfl, f9, g9, ht9, rfl⟩, rfl, rfl⟩
        refine j_w ([.inr (9, [_, _, _, _, _]), z_ia 20 _, z_ia 20 _, .inr (11, [_]), z_ia 7 _], z_no) rfl ?_
        refine j_pop dX4_reckon_61 rfl ?_
        refine j_iload dX4_reckon_62 rfl ?_
        refine j_iret dX4_reckon_64 rfl rfl ?_ (Nat.le_of_ble_eq_true rfl) (Nat.le_of_ble_eq_true rfl)
        first | exact ⟨rfl, rfl, (by rw [e2]; first | rfl | (rw [c_34]; rfl)), _, _, (by rw [e2]; exact ht9), (by rw [e2] <;> rfl)⟩ | exact ⟨rfl, rfl, (by rw [e2, c_34]; rfl), _, _, (by rw [e2]; exact ht), (by rw [e2] <;> rfl)⟩
    · have hnn : ¬ (q_rt r (nI k) (q_d (sp_lk T k)) n).getD (-1001) = -1000 := c_34
      have hvl : z_vl ((q_rt r (nI k) (q_d (sp_lk T k)) n).getD (-1001)) := (q_rt_r (q_d_vl ht.1) hn (q_gs (m := -1001) hsm)).resolve_left hnn
      have e2 : sp_bec b T c k (q_rt r (nI k) (q_d (sp_lk T k)) n) = (some ((q_rt r (nI k) (q_d (sp_lk T k)) n).getD (-1001)), sp_pt b T k ((q_rt r (nI k) (q_d (sp_lk T k)) n).getD (-1001)), z_bp c 5) := by rw [e1]; exact if_neg hnn
      refine j_aload_n dX4_reckon_37 rfl rfl ?_
      refine j_iload_n dX4_reckon_38 rfl ?_
      refine j_iload dX4_reckon_39 rfl ?_
      refine j_callV (q := (RX4, TX4, 5)) dX4_reckon_41 kX4_store lX4_62 inX4_store seX4_store rfl rfl (z_frame [0, 1, 2, 3, 4] rfl (by decide) (Nat.le_of_ble_eq_true rfl) (c_X4_store_e hl _ _ _ _ T k ((q_rt r (nI k) (q_d (sp_lk T k)) n).getD (-1001)) ht hk hvl)) (Nat.le_of_ble_eq_true rfl) ⟨(Nat.le_of_ble_eq_true rfl), (Nat.le_of_ble_eq_true rfl)⟩ rfl (Nat.le_of_ble_eq_true rfl) rfl rfl (fun _ _ h => h.elim) ?_
      rintro _ _ ⟨_, _, ⟨rfl, f9, g9, ht9, rfl⟩, rfl, rfl⟩
      refine j_w ([.inr (9, [_, _, _, _, _]), z_ia 20 _, z_ia 20 _, .inr (11, [_]), z_ia 7 _], z_no) rfl ?_
      refine j_pop dX4_reckon_44 rfl ?_
      refine j_goto (tgt := 62) dX4_reckon_45 (by decide) ?_
      refine j_iload dX4_reckon_62 rfl ?_
      refine j_iret dX4_reckon_64 rfl rfl ?_ (Nat.le_of_ble_eq_true rfl) (Nat.le_of_ble_eq_true rfl)
      first | exact ⟨rfl, rfl, (by rw [e2]; first | rfl | (rw [c_34]; rfl)), _, _, (by rw [e2]; exact ht9), (by rw [e2] <;> rfl)⟩ | exact ⟨rfl, rfl, (by rw [e2, c_34]; rfl), _, _, (by rw [e2]; exact ht), (by rw [e2] <;> rfl)⟩
  · have e2 : sp_bec b T c k (q_rt r (nI k) (q_d (sp_lk T k)) n) = (none, T, c) := by rw [q_gn (m := -1001) (fun y hy => q_rtm (q_d_vl ht.1) hn hy) c_22]; rfl
    refine j_sipush (v := (-1001)) dX4_reckon_25 (by decide) ?_
    refine j_iret dX4_reckon_28 rfl rfl ?_ (Nat.le_of_ble_eq_true rfl) (Nat.le_of_ble_eq_true rfl)
    exact ⟨rfl, rfl, (by rw [e2]; rfl), _, _, (by rw [e2]; exact ht), (by rw [e2] <;> rfl)⟩
set_option maxRecDepth 100000 in
set_option maxHeartbeats 8000000 in
theorem c_X4_reckonPresent_e (hl : l.stackTraces = false) (b : Bool) (f g c : Nat → Int32) (T : List (Nat × Int32)) (k : Nat) (r n : Int32) (ht : z_tba f g T) (hk : k < 20) (hn : z_vl n) : z_CF G l mX4_reckonPresent 16 0 0 [.inr (9, [.int (z_bi b), .ref 1, .ref 2, .ref 3, .int (nI (T).length)]), z_ia 20 f, z_ia 20 g, .inr (11, [.ref 4]), z_ia 7 c] [.ref 0, .int (nI k), .int r, .int n] (fun v L => v = some (.int ((sp_cip b T c k r n).1.getD (-1001))) ∧ ∃ f' g' : Nat → Int32, z_tba f' g' (sp_cip b T c k r n).2.1 ∧ L = [.inr (9, [.int (z_bi b), .ref 1, .ref 2, .ref 3, .int (nI ((sp_cip b T c k r n).2.1).length)]), z_ia 20 f', z_ia 20 g', .inr (11, [.ref 4]), z_ia 7 (sp_cip b T c k r n).2.2]) := by
  refine z_body hl (by decide) rfl (Nat.le_of_ble_eq_true rfl) ?_
  show z_J G l mX4_reckonPresent (z_SF 16 0 0 [.inr (9, [.int (z_bi b), .ref 1, .ref 2, .ref 3, .int (nI (T).length)]), z_ia 20 f, z_ia 20 g, .inr (11, [.ref 4]), z_ia 7 c] (fun v L => v = some (.int ((sp_cip b T c k r n).1.getD (-1001))) ∧ ∃ f' g' : Nat → Int32, z_tba f' g' (sp_cip b T c k r n).2.1 ∧ L = [.inr (9, [.int (z_bi b), .ref 1, .ref 2, .ref 3, .int (nI ((sp_cip b T c k r n).2.1).length)]), z_ia 20 f', z_ia 20 g', .inr (11, [.ref 4]), z_ia 7 (sp_cip b T c k r n).2.2])) 0 [(0, _), (1, _), (2, _), (3, _)] [] _ 0 0
  have hln := ht.len
  refine j_aload_n dX4_reckonPresent_0 rfl rfl ?_
  refine j_iload_n dX4_reckonPresent_1 rfl ?_
  refine j_callV (q := (RX4, TX4, 5)) dX4_reckonPresent_2 kX4_look lX4_37 inX4_look seX4_look rfl rfl (z_frame [0, 1, 2, 3, 4] rfl (by decide) (Nat.le_of_ble_eq_true rfl) (c_X4_look_e hl _ _ _ _ _ T k ht hk)) (Nat.le_of_ble_eq_true rfl) ⟨(Nat.le_of_ble_eq_true rfl), (Nat.le_of_ble_eq_true rfl)⟩ rfl (Nat.le_of_ble_eq_true rfl) rfl rfl (fun _ _ h => h.elim) ?_
  rintro _ _ ⟨_, _, ⟨rfl, rfl⟩, rfl, rfl⟩
  refine j_w ([.inr (9, [_, _, _, _, _]), z_ia 20 _, z_ia 20 _, .inr (11, [_]), z_ia 7 _], z_no) rfl ?_
  refine j_sipush (v := (-1000)) dX4_reckonPresent_5 (by decide) ?_
  refine j_icmp_ne (tgt := 17) dX4_reckonPresent_8 (by decide) (fun c_8 => ?_) (fun c_8 => ?_)
  · have e0 : sp_cip b T c k r n = sp_bec b T c k (q_rt r (nI k) (q_d (sp_lk T k)) n) := by rw [q_dn c_8]; exact if_neg c_8
    refine j_aload_n dX4_reckonPresent_17 rfl rfl ?_
    refine j_iload_n dX4_reckonPresent_18 rfl ?_
    refine j_iload_n dX4_reckonPresent_19 rfl ?_
    refine j_iload_n dX4_reckonPresent_20 rfl ?_
    refine j_callV (q := (RX4, TX4, 5)) dX4_reckonPresent_21 kX4_reckon lX4_66 inX4_reckon seX4_reckon rfl rfl (z_frame [0, 1, 2, 3, 4] rfl (by decide) (Nat.le_of_ble_eq_true rfl) (c_X4_reckon_e hl _ _ _ _ T k r n ht hk hn)) (Nat.le_of_ble_eq_true rfl) ⟨(Nat.le_of_ble_eq_true rfl), (Nat.le_of_ble_eq_true rfl)⟩ rfl (Nat.le_of_ble_eq_true rfl) rfl rfl (fun _ _ h => h.elim) ?_
    rintro _ _ ⟨_, _, ⟨rfl, f9, g9, ht9, rfl⟩, rfl, rfl⟩
    refine j_w ([.inr (9, [_, _, _, _, _]), z_ia 20 _, z_ia 20 _, .inr (11, [_]), z_ia 7 _], z_no) rfl ?_
    refine j_iret dX4_reckonPresent_24 rfl rfl ?_ (Nat.le_of_ble_eq_true rfl) (Nat.le_of_ble_eq_true rfl)
    first | exact ⟨rfl, rfl, (by rw [e0] <;> rfl), _, _, (by rw [e0]; exact ht9), (by rw [e0] <;> rfl)⟩ | exact ⟨rfl, rfl, (by rw [e0]; rfl), _, _, (by rw [e0]; exact ht), (by rw [e0] <;> rfl)⟩
  · have e0 : sp_cip b T c k r n = (some (-1000), T, c) := if_pos c_8
    refine j_sipush (v := (-1000)) dX4_reckonPresent_11 (by decide) ?_
    refine j_goto (tgt := 24) dX4_reckonPresent_14 (by decide) ?_
    refine j_iret dX4_reckonPresent_24 rfl rfl ?_ (Nat.le_of_ble_eq_true rfl) (Nat.le_of_ble_eq_true rfl)
    first | exact ⟨rfl, rfl, (by rw [e0] <;> rfl), _, _, (by rw [e0]; exact ht9), (by rw [e0] <;> rfl)⟩ | exact ⟨rfl, rfl, (by rw [e0]; rfl), _, _, (by rw [e0]; exact ht), (by rw [e0] <;> rfl)⟩
set_option maxRecDepth 100000 in
set_option maxHeartbeats 8000000 in
theorem c_X4_join_e (hl : l.stackTraces = false) (b : Bool) (f g c : Nat → Int32) (T : List (Nat × Int32)) (k : Nat) (x r : Int32) (ht : z_tba f g T) (hk : k < 20) (hvl : z_vl x) : z_CF G l mX4_join 16 0 0 [.inr (9, [.int (z_bi b), .ref 1, .ref 2, .ref 3, .int (nI (T).length)]), z_ia 20 f, z_ia 20 g, .inr (11, [.ref 4]), z_ia 7 c] [.ref 0, .int (nI k), .int x, .int r] (fun v L => v = some (.int ((sp_mrg b T c k x r).1.getD (-1001))) ∧ ∃ f' g' : Nat → Int32, z_tba f' g' (sp_mrg b T c k x r).2.1 ∧ L = [.inr (9, [.int (z_bi b), .ref 1, .ref 2, .ref 3, .int (nI ((sp_mrg b T c k x r).2.1).length)]), z_ia 20 f', z_ia 20 g', .inr (11, [.ref 4]), z_ia 7 (sp_mrg b T c k x r).2.2]) := by
  refine z_body hl (by decide) rfl (Nat.le_of_ble_eq_true rfl) ?_
  show z_J G l mX4_join (z_SF 16 0 0 [.inr (9, [.int (z_bi b), .ref 1, .ref 2, .ref 3, .int (nI (T).length)]), z_ia 20 f, z_ia 20 g, .inr (11, [.ref 4]), z_ia 7 c] (fun v L => v = some (.int ((sp_mrg b T c k x r).1.getD (-1001))) ∧ ∃ f' g' : Nat → Int32, z_tba f' g' (sp_mrg b T c k x r).2.1 ∧ L = [.inr (9, [.int (z_bi b), .ref 1, .ref 2, .ref 3, .int (nI ((sp_mrg b T c k x r).2.1).length)]), z_ia 20 f', z_ia 20 g', .inr (11, [.ref 4]), z_ia 7 (sp_mrg b T c k x r).2.2])) 0 [(0, _), (1, _), (2, _), (3, _)] [] _ 0 0
  have hln := ht.len
  refine j_aload_n dX4_join_0 rfl rfl ?_
  refine j_iload_n dX4_join_1 rfl ?_
  refine j_callV (q := (RX4, TX4, 5)) dX4_join_2 kX4_look lX4_37 inX4_look seX4_look rfl rfl (z_frame [0, 1, 2, 3, 4] rfl (by decide) (Nat.le_of_ble_eq_true rfl) (c_X4_look_e hl _ _ _ _ _ T k ht hk)) (Nat.le_of_ble_eq_true rfl) ⟨(Nat.le_of_ble_eq_true rfl), (Nat.le_of_ble_eq_true rfl)⟩ rfl (Nat.le_of_ble_eq_true rfl) rfl rfl (fun _ _ h => h.elim) ?_
  rintro _ _ ⟨_, _, ⟨rfl, rfl⟩, rfl, rfl⟩
  refine j_w ([.inr (9, [_, _, _, _, _]), z_ia 20 _, z_ia 20 _, .inr (11, [_]), z_ia 7 _], z_no) rfl ?_
  refine j_sipush (v := (-1000)) dX4_join_5 (by decide) ?_
  refine j_icmp_eq (tgt := 19) dX4_join_8 (by decide) (fun c_8 => ?_) (fun c_8 => ?_)
  · have e0 : sp_mrg b T c k x r = (some x, sp_pt b T k x, z_bp c 5) := if_pos c_8
    refine j_aload_n dX4_join_19 rfl rfl ?_
    refine j_iload_n dX4_join_20 rfl ?_
    refine j_iload_n dX4_join_21 rfl ?_
    refine j_callV (q := (RX4, TX4, 5)) dX4_join_22 kX4_store lX4_62 inX4_store seX4_store rfl rfl (z_frame [0, 1, 2, 3, 4] rfl (by decide) (Nat.le_of_ble_eq_true rfl) (c_X4_store_e hl _ _ _ _ T k x ht hk hvl)) (Nat.le_of_ble_eq_true rfl) ⟨(Nat.le_of_ble_eq_true rfl), (Nat.le_of_ble_eq_true rfl)⟩ rfl (Nat.le_of_ble_eq_true rfl) rfl rfl (fun _ _ h => h.elim) ?_
    rintro _ _ ⟨_, _, ⟨rfl, f9, g9, ht9, rfl⟩, rfl, rfl⟩
    refine j_w ([.inr (9, [_, _, _, _, _]), z_ia 20 _, z_ia 20 _, .inr (11, [_]), z_ia 7 _], z_no) rfl ?_
    refine j_pop dX4_join_25 rfl ?_
    refine j_iload_n dX4_join_26 rfl ?_
    refine j_iret dX4_join_27 rfl rfl ?_ (Nat.le_of_ble_eq_true rfl) (Nat.le_of_ble_eq_true rfl)
    exact ⟨rfl, rfl, (by rw [e0] <;> rfl), _, _, (by rw [e0]; exact ht9), (by rw [e0] <;> rfl)⟩
  · have e0 : sp_mrg b T c k x r = sp_bec b T c k (q_rt r (nI k) (q_d (sp_lk T k)) x) := by rw [q_dn c_8]; exact if_neg c_8
    refine j_aload_n dX4_join_11 rfl rfl ?_
    refine j_iload_n dX4_join_12 rfl ?_
    refine j_iload_n dX4_join_13 rfl ?_
    refine j_iload_n dX4_join_14 rfl ?_
    refine j_callV (q := (RX4, TX4, 5)) dX4_join_15 kX4_reckon lX4_66 inX4_reckon seX4_reckon rfl rfl (z_frame [0, 1, 2, 3, 4] rfl (by decide) (Nat.le_of_ble_eq_true rfl) (c_X4_reckon_e hl _ _ _ _ T k r x ht hk hvl)) (Nat.le_of_ble_eq_true rfl) ⟨(Nat.le_of_ble_eq_true rfl), (Nat.le_of_ble_eq_true rfl)⟩ rfl (Nat.le_of_ble_eq_true rfl) rfl rfl (fun _ _ h => h.elim) ?_
    rintro _ _ ⟨_, _, ⟨rfl, f9, g9, ht9, rfl⟩, rfl, rfl⟩
    refine j_w ([.inr (9, [_, _, _, _, _]), z_ia 20 _, z_ia 20 _, .inr (11, [_]), z_ia 7 _], z_no) rfl ?_
    refine j_iret dX4_join_18 rfl rfl ?_ (Nat.le_of_ble_eq_true rfl) (Nat.le_of_ble_eq_true rfl)
    exact ⟨rfl, rfl, (by rw [e0] <;> rfl), _, _, (by rw [e0]; exact ht9), (by rw [e0] <;> rfl)⟩
end ZCt
