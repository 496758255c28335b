section ZCp2
variable {G : z_G} {l : Launch}
set_option maxRecDepth 100000 in
set_option maxHeartbeats 8000000 in
theorem c_X8_checkRule_e (hl : l.stackTraces = false) (w : z_W) (a : Int32)  : z_Con G l mX8_checkRule 10 1 6 w [.int a] (fun v w9 => (v = none ∧ ¬ a = 0) ∧ w9 = w) (fun E w9 => (z_xA E ∧ a = 0) ∧ w9 = w) := by
  refine z_body hl (by decide) rfl (Nat.le_of_ble_eq_true rfl) ?_
  show z_J G l mX8_checkRule ((10, 1, 6, w, (fun v w9 => (v = none ∧ ¬ a = 0) ∧ w9 = w), fun E w9 => (z_xA E ∧ a = 0) ∧ w9 = w)) 0 [(0, _)] [] _ 0 0
  refine j_iload_n dX8_checkRule_0 rfl ?_
  refine j_if_ne (tgt := 15) dX8_checkRule_1 (by decide) (fun c_1 => ?_) (fun c_1 => ?_)
  · refine j_vret dX8_checkRule_15 rfl ?_ (Nat.le_of_ble_eq_true rfl) (Nat.le_of_ble_eq_true rfl)
    exact ⟨⟨rfl, c_1⟩, rfl⟩
  · exact j_throwSW (text := "the rule is not one of these") rfl th_A (by decide +kernel) dX8_checkRule_4 dX8_checkRule_7 dX8_checkRule_8 dX8_checkRule_11 dX8_checkRule_14 (Nat.le_of_ble_eq_true rfl) (Nat.le_of_ble_eq_true rfl) ⟨⟨rfl, c_1⟩, rfl⟩ (Nat.le_of_ble_eq_true rfl) (Nat.le_of_ble_eq_true rfl)
set_option maxRecDepth 100000 in
set_option maxHeartbeats 8000000 in
theorem c_X8_spanLength_e (hl : l.stackTraces = false) (w : z_W) (a b c : Int32) (hc : ¬ c < 1) : z_Con G l mX8_spanLength 10 0 0 w [.int a, .int b, .int c] (fun v w9 => (v = some (.int (z_mny a b c))) ∧ w9 = w) (fun _ _ => False) := by
  refine z_body hl (by decide) rfl (Nat.le_of_ble_eq_true rfl) ?_
  show z_J G l mX8_spanLength ((10, 0, 0, w, (fun v w9 => (v = some (.int (z_mny a b c))) ∧ w9 = w), fun _ _ => False)) 0 [(0, _), (1, _), (2, _)] [] _ 0 0
  refine j_iload_n dX8_spanLength_0 rfl ?_
  refine j_iload_n dX8_spanLength_1 rfl ?_
  refine j_icmp_gt (tgt := 10) dX8_spanLength_2 (by decide) (fun c_2 => ?_) (fun c_2 => ?_)
  · have e9 : z_mny a b c = 0 := if_neg (Int32.not_le.mpr c_2)
    refine j_iconst (v := 0) dX8_spanLength_10 (by decide) ?_
    refine j_goto (tgt := 21) dX8_spanLength_11 (by decide) ?_
    refine j_iret dX8_spanLength_21 rfl rfl ?_ (Nat.le_of_ble_eq_true rfl) (Nat.le_of_ble_eq_true rfl)
    exact ⟨by rw [e9], rfl⟩
  · have e9 : z_mny a b c = (b - a) / c + 1 := if_pos (Int32.not_lt.mp c_2)
    refine j_iload_n dX8_spanLength_5 rfl ?_
    refine j_iconst (v := 1) dX8_spanLength_6 (by decide) ?_
    refine j_icmp_ge (tgt := 14) dX8_spanLength_7 (by decide) (fun c_7 => ?_) (fun c_7 => ?_)
    · refine j_iload_n dX8_spanLength_14 rfl ?_
      refine j_iload_n dX8_spanLength_15 rfl ?_
      refine j_isub dX8_spanLength_16 ?_
      refine j_iload_n dX8_spanLength_17 rfl ?_
      refine j_idiv dX8_spanLength_18 (by rintro rfl; exact hc (by decide)) ?_
      refine j_iconst (v := 1) dX8_spanLength_19 (by decide) ?_
      refine j_iadd dX8_spanLength_20 ?_
      refine j_iret dX8_spanLength_21 rfl rfl ?_ (Nat.le_of_ble_eq_true rfl) (Nat.le_of_ble_eq_true rfl)
      exact ⟨by rw [e9], rfl⟩
    · exact absurd (Int32.not_le.mp c_7) hc
set_option maxRecDepth 100000 in
set_option maxHeartbeats 8000000 in
theorem c_X8_checkSpan_e (hl : l.stackTraces = false) (w : z_W) (a b c : Int32)  : z_Con G l mX8_checkSpan 12 4 24 w [.int a, .int b, .int c] (fun v w9 => (v = none ∧ ¬ sp_bsp a b c) ∧ w9 = w) (fun E w9 => (z_xA E ∧ sp_bsp a b c) ∧ w9 = w) := by
  refine z_body hl (by decide) rfl (Nat.le_of_ble_eq_true rfl) ?_
  show z_J G l mX8_checkSpan ((12, 4, 24, w, (fun v w9 => (v = none ∧ ¬ sp_bsp a b c) ∧ w9 = w), fun E w9 => (z_xA E ∧ sp_bsp a b c) ∧ w9 = w)) 0 [(0, _), (1, _), (2, _)] [] _ 0 0
  refine j_iload_n dX8_checkSpan_0 rfl ?_
  refine j_callS dX8_checkSpan_1 kX8_checkValue lX8_50 stX8_checkValue (c_X8_checkValue_e hl _ _) (Nat.le_of_ble_eq_true rfl) ⟨(Nat.le_of_ble_eq_true rfl), (Nat.le_of_ble_eq_true rfl)⟩ rfl (Nat.le_of_ble_eq_true rfl) rfl rfl (fun _ _ h => ⟨(fun h1 => ⟨h1.1, Or.inl h1.2⟩) h.1, h.2⟩) ?_
  rintro _ _ ⟨⟨rfl, hc1⟩, rfl⟩
  refine j_iload_n dX8_checkSpan_4 rfl ?_
  refine j_callS dX8_checkSpan_5 kX8_checkValue lX8_50 stX8_checkValue (c_X8_checkValue_e hl _ _) (Nat.le_of_ble_eq_true rfl) ⟨(Nat.le_of_ble_eq_true rfl), (Nat.le_of_ble_eq_true rfl)⟩ rfl (Nat.le_of_ble_eq_true rfl) rfl rfl (fun _ _ h => ⟨(fun h1 => ⟨h1.1, Or.inr (Or.inl h1.2)⟩) h.1, h.2⟩) ?_
  rintro _ _ ⟨⟨rfl, hc5⟩, rfl⟩
  refine j_iload_n dX8_checkSpan_8 rfl ?_
  refine j_iconst (v := 1) dX8_checkSpan_9 (by decide) ?_
  refine j_bipush (v := 99) dX8_checkSpan_10 (by decide) ?_
  refine j_callS dX8_checkSpan_12 kX8_checkRange lX8_72 stX8_checkRange (c_X8_checkRange_e hl _ _ _ _) (Nat.le_of_ble_eq_true rfl) ⟨(Nat.le_of_ble_eq_true rfl), (Nat.le_of_ble_eq_true rfl)⟩ rfl (Nat.le_of_ble_eq_true rfl) rfl rfl (fun _ _ h => ⟨(fun h1 => ⟨h1.1, Or.inr (Or.inr (Or.inl h1.2))⟩) h.1, h.2⟩) ?_
  rintro _ _ ⟨⟨rfl, hc12⟩, rfl⟩
  refine j_iload_n dX8_checkSpan_15 rfl ?_
  refine j_iload_n dX8_checkSpan_16 rfl ?_
  refine j_iload_n dX8_checkSpan_17 rfl ?_
  refine j_callS dX8_checkSpan_18 kX8_spanLength lX8_176 stX8_spanLength (c_X8_spanLength_e hl _ _ _ _ (fun z => hc12 (Or.inl z))) (Nat.le_of_ble_eq_true rfl) ⟨(Nat.le_of_ble_eq_true rfl), (Nat.le_of_ble_eq_true rfl)⟩ rfl (Nat.le_of_ble_eq_true rfl) rfl rfl (fun _ _ h => h.elim) ?_
  rintro _ _ ⟨rfl, rfl⟩
  refine j_iconst (v := 0) dX8_checkSpan_21 (by decide) ?_
  refine j_bipush (v := 40) dX8_checkSpan_22 (by decide) ?_
  refine j_callS dX8_checkSpan_24 kX8_checkRange lX8_72 stX8_checkRange (c_X8_checkRange_e hl _ _ _ _) (Nat.le_of_ble_eq_true rfl) ⟨(Nat.le_of_ble_eq_true rfl), (Nat.le_of_ble_eq_true rfl)⟩ rfl (Nat.le_of_ble_eq_true rfl) rfl rfl (fun _ _ h => ⟨(fun h1 => ⟨h1.1, Or.inr (Or.inr (Or.inr h1.2))⟩) h.1, h.2⟩) ?_
  rintro _ _ ⟨⟨rfl, hc24⟩, rfl⟩
  refine j_vret dX8_checkSpan_27 rfl ?_ (Nat.le_of_ble_eq_true rfl) (Nat.le_of_ble_eq_true rfl)
  exact ⟨⟨rfl, fun z => z.elim hc1 (fun z => z.elim hc5 (fun z => z.elim hc12 hc24))⟩, rfl⟩
theorem sp_plc {p : Int32} {n : Nat} (hn : n ≤ 12) : (0 ≤ p ∧ p < nI n) ↔ ¬ (p < 0 ∨ nI n - 1 < p) := by
  have e1 : (nI n).toInt = n := nI_toInt (by omega)
  have e2 : (nI n - 1).toInt = (n : Int) - 1 := pk_sub_toInt (a := n) (b := 1) (by omega) (by decide)
  simp only [Int32.lt_iff_toInt_lt, Int32.le_iff_toInt_le, e1, e2, show (0 : Int32).toInt = 0 from rfl]
  omega
set_option maxRecDepth 100000 in
set_option maxHeartbeats 8000000 in
theorem c_X1_isPlace_g_e (hl : l.stackTraces = false) (x : Bool) (f c : Nat → Int32) (M : Nat) (p : Int32) (h12 : M ≤ 12) : z_CF G l mX1_isPlace 10 0 0 [.inr (6, [.ref 1, .ref 2, .int (nI M), .int (z_bi x)]), z_ia 12 f, .inr (11, [.ref 3]), z_ia 7 c] [.ref 0, .int p] (fun v L => v = some (.int (z_bi (decide (0 ≤ p ∧ p < nI M)))) ∧ L = [.inr (6, [.ref 1, .ref 2, .int (nI M), .int (z_bi x)]), z_ia 12 f, .inr (11, [.ref 3]), z_ia 7 c]) := by
  refine z_body hl (by decide) rfl (Nat.le_of_ble_eq_true rfl) ?_
  show z_J G l mX1_isPlace (z_SF 10 0 0 [.inr (6, [.ref 1, .ref 2, .int (nI M), .int (z_bi x)]), z_ia 12 f, .inr (11, [.ref 3]), z_ia 7 c] (fun v L => v = some (.int (z_bi (decide (0 ≤ p ∧ p < nI M)))) ∧ L = [.inr (6, [.ref 1, .ref 2, .int (nI M), .int (z_bi x)]), z_ia 12 f, .inr (11, [.ref 3]), z_ia 7 c])) 0 [(0, _), (1, _)] [] _ 0 0
  refine j_iload_n dX1_isPlace_0 rfl ?_
  refine j_if_lt (tgt := 25) dX1_isPlace_1 (by decide) (fun c_1 => ?_) (fun c_1 => ?_)
  · have e9 : decide (0 ≤ p ∧ p < nI M) = false := decide_eq_false (fun z => absurd c_1 (Int32.not_lt.mpr z.1))
    refine j_iconst (v := 0) dX1_isPlace_25 (by decide) ?_
    refine j_iret dX1_isPlace_26 rfl rfl ?_ (Nat.le_of_ble_eq_true rfl) (Nat.le_of_ble_eq_true rfl)
    exact ⟨rfl, (by first | exact z_cwl | rfl), (by rw [e9] <;> rfl), rfl⟩
  · refine j_iload_n dX1_isPlace_4 rfl ?_
    refine j_aload_n dX1_isPlace_5 rfl rfl ?_
    refine j_getf dX1_isPlace_6 fX1_22 rfl rfl ?_
    refine j_icmp_ge (tgt := 25) dX1_isPlace_9 (by decide) (fun c_9 => ?_) (fun c_9 => ?_)
    · have e9 : decide (0 ≤ p ∧ p < nI M) = false := decide_eq_false (fun z => absurd z.2 (Int32.not_lt.mpr c_9))
      refine j_iconst (v := 0) dX1_isPlace_25 (by decide) ?_
      refine j_iret dX1_isPlace_26 rfl rfl ?_ (Nat.le_of_ble_eq_true rfl) (Nat.le_of_ble_eq_true rfl)
      exact ⟨rfl, (by first | exact z_cwl | rfl), (by rw [e9] <;> rfl), rfl⟩
    · have e9 : decide (0 ≤ p ∧ p < nI M) = true := decide_eq_true ⟨Int32.not_lt.mp c_1, Int32.not_le.mp c_9⟩
      refine j_iload_n dX1_isPlace_12 rfl ?_
      refine j_aload_n dX1_isPlace_13 rfl rfl ?_
      refine j_getf dX1_isPlace_14 fX1_9 rfl rfl ?_
      refine j_alen dX1_isPlace_17 rfl rfl rfl ?_
      refine j_icmp_ge (tgt := 25) dX1_isPlace_18 (by decide) (fun c_18 => ?_) (fun c_18 => ?_)
      · exact absurd (Int32.lt_iff_toInt_lt.mp (Int32.not_le.mp c_9)) (by have h9 := Int32.le_iff_toInt_le.mp c_18; rw [show (Int32.ofNat 12).toInt = 12 from rfl] at h9; rw [nI_toInt (by omega)]; omega)
      · refine j_iconst (v := 1) dX1_isPlace_21 (by decide) ?_
        refine j_goto (tgt := 26) dX1_isPlace_22 (by decide) ?_
        refine j_iret dX1_isPlace_26 rfl rfl ?_ (Nat.le_of_ble_eq_true rfl) (Nat.le_of_ble_eq_true rfl)
        exact ⟨rfl, (by first | exact z_cwl | rfl), (by rw [e9] <;> rfl), rfl⟩
set_option maxRecDepth 100000 in
set_option maxHeartbeats 8000000 in
theorem c_X8_at_p (hl : l.stackTraces = false) (S : sp_S) (fa : Nat → Int32) (fb : Nat → Int32) (mt : Int32) (ft : Nat → Int32) (ct : Nat → Int32) (f0 : Nat → Int32) (g0 : Nat → Int32) (f1 : Nat → Int32) (g1 : Nat → Int32) (c1 : Nat → Int32) (f2 : Nat → Int32) (g2 : Nat → Int32) (c2 : Nat → Int32) (f3 : Nat → Int32) (g3 : Nat → Int32) (c3 : Nat → Int32) (m3 : Int32) (f4 : Nat → Int32) (g4 : Nat → Int32) (c4 : Nat → Int32) (m4 : Int32) (f5 : Nat → Int32) (g5 : Nat → Int32) (c5 : Nat → Int32) (m5 : Int32) (ef0 : Nat → Int32) (ef1 : Nat → Int32) (r : Int32) (p : Int32) (ok : sp_ok S) (hra : z_row 12 (nI (sp_R S 0).length) fa (sp_R S 0)) (hrb : z_row 12 (nI (sp_R S 1).length) fb (sp_R S 1)) (ht0 : z_tba f0 g0 (sp_T S 0)) (ht1 : z_tba f1 g1 (sp_T S 1)) (ht2 : z_tba f2 g2 (sp_T S 2)) (he0 : z_row 10 (nI (sp_E S 0).2.length) ef0 (sp_E S 0).2) (he1 : z_row 10 (nI (sp_E S 1).2.length) ef1 (sp_E S 1).2) (hzm3 : z_m20 m3) (hzm4 : z_m20 m4) (hzm5 : z_m20 m5) : z_CX G l mX8_at 20 14 120 (z_cw S.1.1 S.1.2 (nI (sp_R S 0).length) (sp_F S 0) fa (sp_C S 0) (nI (sp_R S 1).length) (sp_F S 1) fb (sp_C S 1) mt false ft ct f0 g0 (sp_C S 2) (nI (sp_T S 0).length) 0 f1 g1 c1 (nI (sp_T S 1).length) 0 f2 g2 c2 (nI (sp_T S 2).length) 1 f3 g3 c3 m3 0 f4 g4 c4 m4 0 f5 g5 c5 m5 1 (nI (sp_E S 0).2.length) (sp_E S 0).1.2.1 (sp_E S 0).1.2.2.1 (sp_E S 0).1.2.2.2 (sp_E S 0).1.1 ef0 (nI (sp_E S 1).2.length) (sp_E S 1).1.2.1 (sp_E S 1).1.2.2.1 (sp_E S 1).1.2.2.2 (sp_E S 1).1.1 ef1 []) [.ref 0, .int r, .int p] (fun v L => sp_k21 r (p < 0 ∨ nI (sp_R S (sp_i r)).length - 1 < p) = 0 ∧ v = some (.int (((sp_R S (sp_i r))[sp_i p]?).getD 0)) ∧ sp_CW (S) L) (fun E L => ((z_xI E ∧ sp_k21 r (p < 0 ∨ nI (sp_R S (sp_i r)).length - 1 < p) = 1)) ∧ L = (z_cw S.1.1 S.1.2 (nI (sp_R S 0).length) (sp_F S 0) fa (sp_C S 0) (nI (sp_R S 1).length) (sp_F S 1) fb (sp_C S 1) mt false ft ct f0 g0 (sp_C S 2) (nI (sp_T S 0).length) 0 f1 g1 c1 (nI (sp_T S 1).length) 0 f2 g2 c2 (nI (sp_T S 2).length) 1 f3 g3 c3 m3 0 f4 g4 c4 m4 0 f5 g5 c5 m5 1 (nI (sp_E S 0).2.length) (sp_E S 0).1.2.1 (sp_E S 0).1.2.2.1 (sp_E S 0).1.2.2.2 (sp_E S 0).1.1 ef0 (nI (sp_E S 1).2.length) (sp_E S 1).1.2.1 (sp_E S 1).1.2.2.1 (sp_E S 1).1.2.2.2 (sp_E S 1).1.1 ef1 [])) := by
  refine z_body hl (by decide) rfl (Nat.le_of_ble_eq_true rfl) ?_
  show z_J G l mX8_at (z_SX 20 14 120 (z_cw S.1.1 S.1.2 (nI (sp_R S 0).length) (sp_F S 0) fa (sp_C S 0) (nI (sp_R S 1).length) (sp_F S 1) fb (sp_C S 1) mt false ft ct f0 g0 (sp_C S 2) (nI (sp_T S 0).length) 0 f1 g1 c1 (nI (sp_T S 1).length) 0 f2 g2 c2 (nI (sp_T S 2).length) 1 f3 g3 c3 m3 0 f4 g4 c4 m4 0 f5 g5 c5 m5 1 (nI (sp_E S 0).2.length) (sp_E S 0).1.2.1 (sp_E S 0).1.2.2.1 (sp_E S 0).1.2.2.2 (sp_E S 0).1.1 ef0 (nI (sp_E S 1).2.length) (sp_E S 1).1.2.1 (sp_E S 1).1.2.2.1 (sp_E S 1).1.2.2.2 (sp_E S 1).1.1 ef1 []) (fun v L => sp_k21 r (p < 0 ∨ nI (sp_R S (sp_i r)).length - 1 < p) = 0 ∧ v = some (.int (((sp_R S (sp_i r))[sp_i p]?).getD 0)) ∧ sp_CW (S) L) (fun E L => ((z_xI E ∧ sp_k21 r (p < 0 ∨ nI (sp_R S (sp_i r)).length - 1 < p) = 1)) ∧ L = (z_cw S.1.1 S.1.2 (nI (sp_R S 0).length) (sp_F S 0) fa (sp_C S 0) (nI (sp_R S 1).length) (sp_F S 1) fb (sp_C S 1) mt false ft ct f0 g0 (sp_C S 2) (nI (sp_T S 0).length) 0 f1 g1 c1 (nI (sp_T S 1).length) 0 f2 g2 c2 (nI (sp_T S 2).length) 1 f3 g3 c3 m3 0 f4 g4 c4 m4 0 f5 g5 c5 m5 1 (nI (sp_E S 0).2.length) (sp_E S 0).1.2.1 (sp_E S 0).1.2.2.1 (sp_E S 0).1.2.2.2 (sp_E S 0).1.1 ef0 (nI (sp_E S 1).2.length) (sp_E S 1).1.2.1 (sp_E S 1).1.2.2.1 (sp_E S 1).1.2.2.2 (sp_E S 1).1.1 ef1 []))) 0 [(0, _), (1, _), (2, _)] [] _ 0 0
  refine j_aload_n dX8_at_0 rfl rfl ?_
  refine j_iload_n dX8_at_1 rfl ?_
  refine j_callV (q := (RX8, TX8, 9)) dX8_at_2 kX8_rowFor lX8_46 inX8_rowFor seX8_rowFor rfl rfl (z_dirX (c_X8_rowFor_e hl _ _ _ _ _ _ _ _ _ _ _ _ _ _ _ _ _ _ _ _ _ _ _ _ _ _ _ _ _ _ _ _ _ _ _ _ _ _ _ _ _ _ _ _ _ _ _ _ _ _ _ _ _ _ _ _ _)) (Nat.le_of_ble_eq_true rfl) ⟨(Nat.le_of_ble_eq_true rfl), (Nat.le_of_ble_eq_true rfl)⟩ rfl (Nat.le_of_ble_eq_true rfl) rfl rfl (fun _ _ h => by obtain ⟨_, ⟨h1, rfl⟩, rfl⟩ := h; exact ⟨rfl, rfl, ⟨h1.1, sp_k21_1 h1.2⟩, rfl⟩) ?_
  rintro _ _ ⟨_, ⟨_, rfl, hr, rfl⟩, rfl⟩
  rcases hr with ⟨e_2, rfl⟩ | ⟨e_2, rfl⟩
  · subst e_2
    refine j_astore_n (lo' := [(3, _), (0, _), (1, _), (2, _)]) dX8_at_5 rfl (by decide) rfl ?_
    refine j_aload_n dX8_at_6 rfl rfl ?_
    refine j_iload_n dX8_at_7 rfl ?_
    refine j_callV (q := (RX1, TX1, 4)) dX8_at_8 kX1_isPlace lX8_194 inX1_isPlace seX1_isPlace rfl rfl (z_frame [2, 3, 4, 5] rfl (by decide) (Nat.le_of_ble_eq_true rfl) (c_X1_isPlace_g_e hl _ _ _ (sp_R S 0).length p hra.2.1)) (Nat.le_of_ble_eq_true rfl) ⟨(Nat.le_of_ble_eq_true rfl), (Nat.le_of_ble_eq_true rfl)⟩ rfl (Nat.le_of_ble_eq_true rfl) rfl rfl (fun _ _ h => h.elim) ?_
    rintro _ _ ⟨_, _, ⟨rfl, rfl⟩, rfl, rfl⟩
    refine j_ws (L' := z_cw _ _ _ _ _ _ _ _ _ _ _ _ _ _ _ _ _ _ _ _ _ _ _ _ _ _ _ _ _ _ _ _ _ _ _ _ _ _ _ _ _ _ _ _ _ _ _ _ _ _ _ _ _ _ _ _ []) (by decide) rfl rfl ?_
    refine j_if_ne (tgt := 24) dX8_at_11 (by decide) (fun c_11 => ?_) (fun c_11 => ?_)
    · have hb11 := z_bt c_11
      have hpp : ¬ (p < 0 ∨ nI (sp_R S 0).length - 1 < p) := (sp_plc hra.2.1).mp (of_decide_eq_true hb11)
      have hp0 : ¬ (p < 0 ∨ nI (sp_R S 0).length - 1 < p) := hpp
      obtain ⟨k, hk, rfl⟩ := z_natm (n := (sp_R S 0).length) (by have := hra.2.1; omega) (q_nor hp0)
      refine j_aload_n dX8_at_24 rfl rfl ?_
      refine j_iload_n dX8_at_25 rfl ?_
      refine j_callV (q := (RX1, TX1, 4)) dX8_at_26 kX1_valueAt lX8_203 inX1_valueAt seX1_valueAt rfl rfl (z_frame [2, 3, 4, 5] rfl (by decide) (Nat.le_of_ble_eq_true rfl) (c_X1_valueAt_e hl _ _ _ (sp_R S 0) (sp_R S 0).length k hra rfl hk)) (Nat.le_of_ble_eq_true rfl) ⟨(Nat.le_of_ble_eq_true rfl), (Nat.le_of_ble_eq_true rfl)⟩ rfl (Nat.le_of_ble_eq_true rfl) rfl rfl (fun _ _ h => h.elim) ?_
      rintro _ _ ⟨_, _, ⟨rfl, rfl⟩, rfl, rfl⟩
      refine j_ws (L' := z_cw _ _ _ _ _ _ _ _ _ _ _ _ _ _ _ _ _ _ _ _ _ _ _ _ _ _ _ _ _ _ _ _ _ _ _ _ _ _ _ _ _ _ _ _ _ _ _ _ _ _ _ _ _ _ _ _ []) (by decide) rfl rfl ?_
      refine j_iret dX8_at_29 rfl rfl ?_ (Nat.le_of_ble_eq_true rfl) (Nat.le_of_ble_eq_true rfl)
      refine ⟨rfl, (by first | exact z_cwl | rfl), ?_⟩
      rw [sp_i0, sp_in' (n := k) (by have := hra.2.1; omega), hra.2.2 k hk]
      exact ⟨sp_k21_0 (Or.inl rfl) hpp, rfl, (sp_CWe hra hrb ht0 ht1 ht2 he0 he1 hzm3 hzm4 hzm5 rfl)⟩
    · have hb11 := z_bF c_11
      have hpn : p < 0 ∨ nI (sp_R S 0).length - 1 < p := Decidable.of_not_not (fun z => of_decide_eq_false hb11 ((sp_plc hra.2.1).mpr z))
      exact j_throwS (text := "there is no such place") rfl th_I (by decide +kernel) dX8_at_14 dX8_at_17 dX8_at_18 dX8_at_20 dX8_at_23 (Nat.le_of_ble_eq_true rfl) (Nat.le_of_ble_eq_true rfl) ⟨rfl, rfl, ⟨rfl, sp_k21_2 (Or.inl rfl) (by rw [sp_i0]; exact hpn)⟩, rfl⟩ (Nat.le_of_ble_eq_true rfl) (Nat.le_of_ble_eq_true rfl)
  · subst e_2
    refine j_astore_n (lo' := [(3, _), (0, _), (1, _), (2, _)]) dX8_at_5 rfl (by decide) rfl ?_
    refine j_aload_n dX8_at_6 rfl rfl ?_
    refine j_iload_n dX8_at_7 rfl ?_
    refine j_callV (q := (RX1, TX1, 4)) dX8_at_8 kX1_isPlace lX8_194 inX1_isPlace seX1_isPlace rfl rfl (z_frame [6, 7, 8, 9] rfl (by decide) (Nat.le_of_ble_eq_true rfl) (c_X1_isPlace_g_e hl _ _ _ (sp_R S 1).length p hrb.2.1)) (Nat.le_of_ble_eq_true rfl) ⟨(Nat.le_of_ble_eq_true rfl), (Nat.le_of_ble_eq_true rfl)⟩ rfl (Nat.le_of_ble_eq_true rfl) rfl rfl (fun _ _ h => h.elim) ?_
    rintro _ _ ⟨_, _, ⟨rfl, rfl⟩, rfl, rfl⟩
    refine j_ws (L' := z_cw _ _ _ _ _ _ _ _ _ _ _ _ _ _ _ _ _ _ _ _ _ _ _ _ _ _ _ _ _ _ _ _ _ _ _ _ _ _ _ _ _ _ _ _ _ _ _ _ _ _ _ _ _ _ _ _ []) (by decide) rfl rfl ?_
    refine j_if_ne (tgt := 24) dX8_at_11 (by decide) (fun c_11 => ?_) (fun c_11 => ?_)
    · have hb11 := z_bt c_11
      have hpp : ¬ (p < 0 ∨ nI (sp_R S 1).length - 1 < p) := (sp_plc hrb.2.1).mp (of_decide_eq_true hb11)
      have hp0 : ¬ (p < 0 ∨ nI (sp_R S 1).length - 1 < p) := hpp
      obtain ⟨k, hk, rfl⟩ := z_natm (n := (sp_R S 1).length) (by have := hrb.2.1; omega) (q_nor hp0)
      refine j_aload_n dX8_at_24 rfl rfl ?_
      refine j_iload_n dX8_at_25 rfl ?_
      refine j_callV (q := (RX1, TX1, 4)) dX8_at_26 kX1_valueAt lX8_203 inX1_valueAt seX1_valueAt rfl rfl (z_frame [6, 7, 8, 9] rfl (by decide) (Nat.le_of_ble_eq_true rfl) (c_X1_valueAt_e hl _ _ _ (sp_R S 1) (sp_R S 1).length k hrb rfl hk)) (Nat.le_of_ble_eq_true rfl) ⟨(Nat.le_of_ble_eq_true rfl), (Nat.le_of_ble_eq_true rfl)⟩ rfl (Nat.le_of_ble_eq_true rfl) rfl rfl (fun _ _ h => h.elim) ?_
      rintro _ _ ⟨_, _, ⟨rfl, rfl⟩, rfl, rfl⟩
      refine j_ws (L' := z_cw _ _ _ _ _ _ _ _ _ _ _ _ _ _ _ _ _ _ _ _ _ _ _ _ _ _ _ _ _ _ _ _ _ _ _ _ _ _ _ _ _ _ _ _ _ _ _ _ _ _ _ _ _ _ _ _ []) (by decide) rfl rfl ?_
      refine j_iret dX8_at_29 rfl rfl ?_ (Nat.le_of_ble_eq_true rfl) (Nat.le_of_ble_eq_true rfl)
      refine ⟨rfl, (by first | exact z_cwl | rfl), ?_⟩
      rw [sp_i1, sp_in' (n := k) (by have := hrb.2.1; omega), hrb.2.2 k hk]
      exact ⟨sp_k21_0 (Or.inr rfl) hpp, rfl, (sp_CWe hra hrb ht0 ht1 ht2 he0 he1 hzm3 hzm4 hzm5 rfl)⟩
    · have hb11 := z_bF c_11
      have hpn : p < 0 ∨ nI (sp_R S 1).length - 1 < p := Decidable.of_not_not (fun z => of_decide_eq_false hb11 ((sp_plc hrb.2.1).mpr z))
      exact j_throwS (text := "there is no such place") rfl th_I (by decide +kernel) dX8_at_14 dX8_at_17 dX8_at_18 dX8_at_20 dX8_at_23 (Nat.le_of_ble_eq_true rfl) (Nat.le_of_ble_eq_true rfl) ⟨rfl, rfl, ⟨rfl, sp_k21_2 (Or.inr rfl) (by rw [sp_i1]; exact hpn)⟩, rfl⟩ (Nat.le_of_ble_eq_true rfl) (Nat.le_of_ble_eq_true rfl)
set_option maxRecDepth 100000 in
set_option maxHeartbeats 8000000 in
theorem c_X8_hear_p (hl : l.stackTraces = false) (S : sp_S) (fa : Nat → Int32) (fb : Nat → Int32) (mt : Int32) (ft : Nat → Int32) (ct : Nat → Int32) (f0 : Nat → Int32) (g0 : Nat → Int32) (f1 : Nat → Int32) (g1 : Nat → Int32) (c1 : Nat → Int32) (f2 : Nat → Int32) (g2 : Nat → Int32) (c2 : Nat → Int32) (f3 : Nat → Int32) (g3 : Nat → Int32) (c3 : Nat → Int32) (m3 : Int32) (f4 : Nat → Int32) (g4 : Nat → Int32) (c4 : Nat → Int32) (m4 : Int32) (f5 : Nat → Int32) (g5 : Nat → Int32) (c5 : Nat → Int32) (m5 : Int32) (ef0 : Nat → Int32) (ef1 : Nat → Int32) (r : Int32) (g : Int32) (ok : sp_ok S) (hra : z_row 12 (nI (sp_R S 0).length) fa (sp_R S 0)) (hrb : z_row 12 (nI (sp_R S 1).length) fb (sp_R S 1)) (ht0 : z_tba f0 g0 (sp_T S 0)) (ht1 : z_tba f1 g1 (sp_T S 1)) (ht2 : z_tba f2 g2 (sp_T S 2)) (he0 : z_row 10 (nI (sp_E S 0).2.length) ef0 (sp_E S 0).2) (he1 : z_row 10 (nI (sp_E S 1).2.length) ef1 (sp_E S 1).2) (hzm3 : z_m20 m3) (hzm4 : z_m20 m4) (hzm5 : z_m20 m5) : z_CX G l mX8_hear 20 14 120 (z_cw S.1.1 S.1.2 (nI (sp_R S 0).length) (sp_F S 0) fa (sp_C S 0) (nI (sp_R S 1).length) (sp_F S 1) fb (sp_C S 1) mt false ft ct f0 g0 (sp_C S 2) (nI (sp_T S 0).length) 0 f1 g1 c1 (nI (sp_T S 1).length) 0 f2 g2 c2 (nI (sp_T S 2).length) 1 f3 g3 c3 m3 0 f4 g4 c4 m4 0 f5 g5 c5 m5 1 (nI (sp_E S 0).2.length) (sp_E S 0).1.2.1 (sp_E S 0).1.2.2.1 (sp_E S 0).1.2.2.2 (sp_E S 0).1.1 ef0 (nI (sp_E S 1).2.length) (sp_E S 1).1.2.1 (sp_E S 1).1.2.2.1 (sp_E S 1).1.2.2.2 (sp_E S 1).1.1 ef1 []) [.ref 0, .int r, .int g] (fun v L => sp_k2b r g = 0 ∧ v = some (.int (sp_an (sp_hr S (sp_i r) (sp_i g) 0).1)) ∧ sp_CW (sp_hrS S (sp_i r) (sp_i g) 0) L) (fun E L => ((z_xI E ∧ sp_k2b r g = 1)) ∧ L = (z_cw S.1.1 S.1.2 (nI (sp_R S 0).length) (sp_F S 0) fa (sp_C S 0) (nI (sp_R S 1).length) (sp_F S 1) fb (sp_C S 1) mt false ft ct f0 g0 (sp_C S 2) (nI (sp_T S 0).length) 0 f1 g1 c1 (nI (sp_T S 1).length) 0 f2 g2 c2 (nI (sp_T S 2).length) 1 f3 g3 c3 m3 0 f4 g4 c4 m4 0 f5 g5 c5 m5 1 (nI (sp_E S 0).2.length) (sp_E S 0).1.2.1 (sp_E S 0).1.2.2.1 (sp_E S 0).1.2.2.2 (sp_E S 0).1.1 ef0 (nI (sp_E S 1).2.length) (sp_E S 1).1.2.1 (sp_E S 1).1.2.2.1 (sp_E S 1).1.2.2.2 (sp_E S 1).1.1 ef1 [])) := by
  refine z_body hl (by decide) rfl (Nat.le_of_ble_eq_true rfl) ?_
  show z_J G l mX8_hear (z_SX 20 14 120 (z_cw S.1.1 S.1.2 (nI (sp_R S 0).length) (sp_F S 0) fa (sp_C S 0) (nI (sp_R S 1).length) (sp_F S 1) fb (sp_C S 1) mt false ft ct f0 g0 (sp_C S 2) (nI (sp_T S 0).length) 0 f1 g1 c1 (nI (sp_T S 1).length) 0 f2 g2 c2 (nI (sp_T S 2).length) 1 f3 g3 c3 m3 0 f4 g4 c4 m4 0 f5 g5 c5 m5 1 (nI (sp_E S 0).2.length) (sp_E S 0).1.2.1 (sp_E S 0).1.2.2.1 (sp_E S 0).1.2.2.2 (sp_E S 0).1.1 ef0 (nI (sp_E S 1).2.length) (sp_E S 1).1.2.1 (sp_E S 1).1.2.2.1 (sp_E S 1).1.2.2.2 (sp_E S 1).1.1 ef1 []) (fun v L => sp_k2b r g = 0 ∧ v = some (.int (sp_an (sp_hr S (sp_i r) (sp_i g) 0).1)) ∧ sp_CW (sp_hrS S (sp_i r) (sp_i g) 0) L) (fun E L => ((z_xI E ∧ sp_k2b r g = 1)) ∧ L = (z_cw S.1.1 S.1.2 (nI (sp_R S 0).length) (sp_F S 0) fa (sp_C S 0) (nI (sp_R S 1).length) (sp_F S 1) fb (sp_C S 1) mt false ft ct f0 g0 (sp_C S 2) (nI (sp_T S 0).length) 0 f1 g1 c1 (nI (sp_T S 1).length) 0 f2 g2 c2 (nI (sp_T S 2).length) 1 f3 g3 c3 m3 0 f4 g4 c4 m4 0 f5 g5 c5 m5 1 (nI (sp_E S 0).2.length) (sp_E S 0).1.2.1 (sp_E S 0).1.2.2.1 (sp_E S 0).1.2.2.2 (sp_E S 0).1.1 ef0 (nI (sp_E S 1).2.length) (sp_E S 1).1.2.1 (sp_E S 1).1.2.2.1 (sp_E S 1).1.2.2.2 (sp_E S 1).1.1 ef1 []))) 0 [(0, _), (1, _), (2, _)] [] _ 0 0
  refine j_aload_n dX8_hear_0 rfl rfl ?_
  refine j_iload_n dX8_hear_1 rfl ?_
  refine j_callV (q := (RX8, TX8, 9)) dX8_hear_2 kX8_rowFor lX8_46 inX8_rowFor seX8_rowFor rfl rfl (z_dirX (c_X8_rowFor_e hl _ _ _ _ _ _ _ _ _ _ _ _ _ _ _ _ _ _ _ _ _ _ _ _ _ _ _ _ _ _ _ _ _ _ _ _ _ _ _ _ _ _ _ _ _ _ _ _ _ _ _ _ _ _ _ _ _)) (Nat.le_of_ble_eq_true rfl) ⟨(Nat.le_of_ble_eq_true rfl), (Nat.le_of_ble_eq_true rfl)⟩ rfl (Nat.le_of_ble_eq_true rfl) rfl rfl (fun _ _ h => by obtain ⟨_, ⟨h1, rfl⟩, rfl⟩ := h; exact ⟨rfl, rfl, ⟨h1.1, sp_k2b_1 h1.2⟩, rfl⟩) ?_
  rintro _ _ ⟨_, ⟨_, rfl, hr, rfl⟩, rfl⟩
  rcases hr with ⟨e_2, rfl⟩ | ⟨e_2, rfl⟩
  · subst e_2
    refine j_astore_n (lo' := [(3, _), (0, _), (1, _), (2, _)]) dX8_hear_5 rfl (by decide) rfl ?_
    refine j_aload_n dX8_hear_6 rfl rfl ?_
    refine j_iload_n dX8_hear_7 rfl ?_
    refine j_callV (q := (RX8, TX8, 9)) dX8_hear_8 kX8_hearerFor lX8_87 inX8_hearerFor seX8_hearerFor rfl rfl (z_dirX (c_X8_hearerFor_e hl _ _ _ _ _ _ _ _ _ _ _ _ _ _ _ _ _ _ _ _ _ _ _ _ _ _ _ _ _ _ _ _ _ _ _ _ _ _ _ _ _ _ _ _ _ _ _ _ _ _ _ _ _ _ _ _ _)) (Nat.le_of_ble_eq_true rfl) ⟨(Nat.le_of_ble_eq_true rfl), (Nat.le_of_ble_eq_true rfl)⟩ rfl (Nat.le_of_ble_eq_true rfl) rfl rfl (fun _ _ h => by obtain ⟨_, ⟨h1, rfl⟩, rfl⟩ := h; exact ⟨rfl, rfl, ⟨h1.1, sp_k2b_1' h1.2⟩, rfl⟩) ?_
    rintro _ _ ⟨_, ⟨_, rfl, hr, rfl⟩, rfl⟩
    rcases hr with ⟨e_8, rfl⟩ | ⟨e_8, rfl⟩
    · subst e_8
      refine j_astore (lo' := [(4, _), (3, _), (0, _), (1, _), (2, _)]) dX8_hear_11 rfl (by decide) rfl ?_
      refine j_aload_n dX8_hear_13 rfl rfl ?_
      refine j_new (w' := (z_cw _ _ _ _ _ _ _ _ _ _ _ _ _ _ _ _ _ _ _ _ _ _ _ _ _ _ _ _ _ _ _ _ _ _ _ _ _ _ _ _ _ _ _ _ _ _ _ _ _ _ _ _ _ _ _ _ [.inr (7, [_, _, _, _, _])], z_no)) (n := 51) dX8_hear_14 nX8_91 rfl (z_al_l rfl rfl) (Nat.le_of_ble_eq_true rfl) (Nat.le_of_ble_eq_true rfl) ?_
      refine j_dup dX8_hear_17 rfl ?_
      refine j_aload_n dX8_hear_18 rfl rfl ?_
      refine j_callI dX8_hear_19 kX2_init rfl lX8_93 inX2_init rfl (z_frame [51, 2, 3, 4, 5] rfl (by decide) (Nat.le_of_ble_eq_true rfl) (c_X2_init_e hl _ _ _ _)) (Nat.le_of_ble_eq_true rfl) ⟨(Nat.le_of_ble_eq_true rfl), (Nat.le_of_ble_eq_true rfl)⟩ rfl (Nat.le_of_ble_eq_true rfl) rfl rfl (fun _ _ h => h.elim) ?_
      rintro _ _ ⟨_, _, ⟨rfl, rfl⟩, rfl, rfl⟩
      refine j_ws (L' := z_cw _ _ _ _ _ _ _ _ _ _ _ _ _ _ _ _ _ _ _ _ _ _ _ _ _ _ _ _ _ _ _ _ _ _ _ _ _ _ _ _ _ _ _ _ _ _ _ _ _ _ _ _ _ _ _ _ [.inr (7, [_, _, _, _, _])]) (by decide) rfl rfl ?_
      refine j_aload dX8_hear_22 rfl rfl ?_
      refine j_callS dX8_hear_24 kX8_hearOut lX8_96 stX8_hearOut (z_frame [51, 2, 3, 4, 5, 27, 28] rfl (by decide) (Nat.le_of_ble_eq_true rfl) (c_X8_hearOut_X2_e hl _ _ 0 _ _ _ (sp_R S 0) _ (sp_E S 0) _ hra rfl (by omega) he0)) (Nat.le_of_ble_eq_true rfl) ⟨(Nat.le_of_ble_eq_true rfl), (Nat.le_of_ble_eq_true rfl)⟩ rfl (Nat.le_of_ble_eq_true rfl) rfl rfl (fun _ _ h => h.elim) ?_
      rintro _ _ ⟨_, _, ⟨rfl, _, _, ef9, he9, rfl⟩, rfl, rfl⟩
      refine j_ws (L' := z_cw _ _ _ _ _ _ _ _ _ _ _ _ _ _ _ _ _ _ _ _ _ _ _ _ _ _ _ _ _ _ _ _ _ _ _ _ _ _ _ _ _ _ _ _ _ _ _ _ _ _ _ _ _ _ _ _ [.inr (7, [_, _, _, _, _])]) (by decide) rfl rfl ?_
      refine j_lo (lo' := []) z_q0 ?_
      refine j_dropL (n := 51) rfl (Nat.le_of_ble_eq_true rfl) (Nat.le_of_ble_eq_true rfl) (Nat.le_of_ble_eq_true rfl) z_cwc rfl rfl ?_
      refine j_w (z_cw _ _ _ _ _ _ _ _ _ _ _ _ _ _ _ _ _ _ _ _ _ _ _ _ _ _ _ _ _ _ _ _ _ _ _ _ _ _ _ _ _ _ _ _ _ _ _ _ _ _ _ _ _ _ _ _ [], z_no) rfl ?_
      refine j_callV (q := (RX8, TX8, 9)) dX8_hear_27 kX8_answer lX8_100 inX8_answer seX8_answer rfl rfl (z_dirF (c_X8_answer_f_e hl _ _ _ _ _ _ _ _ _ _ _ _ _ _ _ _ _ _ _ _ _ _ _ _ _ _ _ _ _ _ _ _ _ _ _ _ _ _ _ _ _ _ _ _ _ _ _ _ _ _ _ _ _ _ _ _ (sp_hr S 0 0 0).1 nI (fun y hy z => absurd (nI_pos' (n := y) (by have h8 := sp_ho_n _ _ _ _ hy; rw [List.length_drop] at h8; have := hra.2.1; omega)) (by rw [z]; decide)))) (Nat.le_of_ble_eq_true rfl) ⟨(Nat.le_of_ble_eq_true rfl), (Nat.le_of_ble_eq_true rfl)⟩ rfl (Nat.le_of_ble_eq_true rfl) rfl rfl (fun _ _ h => h.elim) ?_
      rintro _ _ ⟨_, ⟨rfl, rfl⟩, rfl⟩
      refine j_iret dX8_hear_30 rfl rfl ?_ (Nat.le_of_ble_eq_true rfl) (Nat.le_of_ble_eq_true rfl)
      refine ⟨rfl, (by first | exact z_cwl | rfl), ?_⟩
      try rw [sp_i0]
      exact ⟨sp_k2b_0 (Or.inl rfl) (Or.inl rfl), rfl, (sp_CWe hra hrb ht0 ht1 ht2 he9 he1 hzm3 hzm4 hzm5 rfl)⟩
    · subst e_8
      refine j_astore (lo' := [(4, _), (3, _), (0, _), (1, _), (2, _)]) dX8_hear_11 rfl (by decide) rfl ?_
      refine j_aload_n dX8_hear_13 rfl rfl ?_
      refine j_new (w' := (z_cw _ _ _ _ _ _ _ _ _ _ _ _ _ _ _ _ _ _ _ _ _ _ _ _ _ _ _ _ _ _ _ _ _ _ _ _ _ _ _ _ _ _ _ _ _ _ _ _ _ _ _ _ _ _ _ _ [.inr (7, [_, _, _, _, _])], z_no)) (n := 51) dX8_hear_14 nX8_91 rfl (z_al_l rfl rfl) (Nat.le_of_ble_eq_true rfl) (Nat.le_of_ble_eq_true rfl) ?_
      refine j_dup dX8_hear_17 rfl ?_
      refine j_aload_n dX8_hear_18 rfl rfl ?_
      refine j_callI dX8_hear_19 kX2_init rfl lX8_93 inX2_init rfl (z_frame [51, 2, 3, 4, 5] rfl (by decide) (Nat.le_of_ble_eq_true rfl) (c_X2_init_e hl _ _ _ _)) (Nat.le_of_ble_eq_true rfl) ⟨(Nat.le_of_ble_eq_true rfl), (Nat.le_of_ble_eq_true rfl)⟩ rfl (Nat.le_of_ble_eq_true rfl) rfl rfl (fun _ _ h => h.elim) ?_
      rintro _ _ ⟨_, _, ⟨rfl, rfl⟩, rfl, rfl⟩
      refine j_ws (L' := z_cw _ _ _ _ _ _ _ _ _ _ _ _ _ _ _ _ _ _ _ _ _ _ _ _ _ _ _ _ _ _ _ _ _ _ _ _ _ _ _ _ _ _ _ _ _ _ _ _ _ _ _ _ _ _ _ _ [.inr (7, [_, _, _, _, _])]) (by decide) rfl rfl ?_
      refine j_aload dX8_hear_22 rfl rfl ?_
      refine j_callS dX8_hear_24 kX8_hearOut lX8_96 stX8_hearOut (z_frame [51, 2, 3, 4, 5, 29, 30] rfl (by decide) (Nat.le_of_ble_eq_true rfl) (c_X8_hearOut_X2_e hl _ _ 0 _ _ _ (sp_R S 0) _ (sp_E S 1) _ hra rfl (by omega) he1)) (Nat.le_of_ble_eq_true rfl) ⟨(Nat.le_of_ble_eq_true rfl), (Nat.le_of_ble_eq_true rfl)⟩ rfl (Nat.le_of_ble_eq_true rfl) rfl rfl (fun _ _ h => h.elim) ?_
      rintro _ _ ⟨_, _, ⟨rfl, _, _, ef9, he9, rfl⟩, rfl, rfl⟩
      refine j_ws (L' := z_cw _ _ _ _ _ _ _ _ _ _ _ _ _ _ _ _ _ _ _ _ _ _ _ _ _ _ _ _ _ _ _ _ _ _ _ _ _ _ _ _ _ _ _ _ _ _ _ _ _ _ _ _ _ _ _ _ [.inr (7, [_, _, _, _, _])]) (by decide) rfl rfl ?_
      refine j_lo (lo' := []) z_q0 ?_
      refine j_dropL (n := 51) rfl (Nat.le_of_ble_eq_true rfl) (Nat.le_of_ble_eq_true rfl) (Nat.le_of_ble_eq_true rfl) z_cwc rfl rfl ?_
      refine j_w (z_cw _ _ _ _ _ _ _ _ _ _ _ _ _ _ _ _ _ _ _ _ _ _ _ _ _ _ _ _ _ _ _ _ _ _ _ _ _ _ _ _ _ _ _ _ _ _ _ _ _ _ _ _ _ _ _ _ [], z_no) rfl ?_
      refine j_callV (q := (RX8, TX8, 9)) dX8_hear_27 kX8_answer lX8_100 inX8_answer seX8_answer rfl rfl (z_dirF (c_X8_answer_f_e hl _ _ _ _ _ _ _ _ _ _ _ _ _ _ _ _ _ _ _ _ _ _ _ _ _ _ _ _ _ _ _ _ _ _ _ _ _ _ _ _ _ _ _ _ _ _ _ _ _ _ _ _ _ _ _ _ (sp_hr S 0 1 0).1 nI (fun y hy z => absurd (nI_pos' (n := y) (by have h8 := sp_ho_n _ _ _ _ hy; rw [List.length_drop] at h8; have := hra.2.1; omega)) (by rw [z]; decide)))) (Nat.le_of_ble_eq_true rfl) ⟨(Nat.le_of_ble_eq_true rfl), (Nat.le_of_ble_eq_true rfl)⟩ rfl (Nat.le_of_ble_eq_true rfl) rfl rfl (fun _ _ h => h.elim) ?_
      rintro _ _ ⟨_, ⟨rfl, rfl⟩, rfl⟩
      refine j_iret dX8_hear_30 rfl rfl ?_ (Nat.le_of_ble_eq_true rfl) (Nat.le_of_ble_eq_true rfl)
      refine ⟨rfl, (by first | exact z_cwl | rfl), ?_⟩
      try rw [sp_i0]
      try rw [sp_i1]
      exact ⟨sp_k2b_0 (Or.inl rfl) (Or.inr rfl), rfl, (sp_CWe hra hrb ht0 ht1 ht2 he0 he9 hzm3 hzm4 hzm5 rfl)⟩
  · subst e_2
    refine j_astore_n (lo' := [(3, _), (0, _), (1, _), (2, _)]) dX8_hear_5 rfl (by decide) rfl ?_
    refine j_aload_n dX8_hear_6 rfl rfl ?_
    refine j_iload_n dX8_hear_7 rfl ?_
    refine j_callV (q := (RX8, TX8, 9)) dX8_hear_8 kX8_hearerFor lX8_87 inX8_hearerFor seX8_hearerFor rfl rfl (z_dirX (c_X8_hearerFor_e hl _ _ _ _ _ _ _ _ _ _ _ _ _ _ _ _ _ _ _ _ _ _ _ _ _ _ _ _ _ _ _ _ _ _ _ _ _ _ _ _ _ _ _ _ _ _ _ _ _ _ _ _ _ _ _ _ _)) (Nat.le_of_ble_eq_true rfl) ⟨(Nat.le_of_ble_eq_true rfl), (Nat.le_of_ble_eq_true rfl)⟩ rfl (Nat.le_of_ble_eq_true rfl) rfl rfl (fun _ _ h => by obtain ⟨_, ⟨h1, rfl⟩, rfl⟩ := h; exact ⟨rfl, rfl, ⟨h1.1, sp_k2b_1' h1.2⟩, rfl⟩) ?_
    rintro _ _ ⟨_, ⟨_, rfl, hr, rfl⟩, rfl⟩
    rcases hr with ⟨e_8, rfl⟩ | ⟨e_8, rfl⟩
    · subst e_8
      refine j_astore (lo' := [(4, _), (3, _), (0, _), (1, _), (2, _)]) dX8_hear_11 rfl (by decide) rfl ?_
      refine j_aload_n dX8_hear_13 rfl rfl ?_
      refine j_new (w' := (z_cw _ _ _ _ _ _ _ _ _ _ _ _ _ _ _ _ _ _ _ _ _ _ _ _ _ _ _ _ _ _ _ _ _ _ _ _ _ _ _ _ _ _ _ _ _ _ _ _ _ _ _ _ _ _ _ _ [.inr (7, [_, _, _, _, _])], z_no)) (n := 51) dX8_hear_14 nX8_91 rfl (z_al_l rfl rfl) (Nat.le_of_ble_eq_true rfl) (Nat.le_of_ble_eq_true rfl) ?_
      refine j_dup dX8_hear_17 rfl ?_
      refine j_aload_n dX8_hear_18 rfl rfl ?_
      refine j_callI dX8_hear_19 kX2_init rfl lX8_93 inX2_init rfl (z_frame [51, 6, 7, 8, 9] rfl (by decide) (Nat.le_of_ble_eq_true rfl) (c_X2_init_e hl _ _ _ _)) (Nat.le_of_ble_eq_true rfl) ⟨(Nat.le_of_ble_eq_true rfl), (Nat.le_of_ble_eq_true rfl)⟩ rfl (Nat.le_of_ble_eq_true rfl) rfl rfl (fun _ _ h => h.elim) ?_
      rintro _ _ ⟨_, _, ⟨rfl, rfl⟩, rfl, rfl⟩
      refine j_ws (L' := z_cw _ _ _ _ _ _ _ _ _ _ _ _ _ _ _ _ _ _ _ _ _ _ _ _ _ _ _ _ _ _ _ _ _ _ _ _ _ _ _ _ _ _ _ _ _ _ _ _ _ _ _ _ _ _ _ _ [.inr (7, [_, _, _, _, _])]) (by decide) rfl rfl ?_
      refine j_aload dX8_hear_22 rfl rfl ?_
      refine j_callS dX8_hear_24 kX8_hearOut lX8_96 stX8_hearOut (z_frame [51, 6, 7, 8, 9, 27, 28] rfl (by decide) (Nat.le_of_ble_eq_true rfl) (c_X8_hearOut_X2_e hl _ _ 0 _ _ _ (sp_R S 1) _ (sp_E S 0) _ hrb rfl (by omega) he0)) (Nat.le_of_ble_eq_true rfl) ⟨(Nat.le_of_ble_eq_true rfl), (Nat.le_of_ble_eq_true rfl)⟩ rfl (Nat.le_of_ble_eq_true rfl) rfl rfl (fun _ _ h => h.elim) ?_
      rintro _ _ ⟨_, _, ⟨rfl, _, _, ef9, he9, rfl⟩, rfl, rfl⟩
      refine j_ws (L' := z_cw _ _ _ _ _ _ _ _ _ _ _ _ _ _ _ _ _ _ _ _ _ _ _ _ _ _ _ _ _ _ _ _ _ _ _ _ _ _ _ _ _ _ _ _ _ _ _ _ _ _ _ _ _ _ _ _ [.inr (7, [_, _, _, _, _])]) (by decide) rfl rfl ?_
      refine j_lo (lo' := []) z_q0 ?_
      refine j_dropL (n := 51) rfl (Nat.le_of_ble_eq_true rfl) (Nat.le_of_ble_eq_true rfl) (Nat.le_of_ble_eq_true rfl) z_cwc rfl rfl ?_
      refine j_w (z_cw _ _ _ _ _ _ _ _ _ _ _ _ _ _ _ _ _ _ _ _ _ _ _ _ _ _ _ _ _ _ _ _ _ _ _ _ _ _ _ _ _ _ _ _ _ _ _ _ _ _ _ _ _ _ _ _ [], z_no) rfl ?_
      refine j_callV (q := (RX8, TX8, 9)) dX8_hear_27 kX8_answer lX8_100 inX8_answer seX8_answer rfl rfl (z_dirF (c_X8_answer_f_e hl _ _ _ _ _ _ _ _ _ _ _ _ _ _ _ _ _ _ _ _ _ _ _ _ _ _ _ _ _ _ _ _ _ _ _ _ _ _ _ _ _ _ _ _ _ _ _ _ _ _ _ _ _ _ _ _ (sp_hr S 1 0 0).1 nI (fun y hy z => absurd (nI_pos' (n := y) (by have h8 := sp_ho_n _ _ _ _ hy; rw [List.length_drop] at h8; have := hrb.2.1; omega)) (by rw [z]; decide)))) (Nat.le_of_ble_eq_true rfl) ⟨(Nat.le_of_ble_eq_true rfl), (Nat.le_of_ble_eq_true rfl)⟩ rfl (Nat.le_of_ble_eq_true rfl) rfl rfl (fun _ _ h => h.elim) ?_
      rintro _ _ ⟨_, ⟨rfl, rfl⟩, rfl⟩
      refine j_iret dX8_hear_30 rfl rfl ?_ (Nat.le_of_ble_eq_true rfl) (Nat.le_of_ble_eq_true rfl)
      refine ⟨rfl, (by first | exact z_cwl | rfl), ?_⟩
      try rw [sp_i0]
      try rw [sp_i1]
      exact ⟨sp_k2b_0 (Or.inr rfl) (Or.inl rfl), rfl, (sp_CWe hra hrb ht0 ht1 ht2 he9 he1 hzm3 hzm4 hzm5 rfl)⟩
    · subst e_8
      refine j_astore (lo' := [(4, _), (3, _), (0, _), (1, _), (2, _)]) dX8_hear_11 rfl (by decide) rfl ?_
      refine j_aload_n dX8_hear_13 rfl rfl ?_
      refine j_new (w' := (z_cw _ _ _ _ _ _ _ _ _ _ _ _ _ _ _ _ _ _ _ _ _ _ _ _ _ _ _ _ _ _ _ _ _ _ _ _ _ _ _ _ _ _ _ _ _ _ _ _ _ _ _ _ _ _ _ _ [.inr (7, [_, _, _, _, _])], z_no)) (n := 51) dX8_hear_14 nX8_91 rfl (z_al_l rfl rfl) (Nat.le_of_ble_eq_true rfl) (Nat.le_of_ble_eq_true rfl) ?_
      refine j_dup dX8_hear_17 rfl ?_
      refine j_aload_n dX8_hear_18 rfl rfl ?_
      refine j_callI dX8_hear_19 kX2_init rfl lX8_93 inX2_init rfl (z_frame [51, 6, 7, 8, 9] rfl (by decide) (Nat.le_of_ble_eq_true rfl) (c_X2_init_e hl _ _ _ _)) (Nat.le_of_ble_eq_true rfl) ⟨(Nat.le_of_ble_eq_true rfl), (Nat.le_of_ble_eq_true rfl)⟩ rfl (Nat.le_of_ble_eq_true rfl) rfl rfl (fun _ _ h => h.elim) ?_
      rintro _ _ ⟨_, _, ⟨rfl, rfl⟩, rfl, rfl⟩
      refine j_ws (L' := z_cw _ _ _ _ _ _ _ _ _ _ _ _ _ _ _ _ _ _ _ _ _ _ _ _ _ _ _ _ _ _ _ _ _ _ _ _ _ _ _ _ _ _ _ _ _ _ _ _ _ _ _ _ _ _ _ _ [.inr (7, [_, _, _, _, _])]) (by decide) rfl rfl ?_
      refine j_aload dX8_hear_22 rfl rfl ?_
      refine j_callS dX8_hear_24 kX8_hearOut lX8_96 stX8_hearOut (z_frame [51, 6, 7, 8, 9, 29, 30] rfl (by decide) (Nat.le_of_ble_eq_true rfl) (c_X8_hearOut_X2_e hl _ _ 0 _ _ _ (sp_R S 1) _ (sp_E S 1) _ hrb rfl (by omega) he1)) (Nat.le_of_ble_eq_true rfl) ⟨(Nat.le_of_ble_eq_true rfl), (Nat.le_of_ble_eq_true rfl)⟩ rfl (Nat.le_of_ble_eq_true rfl) rfl rfl (fun _ _ h => h.elim) ?_
      rintro _ _ ⟨_, _, ⟨rfl, _, _, ef9, he9, rfl⟩, rfl, rfl⟩
      refine j_ws (L' := z_cw _ _ _ _ _ _ _ _ _ _ _ _ _ _ _ _ _ _ _ _ _ _ _ _ _ _ _ _ _ _ _ _ _ _ _ _ _ _ _ _ _ _ _ _ _ _ _ _ _ _ _ _ _ _ _ _ [.inr (7, [_, _, _, _, _])]) (by decide) rfl rfl ?_
      refine j_lo (lo' := []) z_q0 ?_
      refine j_dropL (n := 51) rfl (Nat.le_of_ble_eq_true rfl) (Nat.le_of_ble_eq_true rfl) (Nat.le_of_ble_eq_true rfl) z_cwc rfl rfl ?_
      refine j_w (z_cw _ _ _ _ _ _ _ _ _ _ _ _ _ _ _ _ _ _ _ _ _ _ _ _ _ _ _ _ _ _ _ _ _ _ _ _ _ _ _ _ _ _ _ _ _ _ _ _ _ _ _ _ _ _ _ _ [], z_no) rfl ?_
      refine j_callV (q := (RX8, TX8, 9)) dX8_hear_27 kX8_answer lX8_100 inX8_answer seX8_answer rfl rfl (z_dirF (c_X8_answer_f_e hl _ _ _ _ _ _ _ _ _ _ _ _ _ _ _ _ _ _ _ _ _ _ _ _ _ _ _ _ _ _ _ _ _ _ _ _ _ _ _ _ _ _ _ _ _ _ _ _ _ _ _ _ _ _ _ _ (sp_hr S 1 1 0).1 nI (fun y hy z => absurd (nI_pos' (n := y) (by have h8 := sp_ho_n _ _ _ _ hy; rw [List.length_drop] at h8; have := hrb.2.1; omega)) (by rw [z]; decide)))) (Nat.le_of_ble_eq_true rfl) ⟨(Nat.le_of_ble_eq_true rfl), (Nat.le_of_ble_eq_true rfl)⟩ rfl (Nat.le_of_ble_eq_true rfl) rfl rfl (fun _ _ h => h.elim) ?_
      rintro _ _ ⟨_, ⟨rfl, rfl⟩, rfl⟩
      refine j_iret dX8_hear_30 rfl rfl ?_ (Nat.le_of_ble_eq_true rfl) (Nat.le_of_ble_eq_true rfl)
      refine ⟨rfl, (by first | exact z_cwl | rfl), ?_⟩
      try rw [sp_i1]
      exact ⟨sp_k2b_0 (Or.inr rfl) (Or.inr rfl), rfl, (sp_CWe hra hrb ht0 ht1 ht2 he0 he9 hzm3 hzm4 hzm5 rfl)⟩
set_option maxRecDepth 100000 in
set_option maxHeartbeats 8000000 in
theorem c_X8_rest_p (hl : l.stackTraces = false) (S : sp_S) (fa : Nat → Int32) (fb : Nat → Int32) (mt : Int32) (ft : Nat → Int32) (ct : Nat → Int32) (f0 : Nat → Int32) (g0 : Nat → Int32) (f1 : Nat → Int32) (g1 : Nat → Int32) (c1 : Nat → Int32) (f2 : Nat → Int32) (g2 : Nat → Int32) (c2 : Nat → Int32) (f3 : Nat → Int32) (g3 : Nat → Int32) (c3 : Nat → Int32) (m3 : Int32) (f4 : Nat → Int32) (g4 : Nat → Int32) (c4 : Nat → Int32) (m4 : Int32) (f5 : Nat → Int32) (g5 : Nat → Int32) (c5 : Nat → Int32) (m5 : Int32) (ef0 : Nat → Int32) (ef1 : Nat → Int32) (r : Int32) (a : Int32) (g : Int32) (ok : sp_ok S) (hra : z_row 12 (nI (sp_R S 0).length) fa (sp_R S 0)) (hrb : z_row 12 (nI (sp_R S 1).length) fb (sp_R S 1)) (ht0 : z_tba f0 g0 (sp_T S 0)) (ht1 : z_tba f1 g1 (sp_T S 1)) (ht2 : z_tba f2 g2 (sp_T S 2)) (he0 : z_row 10 (nI (sp_E S 0).2.length) ef0 (sp_E S 0).2) (he1 : z_row 10 (nI (sp_E S 1).2.length) ef1 (sp_E S 1).2) (hzm3 : z_m20 m3) (hzm4 : z_m20 m4) (hzm5 : z_m20 m5) : z_CX G l mX8_rest 20 14 120 (z_cw S.1.1 S.1.2 (nI (sp_R S 0).length) (sp_F S 0) fa (sp_C S 0) (nI (sp_R S 1).length) (sp_F S 1) fb (sp_C S 1) mt false ft ct f0 g0 (sp_C S 2) (nI (sp_T S 0).length) 0 f1 g1 c1 (nI (sp_T S 1).length) 0 f2 g2 c2 (nI (sp_T S 2).length) 1 f3 g3 c3 m3 0 f4 g4 c4 m4 0 f5 g5 c5 m5 1 (nI (sp_E S 0).2.length) (sp_E S 0).1.2.1 (sp_E S 0).1.2.2.1 (sp_E S 0).1.2.2.2 (sp_E S 0).1.1 ef0 (nI (sp_E S 1).2.length) (sp_E S 1).1.2.1 (sp_E S 1).1.2.2.1 (sp_E S 1).1.2.2.2 (sp_E S 1).1.1 ef1 []) [.ref 0, .int r, .int a, .int g] (fun v L => sp_k2c r g (a < 0 ∨ nI (sp_R S (sp_i r)).length < a) = 0 ∧ v = some (.int (sp_an (sp_hr S (sp_i r) (sp_i g) (sp_i a)).1)) ∧ sp_CW (sp_hrS S (sp_i r) (sp_i g) (sp_i a)) L) (fun E L => ((z_xI E ∧ sp_k2c r g (a < 0 ∨ nI (sp_R S (sp_i r)).length < a) = 1) ∨ (z_xA E ∧ sp_k2c r g (a < 0 ∨ nI (sp_R S (sp_i r)).length < a) = 2)) ∧ L = (z_cw S.1.1 S.1.2 (nI (sp_R S 0).length) (sp_F S 0) fa (sp_C S 0) (nI (sp_R S 1).length) (sp_F S 1) fb (sp_C S 1) mt false ft ct f0 g0 (sp_C S 2) (nI (sp_T S 0).length) 0 f1 g1 c1 (nI (sp_T S 1).length) 0 f2 g2 c2 (nI (sp_T S 2).length) 1 f3 g3 c3 m3 0 f4 g4 c4 m4 0 f5 g5 c5 m5 1 (nI (sp_E S 0).2.length) (sp_E S 0).1.2.1 (sp_E S 0).1.2.2.1 (sp_E S 0).1.2.2.2 (sp_E S 0).1.1 ef0 (nI (sp_E S 1).2.length) (sp_E S 1).1.2.1 (sp_E S 1).1.2.2.1 (sp_E S 1).1.2.2.2 (sp_E S 1).1.1 ef1 [])) := by
  refine z_body hl (by decide) rfl (Nat.le_of_ble_eq_true rfl) ?_
  show z_J G l mX8_rest (z_SX 20 14 120 (z_cw S.1.1 S.1.2 (nI (sp_R S 0).length) (sp_F S 0) fa (sp_C S 0) (nI (sp_R S 1).length) (sp_F S 1) fb (sp_C S 1) mt false ft ct f0 g0 (sp_C S 2) (nI (sp_T S 0).length) 0 f1 g1 c1 (nI (sp_T S 1).length) 0 f2 g2 c2 (nI (sp_T S 2).length) 1 f3 g3 c3 m3 0 f4 g4 c4 m4 0 f5 g5 c5 m5 1 (nI (sp_E S 0).2.length) (sp_E S 0).1.2.1 (sp_E S 0).1.2.2.1 (sp_E S 0).1.2.2.2 (sp_E S 0).1.1 ef0 (nI (sp_E S 1).2.length) (sp_E S 1).1.2.1 (sp_E S 1).1.2.2.1 (sp_E S 1).1.2.2.2 (sp_E S 1).1.1 ef1 []) (fun v L => sp_k2c r g (a < 0 ∨ nI (sp_R S (sp_i r)).length < a) = 0 ∧ v = some (.int (sp_an (sp_hr S (sp_i r) (sp_i g) (sp_i a)).1)) ∧ sp_CW (sp_hrS S (sp_i r) (sp_i g) (sp_i a)) L) (fun E L => ((z_xI E ∧ sp_k2c r g (a < 0 ∨ nI (sp_R S (sp_i r)).length < a) = 1) ∨ (z_xA E ∧ sp_k2c r g (a < 0 ∨ nI (sp_R S (sp_i r)).length < a) = 2)) ∧ L = (z_cw S.1.1 S.1.2 (nI (sp_R S 0).length) (sp_F S 0) fa (sp_C S 0) (nI (sp_R S 1).length) (sp_F S 1) fb (sp_C S 1) mt false ft ct f0 g0 (sp_C S 2) (nI (sp_T S 0).length) 0 f1 g1 c1 (nI (sp_T S 1).length) 0 f2 g2 c2 (nI (sp_T S 2).length) 1 f3 g3 c3 m3 0 f4 g4 c4 m4 0 f5 g5 c5 m5 1 (nI (sp_E S 0).2.length) (sp_E S 0).1.2.1 (sp_E S 0).1.2.2.1 (sp_E S 0).1.2.2.2 (sp_E S 0).1.1 ef0 (nI (sp_E S 1).2.length) (sp_E S 1).1.2.1 (sp_E S 1).1.2.2.1 (sp_E S 1).1.2.2.2 (sp_E S 1).1.1 ef1 []))) 0 [(0, _), (1, _), (2, _), (3, _)] [] _ 0 0
  refine j_aload_n dX8_rest_0 rfl rfl ?_
  refine j_iload_n dX8_rest_1 rfl ?_
  refine j_callV (q := (RX8, TX8, 9)) dX8_rest_2 kX8_rowFor lX8_46 inX8_rowFor seX8_rowFor rfl rfl (z_dirX (c_X8_rowFor_e hl _ _ _ _ _ _ _ _ _ _ _ _ _ _ _ _ _ _ _ _ _ _ _ _ _ _ _ _ _ _ _ _ _ _ _ _ _ _ _ _ _ _ _ _ _ _ _ _ _ _ _ _ _ _ _ _ _)) (Nat.le_of_ble_eq_true rfl) ⟨(Nat.le_of_ble_eq_true rfl), (Nat.le_of_ble_eq_true rfl)⟩ rfl (Nat.le_of_ble_eq_true rfl) rfl rfl (fun _ _ h => by obtain ⟨_, ⟨h1, rfl⟩, rfl⟩ := h; exact ⟨rfl, rfl, Or.inl ⟨h1.1, sp_k2c_1 h1.2⟩, rfl⟩) ?_
  rintro _ _ ⟨_, ⟨_, rfl, hr, rfl⟩, rfl⟩
  rcases hr with ⟨e_2, rfl⟩ | ⟨e_2, rfl⟩
  · subst e_2
    refine j_astore (lo' := [(4, _), (0, _), (1, _), (2, _), (3, _)]) dX8_rest_5 rfl (by decide) rfl ?_
    refine j_aload_n dX8_rest_7 rfl rfl ?_
    refine j_iload_n dX8_rest_8 rfl ?_
    refine j_callV (q := (RX8, TX8, 9)) dX8_rest_9 kX8_hearerFor lX8_87 inX8_hearerFor seX8_hearerFor rfl rfl (z_dirX (c_X8_hearerFor_e hl _ _ _ _ _ _ _ _ _ _ _ _ _ _ _ _ _ _ _ _ _ _ _ _ _ _ _ _ _ _ _ _ _ _ _ _ _ _ _ _ _ _ _ _ _ _ _ _ _ _ _ _ _ _ _ _ _)) (Nat.le_of_ble_eq_true rfl) ⟨(Nat.le_of_ble_eq_true rfl), (Nat.le_of_ble_eq_true rfl)⟩ rfl (Nat.le_of_ble_eq_true rfl) rfl rfl (fun _ _ h => by obtain ⟨_, ⟨h1, rfl⟩, rfl⟩ := h; exact ⟨rfl, rfl, Or.inl ⟨h1.1, sp_k2c_1' h1.2⟩, rfl⟩) ?_
    rintro _ _ ⟨_, ⟨_, rfl, hr, rfl⟩, rfl⟩
    rcases hr with ⟨e_9, rfl⟩ | ⟨e_9, rfl⟩
    · subst e_9
      refine j_astore (lo' := [(5, _), (4, _), (0, _), (1, _), (2, _), (3, _)]) dX8_rest_12 rfl (by decide) rfl ?_
      refine j_iload_n dX8_rest_14 rfl ?_
      refine j_iconst (v := 0) dX8_rest_15 (by decide) ?_
      refine j_aload dX8_rest_16 rfl rfl ?_
      refine j_getf dX8_rest_18 fX8_68 rfl rfl ?_
      refine j_callS dX8_rest_21 kX8_checkRange lX8_72 stX8_checkRange (c_X8_checkRange_e hl _ _ _ _) (Nat.le_of_ble_eq_true rfl) ⟨(Nat.le_of_ble_eq_true rfl), (Nat.le_of_ble_eq_true rfl)⟩ rfl (Nat.le_of_ble_eq_true rfl) rfl rfl (fun _ _ h => by obtain ⟨h1, rfl⟩ := h; exact ⟨rfl, rfl, Or.inr ⟨h1.1, sp_k2c_2 (Or.inl rfl) (Or.inl rfl) (by rw [sp_i0]; exact h1.2)⟩, rfl⟩) ?_
      rintro _ _ ⟨⟨rfl, hc21⟩, rfl⟩
      obtain ⟨k, hk2, rfl⟩ := sp_nt (m := (sp_R S 0).length) rfl (by have := hra.2.1; omega) hc21
      refine j_new (w' := (z_cw _ _ _ _ _ _ _ _ _ _ _ _ _ _ _ _ _ _ _ _ _ _ _ _ _ _ _ _ _ _ _ _ _ _ _ _ _ _ _ _ _ _ _ _ _ _ _ _ _ _ _ _ _ _ _ _ [.inr (7, [_, _, _, _, _])], z_no)) (n := 51) dX8_rest_24 nX8_91 rfl (z_al_l rfl rfl) (Nat.le_of_ble_eq_true rfl) (Nat.le_of_ble_eq_true rfl) ?_
      refine j_dup dX8_rest_27 rfl ?_
      refine j_aload dX8_rest_28 rfl rfl ?_
      refine j_callI dX8_rest_30 kX2_init rfl lX8_93 inX2_init rfl (z_frame [51, 2, 3, 4, 5] rfl (by decide) (Nat.le_of_ble_eq_true rfl) (c_X2_init_e hl _ _ _ _)) (Nat.le_of_ble_eq_true rfl) ⟨(Nat.le_of_ble_eq_true rfl), (Nat.le_of_ble_eq_true rfl)⟩ rfl (Nat.le_of_ble_eq_true rfl) rfl rfl (fun _ _ h => h.elim) ?_
      rintro _ _ ⟨_, _, ⟨rfl, rfl⟩, rfl, rfl⟩
      refine j_ws (L' := z_cw _ _ _ _ _ _ _ _ _ _ _ _ _ _ _ _ _ _ _ _ _ _ _ _ _ _ _ _ _ _ _ _ _ _ _ _ _ _ _ _ _ _ _ _ _ _ _ _ _ _ _ _ _ _ _ _ [.inr (7, [_, _, _, _, _])]) (by decide) rfl rfl ?_
      refine j_astore (lo' := [(6, _), (5, _), (4, _), (0, _), (1, _), (2, _), (3, _)]) dX8_rest_33 rfl (by decide) rfl ?_
      refine j_aload dX8_rest_35 rfl rfl ?_
      refine j_iload_n dX8_rest_37 rfl ?_
      refine j_callS dX8_rest_38 kX8_passBy lX8_104 stX8_passBy (z_frame [51, 2, 3, 4, 5] rfl (by decide) (Nat.le_of_ble_eq_true rfl) (c_X8_passBy_X2_e hl _ _ _ _ _ (sp_R S 0) _ k hra rfl hk2)) (Nat.le_of_ble_eq_true rfl) ⟨(Nat.le_of_ble_eq_true rfl), (Nat.le_of_ble_eq_true rfl)⟩ rfl (Nat.le_of_ble_eq_true rfl) rfl rfl (fun _ _ h => h.elim) ?_
      rintro _ _ ⟨_, _, ⟨rfl, u9, rfl⟩, rfl, rfl⟩
      refine j_ws (L' := z_cw _ _ _ _ _ _ _ _ _ _ _ _ _ _ _ _ _ _ _ _ _ _ _ _ _ _ _ _ _ _ _ _ _ _ _ _ _ _ _ _ _ _ _ _ _ _ _ _ _ _ _ _ _ _ _ _ [.inr (7, [_, _, _, _, _])]) (by decide) rfl rfl ?_
      refine j_aload_n dX8_rest_41 rfl rfl ?_
      refine j_aload dX8_rest_42 rfl rfl ?_
      refine j_aload dX8_rest_44 rfl rfl ?_
      refine j_callS dX8_rest_46 kX8_hearOut lX8_96 stX8_hearOut (z_frame [51, 2, 3, 4, 5, 27, 28] rfl (by decide) (Nat.le_of_ble_eq_true rfl) (c_X8_hearOut_X2_e hl _ _ k _ _ _ (sp_R S 0) _ (sp_E S 0) _ hra rfl (by omega) he0)) (Nat.le_of_ble_eq_true rfl) ⟨(Nat.le_of_ble_eq_true rfl), (Nat.le_of_ble_eq_true rfl)⟩ rfl (Nat.le_of_ble_eq_true rfl) rfl rfl (fun _ _ h => h.elim) ?_
      rintro _ _ ⟨_, _, ⟨rfl, _, _, ef9, he9, rfl⟩, rfl, rfl⟩
      refine j_ws (L' := z_cw _ _ _ _ _ _ _ _ _ _ _ _ _ _ _ _ _ _ _ _ _ _ _ _ _ _ _ _ _ _ _ _ _ _ _ _ _ _ _ _ _ _ _ _ _ _ _ _ _ _ _ _ _ _ _ _ [.inr (7, [_, _, _, _, _])]) (by decide) rfl rfl ?_
      refine j_lo (lo' := []) z_q0 ?_
      refine j_dropL (n := 51) rfl (Nat.le_of_ble_eq_true rfl) (Nat.le_of_ble_eq_true rfl) (Nat.le_of_ble_eq_true rfl) z_cwc rfl rfl ?_
      refine j_w (z_cw _ _ _ _ _ _ _ _ _ _ _ _ _ _ _ _ _ _ _ _ _ _ _ _ _ _ _ _ _ _ _ _ _ _ _ _ _ _ _ _ _ _ _ _ _ _ _ _ _ _ _ _ _ _ _ _ [], z_no) rfl ?_
      refine j_callV (q := (RX8, TX8, 9)) dX8_rest_49 kX8_answer lX8_100 inX8_answer seX8_answer rfl rfl (z_dirF (c_X8_answer_f_e hl _ _ _ _ _ _ _ _ _ _ _ _ _ _ _ _ _ _ _ _ _ _ _ _ _ _ _ _ _ _ _ _ _ _ _ _ _ _ _ _ _ _ _ _ _ _ _ _ _ _ _ _ _ _ _ _ (sp_hr S 0 0 k).1 nI (fun y hy z => absurd (nI_pos' (n := y) (by have h8 := sp_ho_n _ _ _ _ hy; rw [List.length_drop] at h8; have := hra.2.1; omega)) (by rw [z]; decide)))) (Nat.le_of_ble_eq_true rfl) ⟨(Nat.le_of_ble_eq_true rfl), (Nat.le_of_ble_eq_true rfl)⟩ rfl (Nat.le_of_ble_eq_true rfl) rfl rfl (fun _ _ h => h.elim) ?_
      rintro _ _ ⟨_, ⟨rfl, rfl⟩, rfl⟩
      refine j_iret dX8_rest_52 rfl rfl ?_ (Nat.le_of_ble_eq_true rfl) (Nat.le_of_ble_eq_true rfl)
      refine ⟨rfl, (by first | exact z_cwl | rfl), ?_⟩
      try rw [sp_i0]
      rw [sp_in' (n := k) (by have := hra.2.1; omega)]
      exact ⟨sp_k2c_0 (Or.inl rfl) (Or.inl rfl) hc21, rfl, (sp_CWe hra hrb ht0 ht1 ht2 he9 he1 hzm3 hzm4 hzm5 rfl)⟩
    · subst e_9
      refine j_astore (lo' := [(5, _), (4, _), (0, _), (1, _), (2, _), (3, _)]) dX8_rest_12 rfl (by decide) rfl ?_
      refine j_iload_n dX8_rest_14 rfl ?_
      refine j_iconst (v := 0) dX8_rest_15 (by decide) ?_
      refine j_aload dX8_rest_16 rfl rfl ?_
      refine j_getf dX8_rest_18 fX8_68 rfl rfl ?_
      refine j_callS dX8_rest_21 kX8_checkRange lX8_72 stX8_checkRange (c_X8_checkRange_e hl _ _ _ _) (Nat.le_of_ble_eq_true rfl) ⟨(Nat.le_of_ble_eq_true rfl), (Nat.le_of_ble_eq_true rfl)⟩ rfl (Nat.le_of_ble_eq_true rfl) rfl rfl (fun _ _ h => by obtain ⟨h1, rfl⟩ := h; exact ⟨rfl, rfl, Or.inr ⟨h1.1, sp_k2c_2 (Or.inl rfl) (Or.inr rfl) (by rw [sp_i0]; exact h1.2)⟩, rfl⟩) ?_
      rintro _ _ ⟨⟨rfl, hc21⟩, rfl⟩
      obtain ⟨k, hk2, rfl⟩ := sp_nt (m := (sp_R S 0).length) rfl (by have := hra.2.1; omega) hc21
      refine j_new (w' := (z_cw _ _ _ _ _ _ _ _ _ _ _ _ _ _ _ _ _ _ _ _ _ _ _ _ _ _ _ _ _ _ _ _ _ _ _ _ _ _ _ _ _ _ _ _ _ _ _ _ _ _ _ _ _ _ _ _ [.inr (7, [_, _, _, _, _])], z_no)) (n := 51) dX8_rest_24 nX8_91 rfl (z_al_l rfl rfl) (Nat.le_of_ble_eq_true rfl) (Nat.le_of_ble_eq_true rfl) ?_
      refine j_dup dX8_rest_27 rfl ?_
      refine j_aload dX8_rest_28 rfl rfl ?_
      refine j_callI dX8_rest_30 kX2_init rfl lX8_93 inX2_init rfl (z_frame [51, 2, 3, 4, 5] rfl (by decide) (Nat.le_of_ble_eq_true rfl) (c_X2_init_e hl _ _ _ _)) (Nat.le_of_ble_eq_true rfl) ⟨(Nat.le_of_ble_eq_true rfl), (Nat.le_of_ble_eq_true rfl)⟩ rfl (Nat.le_of_ble_eq_true rfl) rfl rfl (fun _ _ h => h.elim) ?_
      rintro _ _ ⟨_, _, ⟨rfl, rfl⟩, rfl, rfl⟩
      refine j_ws (L' := z_cw _ _ _ _ _ _ _ _ _ _ _ _ _ _ _ _ _ _ _ _ _ _ _ _ _ _ _ _ _ _ _ _ _ _ _ _ _ _ _ _ _ _ _ _ _ _ _ _ _ _ _ _ _ _ _ _ [.inr (7, [_, _, _, _, _])]) (by decide) rfl rfl ?_
      refine j_astore (lo' := [(6, _), (5, _), (4, _), (0, _), (1, _), (2, _), (3, _)]) dX8_rest_33 rfl (by decide) rfl ?_
      refine j_aload dX8_rest_35 rfl rfl ?_
      refine j_iload_n dX8_rest_37 rfl ?_
      refine j_callS dX8_rest_38 kX8_passBy lX8_104 stX8_passBy (z_frame [51, 2, 3, 4, 5] rfl (by decide) (Nat.le_of_ble_eq_true rfl) (c_X8_passBy_X2_e hl _ _ _ _ _ (sp_R S 0) _ k hra rfl hk2)) (Nat.le_of_ble_eq_true rfl) ⟨(Nat.le_of_ble_eq_true rfl), (Nat.le_of_ble_eq_true rfl)⟩ rfl (Nat.le_of_ble_eq_true rfl) rfl rfl (fun _ _ h => h.elim) ?_
      rintro _ _ ⟨_, _, ⟨rfl, u9, rfl⟩, rfl, rfl⟩
      refine j_ws (L' := z_cw _ _ _ _ _ _ _ _ _ _ _ _ _ _ _ _ _ _ _ _ _ _ _ _ _ _ _ _ _ _ _ _ _ _ _ _ _ _ _ _ _ _ _ _ _ _ _ _ _ _ _ _ _ _ _ _ [.inr (7, [_, _, _, _, _])]) (by decide) rfl rfl ?_
      refine j_aload_n dX8_rest_41 rfl rfl ?_
      refine j_aload dX8_rest_42 rfl rfl ?_
      refine j_aload dX8_rest_44 rfl rfl ?_
      refine j_callS dX8_rest_46 kX8_hearOut lX8_96 stX8_hearOut (z_frame [51, 2, 3, 4, 5, 29, 30] rfl (by decide) (Nat.le_of_ble_eq_true rfl) (c_X8_hearOut_X2_e hl _ _ k _ _ _ (sp_R S 0) _ (sp_E S 1) _ hra rfl (by omega) he1)) (Nat.le_of_ble_eq_true rfl) ⟨(Nat.le_of_ble_eq_true rfl), (Nat.le_of_ble_eq_true rfl)⟩ rfl (Nat.le_of_ble_eq_true rfl) rfl rfl (fun _ _ h => h.elim) ?_
      rintro _ _ ⟨_, _, ⟨rfl, _, _, ef9, he9, rfl⟩, rfl, rfl⟩
      refine j_ws (L' := z_cw _ _ _ _ _ _ _ _ _ _ _ _ _ _ _ _ _ _ _ _ _ _ _ _ _ _ _ _ _ _ _ _ _ _ _ _ _ _ _ _ _ _ _ _ _ _ _ _ _ _ _ _ _ _ _ _ [.inr (7, [_, _, _, _, _])]) (by decide) rfl rfl ?_
      refine j_lo (lo' := []) z_q0 ?_
      refine j_dropL (n := 51) rfl (Nat.le_of_ble_eq_true rfl) (Nat.le_of_ble_eq_true rfl) (Nat.le_of_ble_eq_true rfl) z_cwc rfl rfl ?_
      refine j_w (z_cw _ _ _ _ _ _ _ _ _ _ _ _ _ _ _ _ _ _ _ _ _ _ _ _ _ _ _ _ _ _ _ _ _ _ _ _ _ _ _ _ _ _ _ _ _ _ _ _ _ _ _ _ _ _ _ _ [], z_no) rfl ?_
      refine j_callV (q := (RX8, TX8, 9)) dX8_rest_49 kX8_answer lX8_100 inX8_answer seX8_answer rfl rfl (z_dirF (c_X8_answer_f_e hl _ _ _ _ _ _ _ _ _ _ _ _ _ _ _ _ _ _ _ _ _ _ _ _ _ _ _ _ _ _ _ _ _ _ _ _ _ _ _ _ _ _ _ _ _ _ _ _ _ _ _ _ _ _ _ _ (sp_hr S 0 1 k).1 nI (fun y hy z => absurd (nI_pos' (n := y) (by have h8 := sp_ho_n _ _ _ _ hy; rw [List.length_drop] at h8; have := hra.2.1; omega)) (by rw [z]; decide)))) (Nat.le_of_ble_eq_true rfl) ⟨(Nat.le_of_ble_eq_true rfl), (Nat.le_of_ble_eq_true rfl)⟩ rfl (Nat.le_of_ble_eq_true rfl) rfl rfl (fun _ _ h => h.elim) ?_
      rintro _ _ ⟨_, ⟨rfl, rfl⟩, rfl⟩
      refine j_iret dX8_rest_52 rfl rfl ?_ (Nat.le_of_ble_eq_true rfl) (Nat.le_of_ble_eq_true rfl)
      refine ⟨rfl, (by first | exact z_cwl | rfl), ?_⟩
      try rw [sp_i0]
      try rw [sp_i1]
      rw [sp_in' (n := k) (by have := hra.2.1; omega)]
      exact ⟨sp_k2c_0 (Or.inl rfl) (Or.inr rfl) hc21, rfl, (sp_CWe hra hrb ht0 ht1 ht2 he0 he9 hzm3 hzm4 hzm5 rfl)⟩
  · subst e_2
    refine j_astore (lo' := [(4, _), (0, _), (1, _), (2, _), (3, _)]) dX8_rest_5 rfl (by decide) rfl ?_
    refine j_aload_n dX8_rest_7 rfl rfl ?_
    refine j_iload_n dX8_rest_8 rfl ?_
    refine j_callV (q := (RX8, TX8, 9)) dX8_rest_9 kX8_hearerFor lX8_87 inX8_hearerFor seX8_hearerFor rfl rfl (z_dirX (c_X8_hearerFor_e hl _ _ _ _ _ _ _ _ _ _ _ _ _ _ _ _ _ _ _ _ _ _ _ _ _ _ _ _ _ _ _ _ _ _ _ _ _ _ _ _ _ _ _ _ _ _ _ _ _ _ _ _ _ _ _ _ _)) (Nat.le_of_ble_eq_true rfl) ⟨(Nat.le_of_ble_eq_true rfl), (Nat.le_of_ble_eq_true rfl)⟩ rfl (Nat.le_of_ble_eq_true rfl) rfl rfl (fun _ _ h => by obtain ⟨_, ⟨h1, rfl⟩, rfl⟩ := h; exact ⟨rfl, rfl, Or.inl ⟨h1.1, sp_k2c_1' h1.2⟩, rfl⟩) ?_
    rintro _ _ ⟨_, ⟨_, rfl, hr, rfl⟩, rfl⟩
    rcases hr with ⟨e_9, rfl⟩ | ⟨e_9, rfl⟩
    · subst e_9
      refine j_astore (lo' := [(5, _), (4, _), (0, _), (1, _), (2, _), (3, _)]) dX8_rest_12 rfl (by decide) rfl ?_
      refine j_iload_n dX8_rest_14 rfl ?_
      refine j_iconst (v := 0) dX8_rest_15 (by decide) ?_
      refine j_aload dX8_rest_16 rfl rfl ?_
      refine j_getf dX8_rest_18 fX8_68 rfl rfl ?_
      refine j_callS dX8_rest_21 kX8_checkRange lX8_72 stX8_checkRange (c_X8_checkRange_e hl _ _ _ _) (Nat.le_of_ble_eq_true rfl) ⟨(Nat.le_of_ble_eq_true rfl), (Nat.le_of_ble_eq_true rfl)⟩ rfl (Nat.le_of_ble_eq_true rfl) rfl rfl (fun _ _ h => by obtain ⟨h1, rfl⟩ := h; exact ⟨rfl, rfl, Or.inr ⟨h1.1, sp_k2c_2 (Or.inr rfl) (Or.inl rfl) (by rw [sp_i1]; exact h1.2)⟩, rfl⟩) ?_
      rintro _ _ ⟨⟨rfl, hc21⟩, rfl⟩
      obtain ⟨k, hk2, rfl⟩ := sp_nt (m := (sp_R S 1).length) rfl (by have := hrb.2.1; omega) hc21
      refine j_new (w' := (z_cw _ _ _ _ _ _ _ _ _ _ _ _ _ _ _ _ _ _ _ _ _ _ _ _ _ _ _ _ _ _ _ _ _ _ _ _ _ _ _ _ _ _ _ _ _ _ _ _ _ _ _ _ _ _ _ _ [.inr (7, [_, _, _, _, _])], z_no)) (n := 51) dX8_rest_24 nX8_91 rfl (z_al_l rfl rfl) (Nat.le_of_ble_eq_true rfl) (Nat.le_of_ble_eq_true rfl) ?_
      refine j_dup dX8_rest_27 rfl ?_
      refine j_aload dX8_rest_28 rfl rfl ?_
      refine j_callI dX8_rest_30 kX2_init rfl lX8_93 inX2_init rfl (z_frame [51, 6, 7, 8, 9] rfl (by decide) (Nat.le_of_ble_eq_true rfl) (c_X2_init_e hl _ _ _ _)) (Nat.le_of_ble_eq_true rfl) ⟨(Nat.le_of_ble_eq_true rfl), (Nat.le_of_ble_eq_true rfl)⟩ rfl (Nat.le_of_ble_eq_true rfl) rfl rfl (fun _ _ h => h.elim) ?_
      rintro _ _ ⟨_, _, ⟨rfl, rfl⟩, rfl, rfl⟩
      refine j_ws (L' := z_cw _ _ _ _ _ _ _ _ _ _ _ _ _ _ _ _ _ _ _ _ _ _ _ _ _ _ _ _ _ _ _ _ _ _ _ _ _ _ _ _ _ _ _ _ _ _ _ _ _ _ _ _ _ _ _ _ [.inr (7, [_, _, _, _, _])]) (by decide) rfl rfl ?_
      refine j_astore (lo' := [(6, _), (5, _), (4, _), (0, _), (1, _), (2, _), (3, _)]) dX8_rest_33 rfl (by decide) rfl ?_
      refine j_aload dX8_rest_35 rfl rfl ?_
      refine j_iload_n dX8_rest_37 rfl ?_
      refine j_callS dX8_rest_38 kX8_passBy lX8_104 stX8_passBy (z_frame [51, 6, 7, 8, 9] rfl (by decide) (Nat.le_of_ble_eq_true rfl) (c_X8_passBy_X2_e hl _ _ _ _ _ (sp_R S 1) _ k hrb rfl hk2)) (Nat.le_of_ble_eq_true rfl) ⟨(Nat.le_of_ble_eq_true rfl), (Nat.le_of_ble_eq_true rfl)⟩ rfl (Nat.le_of_ble_eq_true rfl) rfl rfl (fun _ _ h => h.elim) ?_
      rintro _ _ ⟨_, _, ⟨rfl, u9, rfl⟩, rfl, rfl⟩
      refine j_ws (L' := z_cw _ _ _ _ _ _ _ _ _ _ _ _ _ _ _ _ _ _ _ _ _ _ _ _ _ _ _ _ _ _ _ _ _ _ _ _ _ _ _ _ _ _ _ _ _ _ _ _ _ _ _ _ _ _ _ _ [.inr (7, [_, _, _, _, _])]) (by decide) rfl rfl ?_
      refine j_aload_n dX8_rest_41 rfl rfl ?_
      refine j_aload dX8_rest_42 rfl rfl ?_
      refine j_aload dX8_rest_44 rfl rfl ?_
      refine j_callS dX8_rest_46 kX8_hearOut lX8_96 stX8_hearOut (z_frame [51, 6, 7, 8, 9, 27, 28] rfl (by decide) (Nat.le_of_ble_eq_true rfl) (c_X8_hearOut_X2_e hl _ _ k _ _ _ (sp_R S 1) _ (sp_E S 0) _ hrb rfl (by omega) he0)) (Nat.le_of_ble_eq_true rfl) ⟨(Nat.le_of_ble_eq_true rfl), (Nat.le_of_ble_eq_true rfl)⟩ rfl (Nat.le_of_ble_eq_true rfl) rfl rfl (fun _ _ h => h.elim) ?_
      rintro _ _ ⟨_, _, ⟨rfl, _, _, ef9, he9, rfl⟩, rfl, rfl⟩
      refine j_ws (L' := z_cw _ _ _ _ _ _ _ _ _ _ _ _ _ _ _ _ _ _ _ _ _ _ _ _ _ _ _ _ _ _ _ _ _ _ _ _ _ _ _ _ _ _ _ _ _ _ _ _ _ _ _ _ _ _ _ _ [.inr (7, [_, _, _, _, _])]) (by decide) rfl rfl ?_
      refine j_lo (lo' := []) z_q0 ?_
      refine j_dropL (n := 51) rfl (Nat.le_of_ble_eq_true rfl) (Nat.le_of_ble_eq_true rfl) (Nat.le_of_ble_eq_true rfl) z_cwc rfl rfl ?_
      refine j_w (z_cw _ _ _ _ _ _ _ _ _ _ _ _ _ _ _ _ _ _ _ _ _ _ _ _ _ _ _ _ _ _ _ _ _ _ _ _ _ _ _ _ _ _ _ _ _ _ _ _ _ _ _ _ _ _ _ _ [], z_no) rfl ?_
      refine j_callV (q := (RX8, TX8, 9)) dX8_rest_49 kX8_answer lX8_100 inX8_answer seX8_answer rfl rfl (z_dirF (c_X8_answer_f_e hl _ _ _ _ _ _ _ _ _ _ _ _ _ _ _ _ _ _ _ _ _ _ _ _ _ _ _ _ _ _ _ _ _ _ _ _ _ _ _ _ _ _ _ _ _ _ _ _ _ _ _ _ _ _ _ _ (sp_hr S 1 0 k).1 nI (fun y hy z => absurd (nI_pos' (n := y) (by have h8 := sp_ho_n _ _ _ _ hy; rw [List.length_drop] at h8; have := hrb.2.1; omega)) (by rw [z]; decide)))) (Nat.le_of_ble_eq_true rfl) ⟨(Nat.le_of_ble_eq_true rfl), (Nat.le_of_ble_eq_true rfl)⟩ rfl (Nat.le_of_ble_eq_true rfl) rfl rfl (fun _ _ h => h.elim) ?_
      rintro _ _ ⟨_, ⟨rfl, rfl⟩, rfl⟩
      refine j_iret dX8_rest_52 rfl rfl ?_ (Nat.le_of_ble_eq_true rfl) (Nat.le_of_ble_eq_true rfl)
      refine ⟨rfl, (by first | exact z_cwl | rfl), ?_⟩
      try rw [sp_i0]
      try rw [sp_i1]
      rw [sp_in' (n := k) (by have := hrb.2.1; omega)]
      exact ⟨sp_k2c_0 (Or.inr rfl) (Or.inl rfl) hc21, rfl, (sp_CWe hra hrb ht0 ht1 ht2 he9 he1 hzm3 hzm4 hzm5 rfl)⟩
    · subst e_9
      refine j_astore (lo' := [(5, _), (4, _), (0, _), (1, _), (2, _), (3, _)]) dX8_rest_12 rfl (by decide) rfl ?_
      refine j_iload_n dX8_rest_14 rfl ?_
      refine j_iconst (v := 0) dX8_rest_15 (by decide) ?_
      refine j_aload dX8_rest_16 rfl rfl ?_
      refine j_getf dX8_rest_18 fX8_68 rfl rfl ?_
      refine j_callS dX8_rest_21 kX8_checkRange lX8_72 stX8_checkRange (c_X8_checkRange_e hl _ _ _ _) (Nat.le_of_ble_eq_true rfl) ⟨(Nat.le_of_ble_eq_true rfl), (Nat.le_of_ble_eq_true rfl)⟩ rfl (Nat.le_of_ble_eq_true rfl) rfl rfl (fun _ _ h => by obtain ⟨h1, rfl⟩ := h; exact ⟨rfl, rfl, Or.inr ⟨h1.1, sp_k2c_2 (Or.inr rfl) (Or.inr rfl) (by rw [sp_i1]; exact h1.2)⟩, rfl⟩) ?_
      rintro _ _ ⟨⟨rfl, hc21⟩, rfl⟩
      obtain ⟨k, hk2, rfl⟩ := sp_nt (m := (sp_R S 1).length) rfl (by have := hrb.2.1; omega) hc21
      refine j_new (w' := (z_cw _ _ _ _ _ _ _ _ _ _ _ _ _ _ _ _ _ _ _ _ _ _ _ _ _ _ _ _ _ _ _ _ _ _ _ _ _ _ _ _ _ _ _ _ _ _ _ _ _ _ _ _ _ _ _ _ [.inr (7, [_, _, _, _, _])], z_no)) (n := 51) dX8_rest_24 nX8_91 rfl (z_al_l rfl rfl) (Nat.le_of_ble_eq_true rfl) (Nat.le_of_ble_eq_true rfl) ?_
      refine j_dup dX8_rest_27 rfl ?_
      refine j_aload dX8_rest_28 rfl rfl ?_
      refine j_callI dX8_rest_30 kX2_init rfl lX8_93 inX2_init rfl (z_frame [51, 6, 7, 8, 9] rfl (by decide) (Nat.le_of_ble_eq_true rfl) (c_X2_init_e hl _ _ _ _)) (Nat.le_of_ble_eq_true rfl) ⟨(Nat.le_of_ble_eq_true rfl), (Nat.le_of_ble_eq_true rfl)⟩ rfl (Nat.le_of_ble_eq_true rfl) rfl rfl (fun _ _ h => h.elim) ?_
      rintro _ _ ⟨_, _, ⟨rfl, rfl⟩, rfl, rfl⟩
      refine j_ws (L' := z_cw _ _ _ _ _ _ _ _ _ _ _ _ _ _ _ _ _ _ _ _ _ _ _ _ _ _ _ _ _ _ _ _ _ _ _ _ _ _ _ _ _ _ _ _ _ _ _ _ _ _ _ _ _ _ _ _ [.inr (7, [_, _, _, _, _])]) (by decide) rfl rfl ?_
      refine j_astore (lo' := [(6, _), (5, _), (4, _), (0, _), (1, _), (2, _), (3, _)]) dX8_rest_33 rfl (by decide) rfl ?_
      refine j_aload dX8_rest_35 rfl rfl ?_
      refine j_iload_n dX8_rest_37 rfl ?_
      refine j_callS dX8_rest_38 kX8_passBy lX8_104 stX8_passBy (z_frame [51, 6, 7, 8, 9] rfl (by decide) (Nat.le_of_ble_eq_true rfl) (c_X8_passBy_X2_e hl _ _ _ _ _ (sp_R S 1) _ k hrb rfl hk2)) (Nat.le_of_ble_eq_true rfl) ⟨(Nat.le_of_ble_eq_true rfl), (Nat.le_of_ble_eq_true rfl)⟩ rfl (Nat.le_of_ble_eq_true rfl) rfl rfl (fun _ _ h => h.elim) ?_
      rintro _ _ ⟨_, _, ⟨rfl, u9, rfl⟩, rfl, rfl⟩
      refine j_ws (L' := z_cw _ _ _ _ _ _ _ _ _ _ _ _ _ _ _ _ _ _ _ _ _ _ _ _ _ _ _ _ _ _ _ _ _ _ _ _ _ _ _ _ _ _ _ _ _ _ _ _ _ _ _ _ _ _ _ _ [.inr (7, [_, _, _, _, _])]) (by decide) rfl rfl ?_
      refine j_aload_n dX8_rest_41 rfl rfl ?_
      refine j_aload dX8_rest_42 rfl rfl ?_
      refine j_aload dX8_rest_44 rfl rfl ?_
      refine j_callS dX8_rest_46 kX8_hearOut lX8_96 stX8_hearOut (z_frame [51, 6, 7, 8, 9, 29, 30] rfl (by decide) (Nat.le_of_ble_eq_true rfl) (c_X8_hearOut_X2_e hl _ _ k _ _ _ (sp_R S 1) _ (sp_E S 1) _ hrb rfl (by omega) he1)) (Nat.le_of_ble_eq_true rfl) ⟨(Nat.le_of_ble_eq_true rfl), (Nat.le_of_ble_eq_true rfl)⟩ rfl (Nat.le_of_ble_eq_true rfl) rfl rfl (fun _ _ h => h.elim) ?_
      rintro _ _ ⟨_, _, ⟨rfl, _, _, ef9, he9, rfl⟩, rfl, rfl⟩
      refine j_ws (L' := z_cw _ _ _ _ _ _ _ _ _ _ _ _ _ _ _ _ _ _ _ _ _ _ _ _ _ _ _ _ _ _ _ _ _ _ _ _ _ _ _ _ _ _ _ _ _ _ _ _ _ _ _ _ _ _ _ _ [.inr (7, [_, _, _, _, _])]) (by decide) rfl rfl ?_
      refine j_lo (lo' := []) z_q0 ?_
      refine j_dropL (n := 51) rfl (Nat.le_of_ble_eq_true rfl) (Nat.le_of_ble_eq_true rfl) (Nat.le_of_ble_eq_true rfl) z_cwc rfl rfl ?_
      refine j_w (z_cw _ _ _ _ _ _ _ _ _ _ _ _ _ _ _ _ _ _ _ _ _ _ _ _ _ _ _ _ _ _ _ _ _ _ _ _ _ _ _ _ _ _ _ _ _ _ _ _ _ _ _ _ _ _ _ _ [], z_no) rfl ?_
      refine j_callV (q := (RX8, TX8, 9)) dX8_rest_49 kX8_answer lX8_100 inX8_answer seX8_answer rfl rfl (z_dirF (c_X8_answer_f_e hl _ _ _ _ _ _ _ _ _ _ _ _ _ _ _ _ _ _ _ _ _ _ _ _ _ _ _ _ _ _ _ _ _ _ _ _ _ _ _ _ _ _ _ _ _ _ _ _ _ _ _ _ _ _ _ _ (sp_hr S 1 1 k).1 nI (fun y hy z => absurd (nI_pos' (n := y) (by have h8 := sp_ho_n _ _ _ _ hy; rw [List.length_drop] at h8; have := hrb.2.1; omega)) (by rw [z]; decide)))) (Nat.le_of_ble_eq_true rfl) ⟨(Nat.le_of_ble_eq_true rfl), (Nat.le_of_ble_eq_true rfl)⟩ rfl (Nat.le_of_ble_eq_true rfl) rfl rfl (fun _ _ h => h.elim) ?_
      rintro _ _ ⟨_, ⟨rfl, rfl⟩, rfl⟩
      refine j_iret dX8_rest_52 rfl rfl ?_ (Nat.le_of_ble_eq_true rfl) (Nat.le_of_ble_eq_true rfl)
      refine ⟨rfl, (by first | exact z_cwl | rfl), ?_⟩
      try rw [sp_i1]
      rw [sp_in' (n := k) (by have := hrb.2.1; omega)]
      exact ⟨sp_k2c_0 (Or.inr rfl) (Or.inr rfl) hc21, rfl, (sp_CWe hra hrb ht0 ht1 ht2 he0 he9 hzm3 hzm4 hzm5 rfl)⟩
set_option maxRecDepth 100000 in
set_option maxHeartbeats 8000000 in
theorem c_X8_removeIf_p (hl : l.stackTraces = false) (S : sp_S) (fa : Nat → Int32) (fb : Nat → Int32) (mt : Int32) (ft : Nat → Int32) (ct : Nat → Int32) (f0 : Nat → Int32) (g0 : Nat → Int32) (f1 : Nat → Int32) (g1 : Nat → Int32) (c1 : Nat → Int32) (f2 : Nat → Int32) (g2 : Nat → Int32) (c2 : Nat → Int32) (f3 : Nat → Int32) (g3 : Nat → Int32) (c3 : Nat → Int32) (m3 : Int32) (f4 : Nat → Int32) (g4 : Nat → Int32) (c4 : Nat → Int32) (m4 : Int32) (f5 : Nat → Int32) (g5 : Nat → Int32) (c5 : Nat → Int32) (m5 : Int32) (ef0 : Nat → Int32) (ef1 : Nat → Int32) (r : Int32) (t : Int32) (n : Int32) (ok : sp_ok S) (hra : z_row 12 (nI (sp_R S 0).length) fa (sp_R S 0)) (hrb : z_row 12 (nI (sp_R S 1).length) fb (sp_R S 1)) (ht0 : z_tba f0 g0 (sp_T S 0)) (ht1 : z_tba f1 g1 (sp_T S 1)) (ht2 : z_tba f2 g2 (sp_T S 2)) (he0 : z_row 10 (nI (sp_E S 0).2.length) ef0 (sp_E S 0).2) (he1 : z_row 10 (nI (sp_E S 1).2.length) ef1 (sp_E S 1).2) (hzm3 : z_m20 m3) (hzm4 : z_m20 m4) (hzm5 : z_m20 m5) : z_CX G l mX8_removeIf 20 14 120 (z_cw S.1.1 S.1.2 (nI (sp_R S 0).length) (sp_F S 0) fa (sp_C S 0) (nI (sp_R S 1).length) (sp_F S 1) fb (sp_C S 1) mt false ft ct f0 g0 (sp_C S 2) (nI (sp_T S 0).length) 0 f1 g1 c1 (nI (sp_T S 1).length) 0 f2 g2 c2 (nI (sp_T S 2).length) 1 f3 g3 c3 m3 0 f4 g4 c4 m4 0 f5 g5 c5 m5 1 (nI (sp_E S 0).2.length) (sp_E S 0).1.2.1 (sp_E S 0).1.2.2.1 (sp_E S 0).1.2.2.2 (sp_E S 0).1.1 ef0 (nI (sp_E S 1).2.length) (sp_E S 1).1.2.1 (sp_E S 1).1.2.2.1 (sp_E S 1).1.2.2.2 (sp_E S 1).1.1 ef1 []) [.ref 0, .int r, .int t, .int n] (fun v L => q_k22 r ((t < 0 ∨ 5 < t) ∨ sp_bv n) = 0 ∧ v = some (.int (sp_ab (sp_sft S (sp_i r) t n).1)) ∧ sp_CW (sp_sftS S (sp_i r) t n) L) (fun E L => ((z_xI E ∧ q_k22 r ((t < 0 ∨ 5 < t) ∨ sp_bv n) = 1) ∨ (z_xA E ∧ q_k22 r ((t < 0 ∨ 5 < t) ∨ sp_bv n) = 2)) ∧ L = (z_cw S.1.1 S.1.2 (nI (sp_R S 0).length) (sp_F S 0) fa (sp_C S 0) (nI (sp_R S 1).length) (sp_F S 1) fb (sp_C S 1) mt false ft ct f0 g0 (sp_C S 2) (nI (sp_T S 0).length) 0 f1 g1 c1 (nI (sp_T S 1).length) 0 f2 g2 c2 (nI (sp_T S 2).length) 1 f3 g3 c3 m3 0 f4 g4 c4 m4 0 f5 g5 c5 m5 1 (nI (sp_E S 0).2.length) (sp_E S 0).1.2.1 (sp_E S 0).1.2.2.1 (sp_E S 0).1.2.2.2 (sp_E S 0).1.1 ef0 (nI (sp_E S 1).2.length) (sp_E S 1).1.2.1 (sp_E S 1).1.2.2.1 (sp_E S 1).1.2.2.2 (sp_E S 1).1.1 ef1 [])) := by
  refine z_body hl (by decide) rfl (Nat.le_of_ble_eq_true rfl) ?_
  show z_J G l mX8_removeIf (z_SX 20 14 120 (z_cw S.1.1 S.1.2 (nI (sp_R S 0).length) (sp_F S 0) fa (sp_C S 0) (nI (sp_R S 1).length) (sp_F S 1) fb (sp_C S 1) mt false ft ct f0 g0 (sp_C S 2) (nI (sp_T S 0).length) 0 f1 g1 c1 (nI (sp_T S 1).length) 0 f2 g2 c2 (nI (sp_T S 2).length) 1 f3 g3 c3 m3 0 f4 g4 c4 m4 0 f5 g5 c5 m5 1 (nI (sp_E S 0).2.length) (sp_E S 0).1.2.1 (sp_E S 0).1.2.2.1 (sp_E S 0).1.2.2.2 (sp_E S 0).1.1 ef0 (nI (sp_E S 1).2.length) (sp_E S 1).1.2.1 (sp_E S 1).1.2.2.1 (sp_E S 1).1.2.2.2 (sp_E S 1).1.1 ef1 []) (fun v L => q_k22 r ((t < 0 ∨ 5 < t) ∨ sp_bv n) = 0 ∧ v = some (.int (sp_ab (sp_sft S (sp_i r) t n).1)) ∧ sp_CW (sp_sftS S (sp_i r) t n) L) (fun E L => ((z_xI E ∧ q_k22 r ((t < 0 ∨ 5 < t) ∨ sp_bv n) = 1) ∨ (z_xA E ∧ q_k22 r ((t < 0 ∨ 5 < t) ∨ sp_bv n) = 2)) ∧ L = (z_cw S.1.1 S.1.2 (nI (sp_R S 0).length) (sp_F S 0) fa (sp_C S 0) (nI (sp_R S 1).length) (sp_F S 1) fb (sp_C S 1) mt false ft ct f0 g0 (sp_C S 2) (nI (sp_T S 0).length) 0 f1 g1 c1 (nI (sp_T S 1).length) 0 f2 g2 c2 (nI (sp_T S 2).length) 1 f3 g3 c3 m3 0 f4 g4 c4 m4 0 f5 g5 c5 m5 1 (nI (sp_E S 0).2.length) (sp_E S 0).1.2.1 (sp_E S 0).1.2.2.1 (sp_E S 0).1.2.2.2 (sp_E S 0).1.1 ef0 (nI (sp_E S 1).2.length) (sp_E S 1).1.2.1 (sp_E S 1).1.2.2.1 (sp_E S 1).1.2.2.2 (sp_E S 1).1.1 ef1 []))) 0 [(0, _), (1, _), (2, _), (3, _)] [] _ 0 0
  refine j_aload_n dX8_removeIf_0 rfl rfl ?_
  refine j_iload_n dX8_removeIf_1 rfl ?_
  refine j_callV (q := (RX8, TX8, 9)) dX8_removeIf_2 kX8_rowFor lX8_46 inX8_rowFor seX8_rowFor rfl rfl (z_dirX (c_X8_rowFor_e hl _ _ _ _ _ _ _ _ _ _ _ _ _ _ _ _ _ _ _ _ _ _ _ _ _ _ _ _ _ _ _ _ _ _ _ _ _ _ _ _ _ _ _ _ _ _ _ _ _ _ _ _ _ _ _ _ _)) (Nat.le_of_ble_eq_true rfl) ⟨(Nat.le_of_ble_eq_true rfl), (Nat.le_of_ble_eq_true rfl)⟩ rfl (Nat.le_of_ble_eq_true rfl) rfl rfl (fun _ _ h => by obtain ⟨_, ⟨h1, rfl⟩, rfl⟩ := h; exact ⟨rfl, rfl, Or.inl ⟨h1.1, sp_k22_1 h1.2⟩, rfl⟩) ?_
  rintro _ _ ⟨_, ⟨_, rfl, hr, rfl⟩, rfl⟩
  rcases hr with ⟨e_2, rfl⟩ | ⟨e_2, rfl⟩
  · subst e_2
    refine j_astore (lo' := [(4, _), (0, _), (1, _), (2, _), (3, _)]) dX8_removeIf_5 rfl (by decide) rfl ?_
    refine j_iload_n dX8_removeIf_7 rfl ?_
    refine j_iconst (v := 0) dX8_removeIf_8 (by decide) ?_
    refine j_iconst (v := 5) dX8_removeIf_9 (by decide) ?_
    refine j_callS dX8_removeIf_10 kX8_checkRange lX8_72 stX8_checkRange (c_X8_checkRange_e hl _ _ _ _) (Nat.le_of_ble_eq_true rfl) ⟨(Nat.le_of_ble_eq_true rfl), (Nat.le_of_ble_eq_true rfl)⟩ rfl (Nat.le_of_ble_eq_true rfl) rfl rfl (fun _ _ h => by obtain ⟨h1, rfl⟩ := h; exact ⟨rfl, rfl, Or.inr ⟨h1.1, sp_k22_2 (Or.inl rfl) (Or.inl h1.2)⟩, rfl⟩) ?_
    rintro _ _ ⟨⟨rfl, hc10⟩, rfl⟩
    refine j_iload_n dX8_removeIf_13 rfl ?_
    refine j_callS dX8_removeIf_14 kX8_checkValue lX8_50 stX8_checkValue (c_X8_checkValue_e hl _ _) (Nat.le_of_ble_eq_true rfl) ⟨(Nat.le_of_ble_eq_true rfl), (Nat.le_of_ble_eq_true rfl)⟩ rfl (Nat.le_of_ble_eq_true rfl) rfl rfl (fun _ _ h => by obtain ⟨h1, rfl⟩ := h; exact ⟨rfl, rfl, Or.inr ⟨h1.1, sp_k22_2 (Or.inl rfl) (Or.inr h1.2)⟩, rfl⟩) ?_
    rintro _ _ ⟨⟨rfl, hc14⟩, rfl⟩
    refine j_aload_n dX8_removeIf_17 rfl rfl ?_
    refine j_new (w' := (z_cw _ _ _ _ _ _ _ _ _ _ _ _ _ _ _ _ _ _ _ _ _ _ _ _ _ _ _ _ _ _ _ _ _ _ _ _ _ _ _ _ _ _ _ _ _ _ _ _ _ _ _ _ _ _ _ _ [.inr (7, [_, _, _, _, _])], z_no)) (n := 51) dX8_removeIf_18 nX8_91 rfl (z_al_l rfl rfl) (Nat.le_of_ble_eq_true rfl) (Nat.le_of_ble_eq_true rfl) ?_
    refine j_dup dX8_removeIf_21 rfl ?_
    refine j_aload dX8_removeIf_22 rfl rfl ?_
    refine j_callI dX8_removeIf_24 kX2_init rfl lX8_93 inX2_init rfl (z_frame [51, 2, 3, 4, 5] rfl (by decide) (Nat.le_of_ble_eq_true rfl) (c_X2_init_e hl _ _ _ _)) (Nat.le_of_ble_eq_true rfl) ⟨(Nat.le_of_ble_eq_true rfl), (Nat.le_of_ble_eq_true rfl)⟩ rfl (Nat.le_of_ble_eq_true rfl) rfl rfl (fun _ _ h => h.elim) ?_
    rintro _ _ ⟨_, _, ⟨rfl, rfl⟩, rfl, rfl⟩
    refine j_ws (L' := z_cw _ _ _ _ _ _ _ _ _ _ _ _ _ _ _ _ _ _ _ _ _ _ _ _ _ _ _ _ _ _ _ _ _ _ _ _ _ _ _ _ _ _ _ _ _ _ _ _ _ _ _ _ _ _ _ _ [.inr (7, [_, _, _, _, _])]) (by decide) rfl rfl ?_
    refine j_iload_n dX8_removeIf_27 rfl ?_
    refine j_iload_n dX8_removeIf_28 rfl ?_
    refine j_callS dX8_removeIf_29 kX8_takeEach lX8_108 stX8_takeEach (z_frame [51, 2, 3, 4, 5] rfl (by decide) (Nat.le_of_ble_eq_true rfl) (c_X8_takeEach_e hl _ _ _ _ _ (sp_R S 0) _ _ _ hra rfl)) (Nat.le_of_ble_eq_true rfl) ⟨(Nat.le_of_ble_eq_true rfl), (Nat.le_of_ble_eq_true rfl)⟩ rfl (Nat.le_of_ble_eq_true rfl) rfl rfl (fun _ _ h => h.elim) ?_
    rintro _ _ ⟨_, _, ⟨rfl, _, _, f9, hr9, rfl⟩, rfl, rfl⟩
    refine j_ws (L' := z_cw _ _ _ _ _ _ _ _ _ _ _ _ _ _ _ _ _ _ _ _ _ _ _ _ _ _ _ _ _ _ _ _ _ _ _ _ _ _ _ _ _ _ _ _ _ _ _ _ _ _ _ _ _ _ _ _ [.inr (7, [_, _, _, _, _])]) (by decide) rfl rfl ?_
    refine j_lo (lo' := []) z_q0 ?_
    refine j_dropL (n := 51) rfl (Nat.le_of_ble_eq_true rfl) (Nat.le_of_ble_eq_true rfl) (Nat.le_of_ble_eq_true rfl) z_cwc rfl rfl ?_
    refine j_w (z_cw _ _ _ _ _ _ _ _ _ _ _ _ _ _ _ _ _ _ _ _ _ _ _ _ _ _ _ _ _ _ _ _ _ _ _ _ _ _ _ _ _ _ _ _ _ _ _ _ _ _ _ _ _ _ _ _ [], z_no) rfl ?_
    refine j_callV (q := (RX8, TX8, 9)) dX8_removeIf_32 kX8_answer lX8_100 inX8_answer seX8_answer rfl rfl (z_dirF (c_X8_answer_f_e hl _ _ _ _ _ _ _ _ _ _ _ _ _ _ _ _ _ _ _ _ _ _ _ _ _ _ _ _ _ _ _ _ _ _ _ _ _ _ _ _ _ _ _ _ _ _ _ _ _ _ _ _ _ _ _ _ (sp_sft S 0 t n).1 z_bi (fun y _ => by cases y <;> decide))) (Nat.le_of_ble_eq_true rfl) ⟨(Nat.le_of_ble_eq_true rfl), (Nat.le_of_ble_eq_true rfl)⟩ rfl (Nat.le_of_ble_eq_true rfl) rfl rfl (fun _ _ h => h.elim) ?_
    rintro _ _ ⟨_, ⟨rfl, rfl⟩, rfl⟩
    refine j_iret dX8_removeIf_35 rfl rfl ?_ (Nat.le_of_ble_eq_true rfl) (Nat.le_of_ble_eq_true rfl)
    refine ⟨rfl, (by first | exact z_cwl | rfl), ?_⟩
    rw [sp_i0]
    exact ⟨sp_k22_0 (Or.inl rfl) (fun z => z.elim hc10 hc14), rfl, (sp_CWe hr9 hrb ht0 ht1 ht2 he0 he1 hzm3 hzm4 hzm5 rfl)⟩
  · subst e_2
    refine j_astore (lo' := [(4, _), (0, _), (1, _), (2, _), (3, _)]) dX8_removeIf_5 rfl (by decide) rfl ?_
    refine j_iload_n dX8_removeIf_7 rfl ?_
    refine j_iconst (v := 0) dX8_removeIf_8 (by decide) ?_
    refine j_iconst (v := 5) dX8_removeIf_9 (by decide) ?_
    refine j_callS dX8_removeIf_10 kX8_checkRange lX8_72 stX8_checkRange (c_X8_checkRange_e hl _ _ _ _) (Nat.le_of_ble_eq_true rfl) ⟨(Nat.le_of_ble_eq_true rfl), (Nat.le_of_ble_eq_true rfl)⟩ rfl (Nat.le_of_ble_eq_true rfl) rfl rfl (fun _ _ h => by obtain ⟨h1, rfl⟩ := h; exact ⟨rfl, rfl, Or.inr ⟨h1.1, sp_k22_2 (Or.inr rfl) (Or.inl h1.2)⟩, rfl⟩) ?_
    rintro _ _ ⟨⟨rfl, hc10⟩, rfl⟩
    refine j_iload_n dX8_removeIf_13 rfl ?_
    refine j_callS dX8_removeIf_14 kX8_checkValue lX8_50 stX8_checkValue (c_X8_checkValue_e hl _ _) (Nat.le_of_ble_eq_true rfl) ⟨(Nat.le_of_ble_eq_true rfl), (Nat.le_of_ble_eq_true rfl)⟩ rfl (Nat.le_of_ble_eq_true rfl) rfl rfl (fun _ _ h => by obtain ⟨h1, rfl⟩ := h; exact ⟨rfl, rfl, Or.inr ⟨h1.1, sp_k22_2 (Or.inr rfl) (Or.inr h1.2)⟩, rfl⟩) ?_
    rintro _ _ ⟨⟨rfl, hc14⟩, rfl⟩
    refine j_aload_n dX8_removeIf_17 rfl rfl ?_
    refine j_new (w' := (z_cw _ _ _ _ _ _ _ _ _ _ _ _ _ _ _ _ _ _ _ _ _ _ _ _ _ _ _ _ _ _ _ _ _ _ _ _ _ _ _ _ _ _ _ _ _ _ _ _ _ _ _ _ _ _ _ _ [.inr (7, [_, _, _, _, _])], z_no)) (n := 51) dX8_removeIf_18 nX8_91 rfl (z_al_l rfl rfl) (Nat.le_of_ble_eq_true rfl) (Nat.le_of_ble_eq_true rfl) ?_
    refine j_dup dX8_removeIf_21 rfl ?_
    refine j_aload dX8_removeIf_22 rfl rfl ?_
    refine j_callI dX8_removeIf_24 kX2_init rfl lX8_93 inX2_init rfl (z_frame [51, 6, 7, 8, 9] rfl (by decide) (Nat.le_of_ble_eq_true rfl) (c_X2_init_e hl _ _ _ _)) (Nat.le_of_ble_eq_true rfl) ⟨(Nat.le_of_ble_eq_true rfl), (Nat.le_of_ble_eq_true rfl)⟩ rfl (Nat.le_of_ble_eq_true rfl) rfl rfl (fun _ _ h => h.elim) ?_
    rintro _ _ ⟨_, _, ⟨rfl, rfl⟩, rfl, rfl⟩
    refine j_ws (L' := z_cw _ _ _ _ _ _ _ _ _ _ _ _ _ _ _ _ _ _ _ _ _ _ _ _ _ _ _ _ _ _ _ _ _ _ _ _ _ _ _ _ _ _ _ _ _ _ _ _ _ _ _ _ _ _ _ _ [.inr (7, [_, _, _, _, _])]) (by decide) rfl rfl ?_
    refine j_iload_n dX8_removeIf_27 rfl ?_
    refine j_iload_n dX8_removeIf_28 rfl ?_
    refine j_callS dX8_removeIf_29 kX8_takeEach lX8_108 stX8_takeEach (z_frame [51, 6, 7, 8, 9] rfl (by decide) (Nat.le_of_ble_eq_true rfl) (c_X8_takeEach_e hl _ _ _ _ _ (sp_R S 1) _ _ _ hrb rfl)) (Nat.le_of_ble_eq_true rfl) ⟨(Nat.le_of_ble_eq_true rfl), (Nat.le_of_ble_eq_true rfl)⟩ rfl (Nat.le_of_ble_eq_true rfl) rfl rfl (fun _ _ h => h.elim) ?_
    rintro _ _ ⟨_, _, ⟨rfl, _, _, f9, hr9, rfl⟩, rfl, rfl⟩
    refine j_ws (L' := z_cw _ _ _ _ _ _ _ _ _ _ _ _ _ _ _ _ _ _ _ _ _ _ _ _ _ _ _ _ _ _ _ _ _ _ _ _ _ _ _ _ _ _ _ _ _ _ _ _ _ _ _ _ _ _ _ _ [.inr (7, [_, _, _, _, _])]) (by decide) rfl rfl ?_
    refine j_lo (lo' := []) z_q0 ?_
    refine j_dropL (n := 51) rfl (Nat.le_of_ble_eq_true rfl) (Nat.le_of_ble_eq_true rfl) (Nat.le_of_ble_eq_true rfl) z_cwc rfl rfl ?_
    refine j_w (z_cw _ _ _ _ _ _ _ _ _ _ _ _ _ _ _ _ _ _ _ _ _ _ _ _ _ _ _ _ _ _ _ _ _ _ _ _ _ _ _ _ _ _ _ _ _ _ _ _ _ _ _ _ _ _ _ _ [], z_no) rfl ?_
    refine j_callV (q := (RX8, TX8, 9)) dX8_removeIf_32 kX8_answer lX8_100 inX8_answer seX8_answer rfl rfl (z_dirF (c_X8_answer_f_e hl _ _ _ _ _ _ _ _ _ _ _ _ _ _ _ _ _ _ _ _ _ _ _ _ _ _ _ _ _ _ _ _ _ _ _ _ _ _ _ _ _ _ _ _ _ _ _ _ _ _ _ _ _ _ _ _ (sp_sft S 1 t n).1 z_bi (fun y _ => by cases y <;> decide))) (Nat.le_of_ble_eq_true rfl) ⟨(Nat.le_of_ble_eq_true rfl), (Nat.le_of_ble_eq_true rfl)⟩ rfl (Nat.le_of_ble_eq_true rfl) rfl rfl (fun _ _ h => h.elim) ?_
    rintro _ _ ⟨_, ⟨rfl, rfl⟩, rfl⟩
    refine j_iret dX8_removeIf_35 rfl rfl ?_ (Nat.le_of_ble_eq_true rfl) (Nat.le_of_ble_eq_true rfl)
    refine ⟨rfl, (by first | exact z_cwl | rfl), ?_⟩
    rw [sp_i1]
    exact ⟨sp_k22_0 (Or.inr rfl) (fun z => z.elim hc10 hc14), rfl, (sp_CWe hra hr9 ht0 ht1 ht2 he0 he1 hzm3 hzm4 hzm5 rfl)⟩
set_option maxRecDepth 100000 in
set_option maxHeartbeats 8000000 in
theorem c_X8_replaceAll_p (hl : l.stackTraces = false) (S : sp_S) (fa : Nat → Int32) (fb : Nat → Int32) (mt : Int32) (ft : Nat → Int32) (ct : Nat → Int32) (f0 : Nat → Int32) (g0 : Nat → Int32) (f1 : Nat → Int32) (g1 : Nat → Int32) (c1 : Nat → Int32) (f2 : Nat → Int32) (g2 : Nat → Int32) (c2 : Nat → Int32) (f3 : Nat → Int32) (g3 : Nat → Int32) (c3 : Nat → Int32) (m3 : Int32) (f4 : Nat → Int32) (g4 : Nat → Int32) (c4 : Nat → Int32) (m4 : Int32) (f5 : Nat → Int32) (g5 : Nat → Int32) (c5 : Nat → Int32) (m5 : Int32) (ef0 : Nat → Int32) (ef1 : Nat → Int32) (r : Int32) (u : Int32) (n : Int32) (ok : sp_ok S) (hra : z_row 12 (nI (sp_R S 0).length) fa (sp_R S 0)) (hrb : z_row 12 (nI (sp_R S 1).length) fb (sp_R S 1)) (ht0 : z_tba f0 g0 (sp_T S 0)) (ht1 : z_tba f1 g1 (sp_T S 1)) (ht2 : z_tba f2 g2 (sp_T S 2)) (he0 : z_row 10 (nI (sp_E S 0).2.length) ef0 (sp_E S 0).2) (he1 : z_row 10 (nI (sp_E S 1).2.length) ef1 (sp_E S 1).2) (hzm3 : z_m20 m3) (hzm4 : z_m20 m4) (hzm5 : z_m20 m5) : z_CX G l mX8_replaceAll 20 14 120 (z_cw S.1.1 S.1.2 (nI (sp_R S 0).length) (sp_F S 0) fa (sp_C S 0) (nI (sp_R S 1).length) (sp_F S 1) fb (sp_C S 1) mt false ft ct f0 g0 (sp_C S 2) (nI (sp_T S 0).length) 0 f1 g1 c1 (nI (sp_T S 1).length) 0 f2 g2 c2 (nI (sp_T S 2).length) 1 f3 g3 c3 m3 0 f4 g4 c4 m4 0 f5 g5 c5 m5 1 (nI (sp_E S 0).2.length) (sp_E S 0).1.2.1 (sp_E S 0).1.2.2.1 (sp_E S 0).1.2.2.2 (sp_E S 0).1.1 ef0 (nI (sp_E S 1).2.length) (sp_E S 1).1.2.1 (sp_E S 1).1.2.2.1 (sp_E S 1).1.2.2.2 (sp_E S 1).1.1 ef1 []) [.ref 0, .int r, .int u, .int n] (fun v L => q_k22 r (¬ (u = 0 ∨ u = 1 ∨ u = 4) ∨ sp_bv n) = 0 ∧ v = some (.int (cond (sp_chg S (sp_i r) u n).1 (nI (sp_chg S (sp_i r) u n).2.2.length) (-9))) ∧ sp_CW (sp_chgS S (sp_i r) u n) L) (fun E L => ((z_xI E ∧ q_k22 r (¬ (u = 0 ∨ u = 1 ∨ u = 4) ∨ sp_bv n) = 1) ∨ (z_xA E ∧ q_k22 r (¬ (u = 0 ∨ u = 1 ∨ u = 4) ∨ sp_bv n) = 2)) ∧ L = (z_cw S.1.1 S.1.2 (nI (sp_R S 0).length) (sp_F S 0) fa (sp_C S 0) (nI (sp_R S 1).length) (sp_F S 1) fb (sp_C S 1) mt false ft ct f0 g0 (sp_C S 2) (nI (sp_T S 0).length) 0 f1 g1 c1 (nI (sp_T S 1).length) 0 f2 g2 c2 (nI (sp_T S 2).length) 1 f3 g3 c3 m3 0 f4 g4 c4 m4 0 f5 g5 c5 m5 1 (nI (sp_E S 0).2.length) (sp_E S 0).1.2.1 (sp_E S 0).1.2.2.1 (sp_E S 0).1.2.2.2 (sp_E S 0).1.1 ef0 (nI (sp_E S 1).2.length) (sp_E S 1).1.2.1 (sp_E S 1).1.2.2.1 (sp_E S 1).1.2.2.2 (sp_E S 1).1.1 ef1 [])) := by
  refine z_body hl (by decide) rfl (Nat.le_of_ble_eq_true rfl) ?_
  show z_J G l mX8_replaceAll (z_SX 20 14 120 (z_cw S.1.1 S.1.2 (nI (sp_R S 0).length) (sp_F S 0) fa (sp_C S 0) (nI (sp_R S 1).length) (sp_F S 1) fb (sp_C S 1) mt false ft ct f0 g0 (sp_C S 2) (nI (sp_T S 0).length) 0 f1 g1 c1 (nI (sp_T S 1).length) 0 f2 g2 c2 (nI (sp_T S 2).length) 1 f3 g3 c3 m3 0 f4 g4 c4 m4 0 f5 g5 c5 m5 1 (nI (sp_E S 0).2.length) (sp_E S 0).1.2.1 (sp_E S 0).1.2.2.1 (sp_E S 0).1.2.2.2 (sp_E S 0).1.1 ef0 (nI (sp_E S 1).2.length) (sp_E S 1).1.2.1 (sp_E S 1).1.2.2.1 (sp_E S 1).1.2.2.2 (sp_E S 1).1.1 ef1 []) (fun v L => q_k22 r (¬ (u = 0 ∨ u = 1 ∨ u = 4) ∨ sp_bv n) = 0 ∧ v = some (.int (cond (sp_chg S (sp_i r) u n).1 (nI (sp_chg S (sp_i r) u n).2.2.length) (-9))) ∧ sp_CW (sp_chgS S (sp_i r) u n) L) (fun E L => ((z_xI E ∧ q_k22 r (¬ (u = 0 ∨ u = 1 ∨ u = 4) ∨ sp_bv n) = 1) ∨ (z_xA E ∧ q_k22 r (¬ (u = 0 ∨ u = 1 ∨ u = 4) ∨ sp_bv n) = 2)) ∧ L = (z_cw S.1.1 S.1.2 (nI (sp_R S 0).length) (sp_F S 0) fa (sp_C S 0) (nI (sp_R S 1).length) (sp_F S 1) fb (sp_C S 1) mt false ft ct f0 g0 (sp_C S 2) (nI (sp_T S 0).length) 0 f1 g1 c1 (nI (sp_T S 1).length) 0 f2 g2 c2 (nI (sp_T S 2).length) 1 f3 g3 c3 m3 0 f4 g4 c4 m4 0 f5 g5 c5 m5 1 (nI (sp_E S 0).2.length) (sp_E S 0).1.2.1 (sp_E S 0).1.2.2.1 (sp_E S 0).1.2.2.2 (sp_E S 0).1.1 ef0 (nI (sp_E S 1).2.length) (sp_E S 1).1.2.1 (sp_E S 1).1.2.2.1 (sp_E S 1).1.2.2.2 (sp_E S 1).1.1 ef1 []))) 0 [(0, _), (1, _), (2, _), (3, _)] [] _ 0 0
  refine j_aload_n dX8_replaceAll_0 rfl rfl ?_
  refine j_iload_n dX8_replaceAll_1 rfl ?_
  refine j_callV (q := (RX8, TX8, 9)) dX8_replaceAll_2 kX8_rowFor lX8_46 inX8_rowFor seX8_rowFor rfl rfl (z_dirX (c_X8_rowFor_e hl _ _ _ _ _ _ _ _ _ _ _ _ _ _ _ _ _ _ _ _ _ _ _ _ _ _ _ _ _ _ _ _ _ _ _ _ _ _ _ _ _ _ _ _ _ _ _ _ _ _ _ _ _ _ _ _ _)) (Nat.le_of_ble_eq_true rfl) ⟨(Nat.le_of_ble_eq_true rfl), (Nat.le_of_ble_eq_true rfl)⟩ rfl (Nat.le_of_ble_eq_true rfl) rfl rfl (fun _ _ h => by obtain ⟨_, ⟨h1, rfl⟩, rfl⟩ := h; exact ⟨rfl, rfl, Or.inl ⟨h1.1, sp_k22_1 h1.2⟩, rfl⟩) ?_
  rintro _ _ ⟨_, ⟨_, rfl, hr, rfl⟩, rfl⟩
  rcases hr with ⟨e_2, rfl⟩ | ⟨e_2, rfl⟩
  · subst e_2
    refine j_astore (lo' := [(4, _), (0, _), (1, _), (2, _), (3, _)]) dX8_replaceAll_5 rfl (by decide) rfl ?_
    refine j_iload_n dX8_replaceAll_7 rfl ?_
    refine j_if_eq (tgt := 21) dX8_replaceAll_8 (by decide) (fun c_8 => ?_) (fun c_8 => ?_)
    · have hu : u = 0 ∨ u = 1 ∨ u = 4 := Or.inl c_8
      refine j_iconst (v := 1) dX8_replaceAll_21 (by decide) ?_
      refine j_goto (tgt := 26) dX8_replaceAll_22 (by decide) ?_
      refine j_callS dX8_replaceAll_26 kX8_checkRule lX8_112 stX8_checkRule (c_X8_checkRule_e hl _ _) (Nat.le_of_ble_eq_true rfl) ⟨(Nat.le_of_ble_eq_true rfl), (Nat.le_of_ble_eq_true rfl)⟩ rfl (Nat.le_of_ble_eq_true rfl) rfl rfl (fun _ _ h => by obtain ⟨h1, rfl⟩ := h; exact ⟨rfl, rfl, absurd h1.2 (by decide), rfl⟩) ?_
      rintro _ _ ⟨⟨rfl, hcr⟩, rfl⟩
      have hu2 : ¬ u = 2 := by rintro rfl; exact absurd hu (by decide)
      have hu3 : ¬ u = 3 := by rintro rfl; exact absurd hu (by decide)
      refine j_iload_n dX8_replaceAll_29 rfl ?_
      refine j_callS dX8_replaceAll_30 kX8_checkValue lX8_50 stX8_checkValue (c_X8_checkValue_e hl _ _) (Nat.le_of_ble_eq_true rfl) ⟨(Nat.le_of_ble_eq_true rfl), (Nat.le_of_ble_eq_true rfl)⟩ rfl (Nat.le_of_ble_eq_true rfl) rfl rfl (fun _ _ h => by obtain ⟨h1, rfl⟩ := h; exact ⟨rfl, rfl, Or.inr ⟨h1.1, sp_k22_2 (Or.inl rfl) (Or.inr h1.2)⟩, rfl⟩) ?_
      rintro _ _ ⟨⟨rfl, hc30⟩, rfl⟩
      refine j_new (w' := (z_cw _ _ _ _ _ _ _ _ _ _ _ _ _ _ _ _ _ _ _ _ _ _ _ _ _ _ _ _ _ _ _ _ _ _ _ _ _ _ _ _ _ _ _ _ _ _ _ _ _ _ _ _ _ _ _ _ [.inr (7, [_, _, _, _, _])], z_no)) (n := 51) dX8_replaceAll_33 nX8_91 rfl (z_al_l rfl rfl) (Nat.le_of_ble_eq_true rfl) (Nat.le_of_ble_eq_true rfl) ?_
      refine j_dup dX8_replaceAll_36 rfl ?_
      refine j_aload dX8_replaceAll_37 rfl rfl ?_
      refine j_callI dX8_replaceAll_39 kX2_init rfl lX8_93 inX2_init rfl (z_frame [51, 2, 3, 4, 5] rfl (by decide) (Nat.le_of_ble_eq_true rfl) (c_X2_init_e hl _ _ _ _)) (Nat.le_of_ble_eq_true rfl) ⟨(Nat.le_of_ble_eq_true rfl), (Nat.le_of_ble_eq_true rfl)⟩ rfl (Nat.le_of_ble_eq_true rfl) rfl rfl (fun _ _ h => h.elim) ?_
      rintro _ _ ⟨_, _, ⟨rfl, rfl⟩, rfl, rfl⟩
      refine j_ws (L' := z_cw _ _ _ _ _ _ _ _ _ _ _ _ _ _ _ _ _ _ _ _ _ _ _ _ _ _ _ _ _ _ _ _ _ _ _ _ _ _ _ _ _ _ _ _ _ _ _ _ _ _ _ _ _ _ _ _ [.inr (7, [_, _, _, _, _])]) (by decide) rfl rfl ?_
      refine j_iload_n dX8_replaceAll_42 rfl ?_
      refine j_iload_n dX8_replaceAll_43 rfl ?_
      refine j_callS dX8_replaceAll_44 kX8_changeEach lX8_115 stX8_changeEach (z_frame [51, 2, 3, 4, 5] rfl (by decide) (Nat.le_of_ble_eq_true rfl) (c_X8_changeEach_X2_e hl _ _ _ _ (sp_R S 0) _ _ _ hra rfl (ok.1 0 (by decide)).2 hu2 hu3 (sp_vl hc30))) (Nat.le_of_ble_eq_true rfl) ⟨(Nat.le_of_ble_eq_true rfl), (Nat.le_of_ble_eq_true rfl)⟩ rfl (Nat.le_of_ble_eq_true rfl) rfl rfl (fun _ _ h => h.elim) ?_
      rintro _ _ ⟨_, _, ⟨rfl, _, _, f9, hr9, rfl⟩, rfl, rfl⟩
      refine j_ws (L' := z_cw _ _ _ _ _ _ _ _ _ _ _ _ _ _ _ _ _ _ _ _ _ _ _ _ _ _ _ _ _ _ _ _ _ _ _ _ _ _ _ _ _ _ _ _ _ _ _ _ _ _ _ _ _ _ _ _ [.inr (7, [_, _, _, _, _])]) (by decide) rfl rfl ?_
      refine j_istore (lo' := [(5, _), (4, _), (0, _), (1, _), (2, _), (3, _)]) dX8_replaceAll_47 (by decide) rfl ?_
      refine j_dropL (n := 51) rfl (Nat.le_of_ble_eq_true rfl) (Nat.le_of_ble_eq_true rfl) (Nat.le_of_ble_eq_true rfl) z_cwc rfl rfl ?_
      refine j_w (z_cw _ _ _ _ _ _ _ _ _ _ _ _ _ _ _ _ _ _ _ _ _ _ _ _ _ _ _ _ _ _ _ _ _ _ _ _ _ _ _ _ _ _ _ _ _ _ _ _ _ _ _ _ _ _ _ _ [], z_no) rfl ?_
      refine j_iload dX8_replaceAll_49 rfl ?_
      refine j_if_eq (tgt := 62) dX8_replaceAll_51 (by decide) (fun c_51 => ?_) (fun c_51 => ?_)
      · have hb51 := z_bF c_51
        have hbl : (sp_chg S 0 u n).1 = false := hb51
        refine j_aload_n dX8_replaceAll_62 rfl rfl ?_
        refine j_callV (q := (RX8, TX8, 9)) dX8_replaceAll_63 kX8_refused lX8_119 inX8_refused seX8_refused rfl rfl (z_dirF (c_X8_refused_e hl _ _ _ _ _ _ _ _ _ _ _ _ _ _ _ _ _ _ _ _ _ _ _ _ _ _ _ _ _ _ _ _ _ _ _ _ _ _ _ _ _ _ _ _ _ _ _ _ _ _ _ _ _ _ _ _)) (Nat.le_of_ble_eq_true rfl) ⟨(Nat.le_of_ble_eq_true rfl), (Nat.le_of_ble_eq_true rfl)⟩ rfl (Nat.le_of_ble_eq_true rfl) rfl rfl (fun _ _ h => h.elim) ?_
        rintro _ _ ⟨_, ⟨rfl, rfl⟩, rfl⟩
        refine j_iret dX8_replaceAll_66 rfl rfl ?_ (Nat.le_of_ble_eq_true rfl) (Nat.le_of_ble_eq_true rfl)
        refine ⟨rfl, (by first | exact z_cwl | rfl), ?_⟩
        try rw [sp_i0]
        exact ⟨sp_k22_0 (Or.inl rfl) (fun z => z.elim (fun z => z hu) hc30), (by rw [hbl]; rfl), (sp_CWe hr9 hrb ht0 ht1 ht2 he0 he1 hzm3 hzm4 hzm5 ((by unfold sp_chgS; rw [hbl]; rfl)))⟩
      · have hb51 := z_bt c_51
        have hbl : (sp_chg S 0 u n).1 = true := hb51
        refine j_aload dX8_replaceAll_54 rfl rfl ?_
        refine j_getf dX8_replaceAll_56 fX8_68 rfl rfl ?_
        refine j_goto (tgt := 66) dX8_replaceAll_59 (by decide) ?_
        refine j_iret dX8_replaceAll_66 rfl rfl ?_ (Nat.le_of_ble_eq_true rfl) (Nat.le_of_ble_eq_true rfl)
        refine ⟨rfl, (by first | exact z_cwl | rfl), ?_⟩
        try rw [sp_i0]
        exact ⟨sp_k22_0 (Or.inl rfl) (fun z => z.elim (fun z => z hu) hc30), (by rw [hbl]; rfl), (sp_CWe hr9 hrb ht0 ht1 ht2 he0 he1 hzm3 hzm4 hzm5 ((by unfold sp_chgS; rw [hbl]; rfl)))⟩
    · refine j_iload_n dX8_replaceAll_11 rfl ?_
      refine j_iconst (v := 1) dX8_replaceAll_12 (by decide) ?_
      refine j_icmp_eq (tgt := 21) dX8_replaceAll_13 (by decide) (fun c_13 => ?_) (fun c_13 => ?_)
      · have hu : u = 0 ∨ u = 1 ∨ u = 4 := Or.inr (Or.inl c_13)
        refine j_iconst (v := 1) dX8_replaceAll_21 (by decide) ?_
        refine j_goto (tgt := 26) dX8_replaceAll_22 (by decide) ?_
        refine j_callS dX8_replaceAll_26 kX8_checkRule lX8_112 stX8_checkRule (c_X8_checkRule_e hl _ _) (Nat.le_of_ble_eq_true rfl) ⟨(Nat.le_of_ble_eq_true rfl), (Nat.le_of_ble_eq_true rfl)⟩ rfl (Nat.le_of_ble_eq_true rfl) rfl rfl (fun _ _ h => by obtain ⟨h1, rfl⟩ := h; exact ⟨rfl, rfl, absurd h1.2 (by decide), rfl⟩) ?_
        rintro _ _ ⟨⟨rfl, hcr⟩, rfl⟩
        have hu2 : ¬ u = 2 := by rintro rfl; exact absurd hu (by decide)
        have hu3 : ¬ u = 3 := by rintro rfl; exact absurd hu (by decide)
        refine j_iload_n dX8_replaceAll_29 rfl ?_
        refine j_callS dX8_replaceAll_30 kX8_checkValue lX8_50 stX8_checkValue (c_X8_checkValue_e hl _ _) (Nat.le_of_ble_eq_true rfl) ⟨(Nat.le_of_ble_eq_true rfl), (Nat.le_of_ble_eq_true rfl)⟩ rfl (Nat.le_of_ble_eq_true rfl) rfl rfl (fun _ _ h => by obtain ⟨h1, rfl⟩ := h; exact ⟨rfl, rfl, Or.inr ⟨h1.1, sp_k22_2 (Or.inl rfl) (Or.inr h1.2)⟩, rfl⟩) ?_
        rintro _ _ ⟨⟨rfl, hc30⟩, rfl⟩
        refine j_new (w' := (z_cw _ _ _ _ _ _ _ _ _ _ _ _ _ _ _ _ _ _ _ _ _ _ _ _ _ _ _ _ _ _ _ _ _ _ _ _ _ _ _ _ _ _ _ _ _ _ _ _ _ _ _ _ _ _ _ _ [.inr (7, [_, _, _, _, _])], z_no)) (n := 51) dX8_replaceAll_33 nX8_91 rfl (z_al_l rfl rfl) (Nat.le_of_ble_eq_true rfl) (Nat.le_of_ble_eq_true rfl) ?_
        refine j_dup dX8_replaceAll_36 rfl ?_
        refine j_aload dX8_replaceAll_37 rfl rfl ?_
        refine j_callI dX8_replaceAll_39 kX2_init rfl lX8_93 inX2_init rfl (z_frame [51, 2, 3, 4, 5] rfl (by decide) (Nat.le_of_ble_eq_true rfl) (c_X2_init_e hl _ _ _ _)) (Nat.le_of_ble_eq_true rfl) ⟨(Nat.le_of_ble_eq_true rfl), (Nat.le_of_ble_eq_true rfl)⟩ rfl (Nat.le_of_ble_eq_true rfl) rfl rfl (fun _ _ h => h.elim) ?_
        rintro _ _ ⟨_, _, ⟨rfl, rfl⟩, rfl, rfl⟩
        refine j_ws (L' := z_cw _ _ _ _ _ _ _ _ _ _ _ _ _ _ _ _ _ _ _ _ _ _ _ _ _ _ _ _ _ _ _ _ _ _ _ _ _ _ _ _ _ _ _ _ _ _ _ _ _ _ _ _ _ _ _ _ [.inr (7, [_, _, _, _, _])]) (by decide) rfl rfl ?_
        refine j_iload_n dX8_replaceAll_42 rfl ?_
        refine j_iload_n dX8_replaceAll_43 rfl ?_
        refine j_callS dX8_replaceAll_44 kX8_changeEach lX8_115 stX8_changeEach (z_frame [51, 2, 3, 4, 5] rfl (by decide) (Nat.le_of_ble_eq_true rfl) (c_X8_changeEach_X2_e hl _ _ _ _ (sp_R S 0) _ _ _ hra rfl (ok.1 0 (by decide)).2 hu2 hu3 (sp_vl hc30))) (Nat.le_of_ble_eq_true rfl) ⟨(Nat.le_of_ble_eq_true rfl), (Nat.le_of_ble_eq_true rfl)⟩ rfl (Nat.le_of_ble_eq_true rfl) rfl rfl (fun _ _ h => h.elim) ?_
        rintro _ _ ⟨_, _, ⟨rfl, _, _, f9, hr9, rfl⟩, rfl, rfl⟩
        refine j_ws (L' := z_cw _ _ _ _ _ _ _ _ _ _ _ _ _ _ _ _ _ _ _ _ _ _ _ _ _ _ _ _ _ _ _ _ _ _ _ _ _ _ _ _ _ _ _ _ _ _ _ _ _ _ _ _ _ _ _ _ [.inr (7, [_, _, _, _, _])]) (by decide) rfl rfl ?_
        refine j_istore (lo' := [(5, _), (4, _), (0, _), (1, _), (2, _), (3, _)]) dX8_replaceAll_47 (by decide) rfl ?_
        refine j_dropL (n := 51) rfl (Nat.le_of_ble_eq_true rfl) (Nat.le_of_ble_eq_true rfl) (Nat.le_of_ble_eq_true rfl) z_cwc rfl rfl ?_
        refine j_w (z_cw _ _ _ _ _ _ _ _ _ _ _ _ _ _ _ _ _ _ _ _ _ _ _ _ _ _ _ _ _ _ _ _ _ _ _ _ _ _ _ _ _ _ _ _ _ _ _ _ _ _ _ _ _ _ _ _ [], z_no) rfl ?_
        refine j_iload dX8_replaceAll_49 rfl ?_
        refine j_if_eq (tgt := 62) dX8_replaceAll_51 (by decide) (fun c_51 => ?_) (fun c_51 => ?_)
        · have hb51 := z_bF c_51
          have hbl : (sp_chg S 0 u n).1 = false := hb51
          refine j_aload_n dX8_replaceAll_62 rfl rfl ?_
          refine j_callV (q := (RX8, TX8, 9)) dX8_replaceAll_63 kX8_refused lX8_119 inX8_refused seX8_refused rfl rfl (z_dirF (c_X8_refused_e hl _ _ _ _ _ _ _ _ _ _ _ _ _ _ _ _ _ _ _ _ _ _ _ _ _ _ _ _ _ _ _ _ _ _ _ _ _ _ _ _ _ _ _ _ _ _ _ _ _ _ _ _ _ _ _ _)) (Nat.le_of_ble_eq_true rfl) ⟨(Nat.le_of_ble_eq_true rfl), (Nat.le_of_ble_eq_true rfl)⟩ rfl (Nat.le_of_ble_eq_true rfl) rfl rfl (fun _ _ h => h.elim) ?_
          rintro _ _ ⟨_, ⟨rfl, rfl⟩, rfl⟩
          refine j_iret dX8_replaceAll_66 rfl rfl ?_ (Nat.le_of_ble_eq_true rfl) (Nat.le_of_ble_eq_true rfl)
          refine ⟨rfl, (by first | exact z_cwl | rfl), ?_⟩
          try rw [sp_i0]
          exact ⟨sp_k22_0 (Or.inl rfl) (fun z => z.elim (fun z => z hu) hc30), (by rw [hbl]; rfl), (sp_CWe hr9 hrb ht0 ht1 ht2 he0 he1 hzm3 hzm4 hzm5 ((by unfold sp_chgS; rw [hbl]; rfl)))⟩
        · have hb51 := z_bt c_51
          have hbl : (sp_chg S 0 u n).1 = true := hb51
          refine j_aload dX8_replaceAll_54 rfl rfl ?_
          refine j_getf dX8_replaceAll_56 fX8_68 rfl rfl ?_
          refine j_goto (tgt := 66) dX8_replaceAll_59 (by decide) ?_
          refine j_iret dX8_replaceAll_66 rfl rfl ?_ (Nat.le_of_ble_eq_true rfl) (Nat.le_of_ble_eq_true rfl)
          refine ⟨rfl, (by first | exact z_cwl | rfl), ?_⟩
          try rw [sp_i0]
          exact ⟨sp_k22_0 (Or.inl rfl) (fun z => z.elim (fun z => z hu) hc30), (by rw [hbl]; rfl), (sp_CWe hr9 hrb ht0 ht1 ht2 he0 he1 hzm3 hzm4 hzm5 ((by unfold sp_chgS; rw [hbl]; rfl)))⟩
      · refine j_iload_n dX8_replaceAll_16 rfl ?_
        refine j_iconst (v := 4) dX8_replaceAll_17 (by decide) ?_
        refine j_icmp_ne (tgt := 25) dX8_replaceAll_18 (by decide) (fun c_18 => ?_) (fun c_18 => ?_)
        · have hnu : ¬ (u = 0 ∨ u = 1 ∨ u = 4) := (fun z => z.elim c_8 (fun z => z.elim c_13 c_18))
          refine j_iconst (v := 0) dX8_replaceAll_25 (by decide) ?_
          refine j_callS dX8_replaceAll_26 kX8_checkRule lX8_112 stX8_checkRule (c_X8_checkRule_e hl _ _) (Nat.le_of_ble_eq_true rfl) ⟨(Nat.le_of_ble_eq_true rfl), (Nat.le_of_ble_eq_true rfl)⟩ rfl (Nat.le_of_ble_eq_true rfl) rfl rfl (fun _ _ h => by obtain ⟨h1, rfl⟩ := h; exact ⟨rfl, rfl, Or.inr ⟨h1.1, sp_k22_2 (Or.inl rfl) (Or.inl hnu)⟩, rfl⟩) ?_
          rintro _ _ ⟨⟨rfl, hcr⟩, rfl⟩
          exact absurd rfl hcr
        · have hu : u = 0 ∨ u = 1 ∨ u = 4 := Or.inr (Or.inr (c_18))
          refine j_iconst (v := 1) dX8_replaceAll_21 (by decide) ?_
          refine j_goto (tgt := 26) dX8_replaceAll_22 (by decide) ?_
          refine j_callS dX8_replaceAll_26 kX8_checkRule lX8_112 stX8_checkRule (c_X8_checkRule_e hl _ _) (Nat.le_of_ble_eq_true rfl) ⟨(Nat.le_of_ble_eq_true rfl), (Nat.le_of_ble_eq_true rfl)⟩ rfl (Nat.le_of_ble_eq_true rfl) rfl rfl (fun _ _ h => by obtain ⟨h1, rfl⟩ := h; exact ⟨rfl, rfl, absurd h1.2 (by decide), rfl⟩) ?_
          rintro _ _ ⟨⟨rfl, hcr⟩, rfl⟩
          have hu2 : ¬ u = 2 := by rintro rfl; exact absurd hu (by decide)
          have hu3 : ¬ u = 3 := by rintro rfl; exact absurd hu (by decide)
          refine j_iload_n dX8_replaceAll_29 rfl ?_
          refine j_callS dX8_replaceAll_30 kX8_checkValue lX8_50 stX8_checkValue (c_X8_checkValue_e hl _ _) (Nat.le_of_ble_eq_true rfl) ⟨(Nat.le_of_ble_eq_true rfl), (Nat.le_of_ble_eq_true rfl)⟩ rfl (Nat.le_of_ble_eq_true rfl) rfl rfl (fun _ _ h => by obtain ⟨h1, rfl⟩ := h; exact ⟨rfl, rfl, Or.inr ⟨h1.1, sp_k22_2 (Or.inl rfl) (Or.inr h1.2)⟩, rfl⟩) ?_
          rintro _ _ ⟨⟨rfl, hc30⟩, rfl⟩
          refine j_new (w' := (z_cw _ _ _ _ _ _ _ _ _ _ _ _ _ _ _ _ _ _ _ _ _ _ _ _ _ _ _ _ _ _ _ _ _ _ _ _ _ _ _ _ _ _ _ _ _ _ _ _ _ _ _ _ _ _ _ _ [.inr (7, [_, _, _, _, _])], z_no)) (n := 51) dX8_replaceAll_33 nX8_91 rfl (z_al_l rfl rfl) (Nat.le_of_ble_eq_true rfl) (Nat.le_of_ble_eq_true rfl) ?_
          refine j_dup dX8_replaceAll_36 rfl ?_
          refine j_aload dX8_replaceAll_37 rfl rfl ?_
          refine j_callI dX8_replaceAll_39 kX2_init rfl lX8_93 inX2_init rfl (z_frame [51, 2, 3, 4, 5] rfl (by decide) (Nat.le_of_ble_eq_true rfl) (c_X2_init_e hl _ _ _ _)) (Nat.le_of_ble_eq_true rfl) ⟨(Nat.le_of_ble_eq_true rfl), (Nat.le_of_ble_eq_true rfl)⟩ rfl (Nat.le_of_ble_eq_true rfl) rfl rfl (fun _ _ h => h.elim) ?_
          rintro _ _ ⟨_, _, ⟨rfl, rfl⟩, rfl, rfl⟩
          refine j_ws (L' := z_cw _ _ _ _ _ _ _ _ _ _ _ _ _ _ _ _ _ _ _ _ _ _ _ _ _ _ _ _ _ _ _ _ _ _ _ _ _ _ _ _ _ _ _ _ _ _ _ _ _ _ _ _ _ _ _ _ [.inr (7, [_, _, _, _, _])]) (by decide) rfl rfl ?_
          refine j_iload_n dX8_replaceAll_42 rfl ?_
          refine j_iload_n dX8_replaceAll_43 rfl ?_
          refine j_callS dX8_replaceAll_44 kX8_changeEach lX8_115 stX8_changeEach (z_frame [51, 2, 3, 4, 5] rfl (by decide) (Nat.le_of_ble_eq_true rfl) (c_X8_changeEach_X2_e hl _ _ _ _ (sp_R S 0) _ _ _ hra rfl (ok.1 0 (by decide)).2 hu2 hu3 (sp_vl hc30))) (Nat.le_of_ble_eq_true rfl) ⟨(Nat.le_of_ble_eq_true rfl), (Nat.le_of_ble_eq_true rfl)⟩ rfl (Nat.le_of_ble_eq_true rfl) rfl rfl (fun _ _ h => h.elim) ?_
          rintro _ _ ⟨_, _, ⟨rfl, _, _, f9, hr9, rfl⟩, rfl, rfl⟩
          refine j_ws (L' := z_cw _ _ _ _ _ _ _ _ _ _ _ _ _ _ _ _ _ _ _ _ _ _ _ _ _ _ _ _ _ _ _ _ _ _ _ _ _ _ _ _ _ _ _ _ _ _ _ _ _ _ _ _ _ _ _ _ [.inr (7, [_, _, _, _, _])]) (by decide) rfl rfl ?_
          refine j_istore (lo' := [(5, _), (4, _), (0, _), (1, _), (2, _), (3, _)]) dX8_replaceAll_47 (by decide) rfl ?_
          refine j_dropL (n := 51) rfl (Nat.le_of_ble_eq_true rfl) (Nat.le_of_ble_eq_true rfl) (Nat.le_of_ble_eq_true rfl) z_cwc rfl rfl ?_
          refine j_w (z_cw _ _ _ _ _ _ _ _ _ _ _ _ _ _ _ _ _ _ _ _ _ _ _ _ _ _ _ _ _ _ _ _ _ _ _ _ _ _ _ _ _ _ _ _ _ _ _ _ _ _ _ _ _ _ _ _ [], z_no) rfl ?_
          refine j_iload dX8_replaceAll_49 rfl ?_
          refine j_if_eq (tgt := 62) dX8_replaceAll_51 (by decide) (fun c_51 => ?_) (fun c_51 => ?_)
          · have hb51 := z_bF c_51
            have hbl : (sp_chg S 0 u n).1 = false := hb51
            refine j_aload_n dX8_replaceAll_62 rfl rfl ?_
            refine j_callV (q := (RX8, TX8, 9)) dX8_replaceAll_63 kX8_refused lX8_119 inX8_refused seX8_refused rfl rfl (z_dirF (c_X8_refused_e hl _ _ _ _ _ _ _ _ _ _ _ _ _ _ _ _ _ _ _ _ _ _ _ _ _ _ _ _ _ _ _ _ _ _ _ _ _ _ _ _ _ _ _ _ _ _ _ _ _ _ _ _ _ _ _ _)) (Nat.le_of_ble_eq_true rfl) ⟨(Nat.le_of_ble_eq_true rfl), (Nat.le_of_ble_eq_true rfl)⟩ rfl (Nat.le_of_ble_eq_true rfl) rfl rfl (fun _ _ h => h.elim) ?_
            rintro _ _ ⟨_, ⟨rfl, rfl⟩, rfl⟩
            refine j_iret dX8_replaceAll_66 rfl rfl ?_ (Nat.le_of_ble_eq_true rfl) (Nat.le_of_ble_eq_true rfl)
            refine ⟨rfl, (by first | exact z_cwl | rfl), ?_⟩
            try rw [sp_i0]
            exact ⟨sp_k22_0 (Or.inl rfl) (fun z => z.elim (fun z => z hu) hc30), (by rw [hbl]; rfl), (sp_CWe hr9 hrb ht0 ht1 ht2 he0 he1 hzm3 hzm4 hzm5 ((by unfold sp_chgS; rw [hbl]; rfl)))⟩
          · have hb51 := z_bt c_51
            have hbl : (sp_chg S 0 u n).1 = true := hb51
            refine j_aload dX8_replaceAll_54 rfl rfl ?_
            refine j_getf dX8_replaceAll_56 fX8_68 rfl rfl ?_
            refine j_goto (tgt := 66) dX8_replaceAll_59 (by decide) ?_
            refine j_iret dX8_replaceAll_66 rfl rfl ?_ (Nat.le_of_ble_eq_true rfl) (Nat.le_of_ble_eq_true rfl)
            refine ⟨rfl, (by first | exact z_cwl | rfl), ?_⟩
            try rw [sp_i0]
            exact ⟨sp_k22_0 (Or.inl rfl) (fun z => z.elim (fun z => z hu) hc30), (by rw [hbl]; rfl), (sp_CWe hr9 hrb ht0 ht1 ht2 he0 he1 hzm3 hzm4 hzm5 ((by unfold sp_chgS; rw [hbl]; rfl)))⟩
  · subst e_2
    refine j_astore (lo' := [(4, _), (0, _), (1, _), (2, _), (3, _)]) dX8_replaceAll_5 rfl (by decide) rfl ?_
    refine j_iload_n dX8_replaceAll_7 rfl ?_
    refine j_if_eq (tgt := 21) dX8_replaceAll_8 (by decide) (fun c_8 => ?_) (fun c_8 => ?_)
    · have hu : u = 0 ∨ u = 1 ∨ u = 4 := Or.inl c_8
      refine j_iconst (v := 1) dX8_replaceAll_21 (by decide) ?_
      refine j_goto (tgt := 26) dX8_replaceAll_22 (by decide) ?_
      refine j_callS dX8_replaceAll_26 kX8_checkRule lX8_112 stX8_checkRule (c_X8_checkRule_e hl _ _) (Nat.le_of_ble_eq_true rfl) ⟨(Nat.le_of_ble_eq_true rfl), (Nat.le_of_ble_eq_true rfl)⟩ rfl (Nat.le_of_ble_eq_true rfl) rfl rfl (fun _ _ h => by obtain ⟨h1, rfl⟩ := h; exact ⟨rfl, rfl, absurd h1.2 (by decide), rfl⟩) ?_
      rintro _ _ ⟨⟨rfl, hcr⟩, rfl⟩
      have hu2 : ¬ u = 2 := by rintro rfl; exact absurd hu (by decide)
      have hu3 : ¬ u = 3 := by rintro rfl; exact absurd hu (by decide)
      refine j_iload_n dX8_replaceAll_29 rfl ?_
      refine j_callS dX8_replaceAll_30 kX8_checkValue lX8_50 stX8_checkValue (c_X8_checkValue_e hl _ _) (Nat.le_of_ble_eq_true rfl) ⟨(Nat.le_of_ble_eq_true rfl), (Nat.le_of_ble_eq_true rfl)⟩ rfl (Nat.le_of_ble_eq_true rfl) rfl rfl (fun _ _ h => by obtain ⟨h1, rfl⟩ := h; exact ⟨rfl, rfl, Or.inr ⟨h1.1, sp_k22_2 (Or.inr rfl) (Or.inr h1.2)⟩, rfl⟩) ?_
      rintro _ _ ⟨⟨rfl, hc30⟩, rfl⟩
      refine j_new (w' := (z_cw _ _ _ _ _ _ _ _ _ _ _ _ _ _ _ _ _ _ _ _ _ _ _ _ _ _ _ _ _ _ _ _ _ _ _ _ _ _ _ _ _ _ _ _ _ _ _ _ _ _ _ _ _ _ _ _ [.inr (7, [_, _, _, _, _])], z_no)) (n := 51) dX8_replaceAll_33 nX8_91 rfl (z_al_l rfl rfl) (Nat.le_of_ble_eq_true rfl) (Nat.le_of_ble_eq_true rfl) ?_
      refine j_dup dX8_replaceAll_36 rfl ?_
      refine j_aload dX8_replaceAll_37 rfl rfl ?_
      refine j_callI dX8_replaceAll_39 kX2_init rfl lX8_93 inX2_init rfl (z_frame [51, 6, 7, 8, 9] rfl (by decide) (Nat.le_of_ble_eq_true rfl) (c_X2_init_e hl _ _ _ _)) (Nat.le_of_ble_eq_true rfl) ⟨(Nat.le_of_ble_eq_true rfl), (Nat.le_of_ble_eq_true rfl)⟩ rfl (Nat.le_of_ble_eq_true rfl) rfl rfl (fun _ _ h => h.elim) ?_
      rintro _ _ ⟨_, _, ⟨rfl, rfl⟩, rfl, rfl⟩
      refine j_ws (L' := z_cw _ _ _ _ _ _ _ _ _ _ _ _ _ _ _ _ _ _ _ _ _ _ _ _ _ _ _ _ _ _ _ _ _ _ _ _ _ _ _ _ _ _ _ _ _ _ _ _ _ _ _ _ _ _ _ _ [.inr (7, [_, _, _, _, _])]) (by decide) rfl rfl ?_
      refine j_iload_n dX8_replaceAll_42 rfl ?_
      refine j_iload_n dX8_replaceAll_43 rfl ?_
      refine j_callS dX8_replaceAll_44 kX8_changeEach lX8_115 stX8_changeEach (z_frame [51, 6, 7, 8, 9] rfl (by decide) (Nat.le_of_ble_eq_true rfl) (c_X8_changeEach_X2_e hl _ _ _ _ (sp_R S 1) _ _ _ hrb rfl (ok.1 1 (by decide)).2 hu2 hu3 (sp_vl hc30))) (Nat.le_of_ble_eq_true rfl) ⟨(Nat.le_of_ble_eq_true rfl), (Nat.le_of_ble_eq_true rfl)⟩ rfl (Nat.le_of_ble_eq_true rfl) rfl rfl (fun _ _ h => h.elim) ?_
      rintro _ _ ⟨_, _, ⟨rfl, _, _, f9, hr9, rfl⟩, rfl, rfl⟩
      refine j_ws (L' := z_cw _ _ _ _ _ _ _ _ _ _ _ _ _ _ _ _ _ _ _ _ _ _ _ _ _ _ _ _ _ _ _ _ _ _ _ _ _ _ _ _ _ _ _ _ _ _ _ _ _ _ _ _ _ _ _ _ [.inr (7, [_, _, _, _, _])]) (by decide) rfl rfl ?_
      refine j_istore (lo' := [(5, _), (4, _), (0, _), (1, _), (2, _), (3, _)]) dX8_replaceAll_47 (by decide) rfl ?_
      refine j_dropL (n := 51) rfl (Nat.le_of_ble_eq_true rfl) (Nat.le_of_ble_eq_true rfl) (Nat.le_of_ble_eq_true rfl) z_cwc rfl rfl ?_
      refine j_w (z_cw _ _ _ _ _ _ _ _ _ _ _ _ _ _ _ _ _ _ _ _ _ _ _ _ _ _ _ _ _ _ _ _ _ _ _ _ _ _ _ _ _ _ _ _ _ _ _ _ _ _ _ _ _ _ _ _ [], z_no) rfl ?_
      refine j_iload dX8_replaceAll_49 rfl ?_
      refine j_if_eq (tgt := 62) dX8_replaceAll_51 (by decide) (fun c_51 => ?_) (fun c_51 => ?_)
      · have hb51 := z_bF c_51
        have hbl : (sp_chg S 1 u n).1 = false := hb51
        refine j_aload_n dX8_replaceAll_62 rfl rfl ?_
        refine j_callV (q := (RX8, TX8, 9)) dX8_replaceAll_63 kX8_refused lX8_119 inX8_refused seX8_refused rfl rfl (z_dirF (c_X8_refused_e hl _ _ _ _ _ _ _ _ _ _ _ _ _ _ _ _ _ _ _ _ _ _ _ _ _ _ _ _ _ _ _ _ _ _ _ _ _ _ _ _ _ _ _ _ _ _ _ _ _ _ _ _ _ _ _ _)) (Nat.le_of_ble_eq_true rfl) ⟨(Nat.le_of_ble_eq_true rfl), (Nat.le_of_ble_eq_true rfl)⟩ rfl (Nat.le_of_ble_eq_true rfl) rfl rfl (fun _ _ h => h.elim) ?_
        rintro _ _ ⟨_, ⟨rfl, rfl⟩, rfl⟩
        refine j_iret dX8_replaceAll_66 rfl rfl ?_ (Nat.le_of_ble_eq_true rfl) (Nat.le_of_ble_eq_true rfl)
        refine ⟨rfl, (by first | exact z_cwl | rfl), ?_⟩
        try rw [sp_i1]
        exact ⟨sp_k22_0 (Or.inr rfl) (fun z => z.elim (fun z => z hu) hc30), (by rw [hbl]; rfl), (sp_CWe hra hr9 ht0 ht1 ht2 he0 he1 hzm3 hzm4 hzm5 ((by unfold sp_chgS; rw [hbl]; rfl)))⟩
      · have hb51 := z_bt c_51
        have hbl : (sp_chg S 1 u n).1 = true := hb51
        refine j_aload dX8_replaceAll_54 rfl rfl ?_
        refine j_getf dX8_replaceAll_56 fX8_68 rfl rfl ?_
        refine j_goto (tgt := 66) dX8_replaceAll_59 (by decide) ?_
        refine j_iret dX8_replaceAll_66 rfl rfl ?_ (Nat.le_of_ble_eq_true rfl) (Nat.le_of_ble_eq_true rfl)
        refine ⟨rfl, (by first | exact z_cwl | rfl), ?_⟩
        try rw [sp_i1]
        exact ⟨sp_k22_0 (Or.inr rfl) (fun z => z.elim (fun z => z hu) hc30), (by rw [hbl]; rfl), (sp_CWe hra hr9 ht0 ht1 ht2 he0 he1 hzm3 hzm4 hzm5 ((by unfold sp_chgS; rw [hbl]; rfl)))⟩
    · refine j_iload_n dX8_replaceAll_11 rfl ?_
      refine j_iconst (v := 1) dX8_replaceAll_12 (by decide) ?_
      refine j_icmp_eq (tgt := 21) dX8_replaceAll_13 (by decide) (fun c_13 => ?_) (fun c_13 => ?_)
      · have hu : u = 0 ∨ u = 1 ∨ u = 4 := Or.inr (Or.inl c_13)
        refine j_iconst (v := 1) dX8_replaceAll_21 (by decide) ?_
        refine j_goto (tgt := 26) dX8_replaceAll_22 (by decide) ?_
        refine j_callS dX8_replaceAll_26 kX8_checkRule lX8_112 stX8_checkRule (c_X8_checkRule_e hl _ _) (Nat.le_of_ble_eq_true rfl) ⟨(Nat.le_of_ble_eq_true rfl), (Nat.le_of_ble_eq_true rfl)⟩ rfl (Nat.le_of_ble_eq_true rfl) rfl rfl (fun _ _ h => by obtain ⟨h1, rfl⟩ := h; exact ⟨rfl, rfl, absurd h1.2 (by decide), rfl⟩) ?_
        rintro _ _ ⟨⟨rfl, hcr⟩, rfl⟩
        have hu2 : ¬ u = 2 := by rintro rfl; exact absurd hu (by decide)
        have hu3 : ¬ u = 3 := by rintro rfl; exact absurd hu (by decide)
        refine j_iload_n dX8_replaceAll_29 rfl ?_
        refine j_callS dX8_replaceAll_30 kX8_checkValue lX8_50 stX8_checkValue (c_X8_checkValue_e hl _ _) (Nat.le_of_ble_eq_true rfl) ⟨(Nat.le_of_ble_eq_true rfl), (Nat.le_of_ble_eq_true rfl)⟩ rfl (Nat.le_of_ble_eq_true rfl) rfl rfl (fun _ _ h => by obtain ⟨h1, rfl⟩ := h; exact ⟨rfl, rfl, Or.inr ⟨h1.1, sp_k22_2 (Or.inr rfl) (Or.inr h1.2)⟩, rfl⟩) ?_
        rintro _ _ ⟨⟨rfl, hc30⟩, rfl⟩
        refine j_new (w' := (z_cw _ _ _ _ _ _ _ _ _ _ _ _ _ _ _ _ _ _ _ _ _ _ _ _ _ _ _ _ _ _ _ _ _ _ _ _ _ _ _ _ _ _ _ _ _ _ _ _ _ _ _ _ _ _ _ _ [.inr (7, [_, _, _, _, _])], z_no)) (n := 51) dX8_replaceAll_33 nX8_91 rfl (z_al_l rfl rfl) (Nat.le_of_ble_eq_true rfl) (Nat.le_of_ble_eq_true rfl) ?_
        refine j_dup dX8_replaceAll_36 rfl ?_
        refine j_aload dX8_replaceAll_37 rfl rfl ?_
        refine j_callI dX8_replaceAll_39 kX2_init rfl lX8_93 inX2_init rfl (z_frame [51, 6, 7, 8, 9] rfl (by decide) (Nat.le_of_ble_eq_true rfl) (c_X2_init_e hl _ _ _ _)) (Nat.le_of_ble_eq_true rfl) ⟨(Nat.le_of_ble_eq_true rfl), (Nat.le_of_ble_eq_true rfl)⟩ rfl (Nat.le_of_ble_eq_true rfl) rfl rfl (fun _ _ h => h.elim) ?_
        rintro _ _ ⟨_, _, ⟨rfl, rfl⟩, rfl, rfl⟩
        refine j_ws (L' := z_cw _ _ _ _ _ _ _ _ _ _ _ _ _ _ _ _ _ _ _ _ _ _ _ _ _ _ _ _ _ _ _ _ _ _ _ _ _ _ _ _ _ _ _ _ _ _ _ _ _ _ _ _ _ _ _ _ [.inr (7, [_, _, _, _, _])]) (by decide) rfl rfl ?_
        refine j_iload_n dX8_replaceAll_42 rfl ?_
        refine j_iload_n dX8_replaceAll_43 rfl ?_
        refine j_callS dX8_replaceAll_44 kX8_changeEach lX8_115 stX8_changeEach (z_frame [51, 6, 7, 8, 9] rfl (by decide) (Nat.le_of_ble_eq_true rfl) (c_X8_changeEach_X2_e hl _ _ _ _ (sp_R S 1) _ _ _ hrb rfl (ok.1 1 (by decide)).2 hu2 hu3 (sp_vl hc30))) (Nat.le_of_ble_eq_true rfl) ⟨(Nat.le_of_ble_eq_true rfl), (Nat.le_of_ble_eq_true rfl)⟩ rfl (Nat.le_of_ble_eq_true rfl) rfl rfl (fun _ _ h => h.elim) ?_
        rintro _ _ ⟨_, _, ⟨rfl, _, _, f9, hr9, rfl⟩, rfl, rfl⟩
        refine j_ws (L' := z_cw _ _ _ _ _ _ _ _ _ _ _ _ _ _ _ _ _ _ _ _ _ _ _ _ _ _ _ _ _ _ _ _ _ _ _ _ _ _ _ _ _ _ _ _ _ _ _ _ _ _ _ _ _ _ _ _ [.inr (7, [_, _, _, _, _])]) (by decide) rfl rfl ?_
        refine j_istore (lo' := [(5, _), (4, _), (0, _), (1, _), (2, _), (3, _)]) dX8_replaceAll_47 (by decide) rfl ?_
        refine j_dropL (n := 51) rfl (Nat.le_of_ble_eq_true rfl) (Nat.le_of_ble_eq_true rfl) (Nat.le_of_ble_eq_true rfl) z_cwc rfl rfl ?_
        refine j_w (z_cw _ _ _ _ _ _ _ _ _ _ _ _ _ _ _ _ _ _ _ _ _ _ _ _ _ _ _ _ _ _ _ _ _ _ _ _ _ _ _ _ _ _ _ _ _ _ _ _ _ _ _ _ _ _ _ _ [], z_no) rfl ?_
        refine j_iload dX8_replaceAll_49 rfl ?_
        refine j_if_eq (tgt := 62) dX8_replaceAll_51 (by decide) (fun c_51 => ?_) (fun c_51 => ?_)
        · have hb51 := z_bF c_51
          have hbl : (sp_chg S 1 u n).1 = false := hb51
          refine j_aload_n dX8_replaceAll_62 rfl rfl ?_
          refine j_callV (q := (RX8, TX8, 9)) dX8_replaceAll_63 kX8_refused lX8_119 inX8_refused seX8_refused rfl rfl (z_dirF (c_X8_refused_e hl _ _ _ _ _ _ _ _ _ _ _ _ _ _ _ _ _ _ _ _ _ _ _ _ _ _ _ _ _ _ _ _ _ _ _ _ _ _ _ _ _ _ _ _ _ _ _ _ _ _ _ _ _ _ _ _)) (Nat.le_of_ble_eq_true rfl) ⟨(Nat.le_of_ble_eq_true rfl), (Nat.le_of_ble_eq_true rfl)⟩ rfl (Nat.le_of_ble_eq_true rfl) rfl rfl (fun _ _ h => h.elim) ?_
          rintro _ _ ⟨_, ⟨rfl, rfl⟩, rfl⟩
          refine j_iret dX8_replaceAll_66 rfl rfl ?_ (Nat.le_of_ble_eq_true rfl) (Nat.le_of_ble_eq_true rfl)
          refine ⟨rfl, (by first | exact z_cwl | rfl), ?_⟩
          try rw [sp_i1]
          exact ⟨sp_k22_0 (Or.inr rfl) (fun z => z.elim (fun z => z hu) hc30), (by rw [hbl]; rfl), (sp_CWe hra hr9 ht0 ht1 ht2 he0 he1 hzm3 hzm4 hzm5 ((by unfold sp_chgS; rw [hbl]; rfl)))⟩
        · have hb51 := z_bt c_51
          have hbl : (sp_chg S 1 u n).1 = true := hb51
          refine j_aload dX8_replaceAll_54 rfl rfl ?_
          refine j_getf dX8_replaceAll_56 fX8_68 rfl rfl ?_
          refine j_goto (tgt := 66) dX8_replaceAll_59 (by decide) ?_
          refine j_iret dX8_replaceAll_66 rfl rfl ?_ (Nat.le_of_ble_eq_true rfl) (Nat.le_of_ble_eq_true rfl)
          refine ⟨rfl, (by first | exact z_cwl | rfl), ?_⟩
          try rw [sp_i1]
          exact ⟨sp_k22_0 (Or.inr rfl) (fun z => z.elim (fun z => z hu) hc30), (by rw [hbl]; rfl), (sp_CWe hra hr9 ht0 ht1 ht2 he0 he1 hzm3 hzm4 hzm5 ((by unfold sp_chgS; rw [hbl]; rfl)))⟩
      · refine j_iload_n dX8_replaceAll_16 rfl ?_
        refine j_iconst (v := 4) dX8_replaceAll_17 (by decide) ?_
        refine j_icmp_ne (tgt := 25) dX8_replaceAll_18 (by decide) (fun c_18 => ?_) (fun c_18 => ?_)
        · have hnu : ¬ (u = 0 ∨ u = 1 ∨ u = 4) := (fun z => z.elim c_8 (fun z => z.elim c_13 c_18))
          refine j_iconst (v := 0) dX8_replaceAll_25 (by decide) ?_
          refine j_callS dX8_replaceAll_26 kX8_checkRule lX8_112 stX8_checkRule (c_X8_checkRule_e hl _ _) (Nat.le_of_ble_eq_true rfl) ⟨(Nat.le_of_ble_eq_true rfl), (Nat.le_of_ble_eq_true rfl)⟩ rfl (Nat.le_of_ble_eq_true rfl) rfl rfl (fun _ _ h => by obtain ⟨h1, rfl⟩ := h; exact ⟨rfl, rfl, Or.inr ⟨h1.1, sp_k22_2 (Or.inr rfl) (Or.inl hnu)⟩, rfl⟩) ?_
          rintro _ _ ⟨⟨rfl, hcr⟩, rfl⟩
          exact absurd rfl hcr
        · have hu : u = 0 ∨ u = 1 ∨ u = 4 := Or.inr (Or.inr (c_18))
          refine j_iconst (v := 1) dX8_replaceAll_21 (by decide) ?_
          refine j_goto (tgt := 26) dX8_replaceAll_22 (by decide) ?_
          refine j_callS dX8_replaceAll_26 kX8_checkRule lX8_112 stX8_checkRule (c_X8_checkRule_e hl _ _) (Nat.le_of_ble_eq_true rfl) ⟨(Nat.le_of_ble_eq_true rfl), (Nat.le_of_ble_eq_true rfl)⟩ rfl (Nat.le_of_ble_eq_true rfl) rfl rfl (fun _ _ h => by obtain ⟨h1, rfl⟩ := h; exact ⟨rfl, rfl, absurd h1.2 (by decide), rfl⟩) ?_
          rintro _ _ ⟨⟨rfl, hcr⟩, rfl⟩
          have hu2 : ¬ u = 2 := by rintro rfl; exact absurd hu (by decide)
          have hu3 : ¬ u = 3 := by rintro rfl; exact absurd hu (by decide)
          refine j_iload_n dX8_replaceAll_29 rfl ?_
          refine j_callS dX8_replaceAll_30 kX8_checkValue lX8_50 stX8_checkValue (c_X8_checkValue_e hl _ _) (Nat.le_of_ble_eq_true rfl) ⟨(Nat.le_of_ble_eq_true rfl), (Nat.le_of_ble_eq_true rfl)⟩ rfl (Nat.le_of_ble_eq_true rfl) rfl rfl (fun _ _ h => by obtain ⟨h1, rfl⟩ := h; exact ⟨rfl, rfl, Or.inr ⟨h1.1, sp_k22_2 (Or.inr rfl) (Or.inr h1.2)⟩, rfl⟩) ?_
          rintro _ _ ⟨⟨rfl, hc30⟩, rfl⟩
          refine j_new (w' := (z_cw _ _ _ _ _ _ _ _ _ _ _ _ _ _ _ _ _ _ _ _ _ _ _ _ _ _ _ _ _ _ _ _ _ _ _ _ _ _ _ _ _ _ _ _ _ _ _ _ _ _ _ _ _ _ _ _ [.inr (7, [_, _, _, _, _])], z_no)) (n := 51) dX8_replaceAll_33 nX8_91 rfl (z_al_l rfl rfl) (Nat.le_of_ble_eq_true rfl) (Nat.le_of_ble_eq_true rfl) ?_
          refine j_dup dX8_replaceAll_36 rfl ?_
          refine j_aload dX8_replaceAll_37 rfl rfl ?_
          refine j_callI dX8_replaceAll_39 kX2_init rfl lX8_93 inX2_init rfl (z_frame [51, 6, 7, 8, 9] rfl (by decide) (Nat.le_of_ble_eq_true rfl) (c_X2_init_e hl _ _ _ _)) (Nat.le_of_ble_eq_true rfl) ⟨(Nat.le_of_ble_eq_true rfl), (Nat.le_of_ble_eq_true rfl)⟩ rfl (Nat.le_of_ble_eq_true rfl) rfl rfl (fun _ _ h => h.elim) ?_
          rintro _ _ ⟨_, _, ⟨rfl, rfl⟩, rfl, rfl⟩
          refine j_ws (L' := z_cw _ _ _ _ _ _ _ _ _ _ _ _ _ _ _ _ _ _ _ _ _ _ _ _ _ _ _ _ _ _ _ _ _ _ _ _ _ _ _ _ _ _ _ _ _ _ _ _ _ _ _ _ _ _ _ _ [.inr (7, [_, _, _, _, _])]) (by decide) rfl rfl ?_
          refine j_iload_n dX8_replaceAll_42 rfl ?_
          refine j_iload_n dX8_replaceAll_43 rfl ?_
          refine j_callS dX8_replaceAll_44 kX8_changeEach lX8_115 stX8_changeEach (z_frame [51, 6, 7, 8, 9] rfl (by decide) (Nat.le_of_ble_eq_true rfl) (c_X8_changeEach_X2_e hl _ _ _ _ (sp_R S 1) _ _ _ hrb rfl (ok.1 1 (by decide)).2 hu2 hu3 (sp_vl hc30))) (Nat.le_of_ble_eq_true rfl) ⟨(Nat.le_of_ble_eq_true rfl), (Nat.le_of_ble_eq_true rfl)⟩ rfl (Nat.le_of_ble_eq_true rfl) rfl rfl (fun _ _ h => h.elim) ?_
          rintro _ _ ⟨_, _, ⟨rfl, _, _, f9, hr9, rfl⟩, rfl, rfl⟩
          refine j_ws (L' := z_cw _ _ _ _ _ _ _ _ _ _ _ _ _ _ _ _ _ _ _ _ _ _ _ _ _ _ _ _ _ _ _ _ _ _ _ _ _ _ _ _ _ _ _ _ _ _ _ _ _ _ _ _ _ _ _ _ [.inr (7, [_, _, _, _, _])]) (by decide) rfl rfl ?_
          refine j_istore (lo' := [(5, _), (4, _), (0, _), (1, _), (2, _), (3, _)]) dX8_replaceAll_47 (by decide) rfl ?_
          refine j_dropL (n := 51) rfl (Nat.le_of_ble_eq_true rfl) (Nat.le_of_ble_eq_true rfl) (Nat.le_of_ble_eq_true rfl) z_cwc rfl rfl ?_
          refine j_w (z_cw _ _ _ _ _ _ _ _ _ _ _ _ _ _ _ _ _ _ _ _ _ _ _ _ _ _ _ _ _ _ _ _ _ _ _ _ _ _ _ _ _ _ _ _ _ _ _ _ _ _ _ _ _ _ _ _ [], z_no) rfl ?_
          refine j_iload dX8_replaceAll_49 rfl ?_
          refine j_if_eq (tgt := 62) dX8_replaceAll_51 (by decide) (fun c_51 => ?_) (fun c_51 => ?_)
          · have hb51 := z_bF c_51
            have hbl : (sp_chg S 1 u n).1 = false := hb51
            refine j_aload_n dX8_replaceAll_62 rfl rfl ?_
            refine j_callV (q := (RX8, TX8, 9)) dX8_replaceAll_63 kX8_refused lX8_119 inX8_refused seX8_refused rfl rfl (z_dirF (c_X8_refused_e hl _ _ _ _ _ _ _ _ _ _ _ _ _ _ _ _ _ _ _ _ _ _ _ _ _ _ _ _ _ _ _ _ _ _ _ _ _ _ _ _ _ _ _ _ _ _ _ _ _ _ _ _ _ _ _ _)) (Nat.le_of_ble_eq_true rfl) ⟨(Nat.le_of_ble_eq_true rfl), (Nat.le_of_ble_eq_true rfl)⟩ rfl (Nat.le_of_ble_eq_true rfl) rfl rfl (fun _ _ h => h.elim) ?_
            rintro _ _ ⟨_, ⟨rfl, rfl⟩, rfl⟩
            refine j_iret dX8_replaceAll_66 rfl rfl ?_ (Nat.le_of_ble_eq_true rfl) (Nat.le_of_ble_eq_true rfl)
            refine ⟨rfl, (by first | exact z_cwl | rfl), ?_⟩
            try rw [sp_i1]
            exact ⟨sp_k22_0 (Or.inr rfl) (fun z => z.elim (fun z => z hu) hc30), (by rw [hbl]; rfl), (sp_CWe hra hr9 ht0 ht1 ht2 he0 he1 hzm3 hzm4 hzm5 ((by unfold sp_chgS; rw [hbl]; rfl)))⟩
          · have hb51 := z_bt c_51
            have hbl : (sp_chg S 1 u n).1 = true := hb51
            refine j_aload dX8_replaceAll_54 rfl rfl ?_
            refine j_getf dX8_replaceAll_56 fX8_68 rfl rfl ?_
            refine j_goto (tgt := 66) dX8_replaceAll_59 (by decide) ?_
            refine j_iret dX8_replaceAll_66 rfl rfl ?_ (Nat.le_of_ble_eq_true rfl) (Nat.le_of_ble_eq_true rfl)
            refine ⟨rfl, (by first | exact z_cwl | rfl), ?_⟩
            try rw [sp_i1]
            exact ⟨sp_k22_0 (Or.inr rfl) (fun z => z.elim (fun z => z hu) hc30), (by rw [hbl]; rfl), (sp_CWe hra hr9 ht0 ht1 ht2 he0 he1 hzm3 hzm4 hzm5 ((by unfold sp_chgS; rw [hbl]; rfl)))⟩
set_option maxRecDepth 100000 in
set_option maxHeartbeats 8000000 in
theorem c_X8_copy_p (hl : l.stackTraces = false) (S : sp_S) (fa : Nat → Int32) (fb : Nat → Int32) (mt : Int32) (ft : Nat → Int32) (ct : Nat → Int32) (f0 : Nat → Int32) (g0 : Nat → Int32) (f1 : Nat → Int32) (g1 : Nat → Int32) (c1 : Nat → Int32) (f2 : Nat → Int32) (g2 : Nat → Int32) (c2 : Nat → Int32) (f3 : Nat → Int32) (g3 : Nat → Int32) (c3 : Nat → Int32) (m3 : Int32) (f4 : Nat → Int32) (g4 : Nat → Int32) (c4 : Nat → Int32) (m4 : Int32) (f5 : Nat → Int32) (g5 : Nat → Int32) (c5 : Nat → Int32) (m5 : Int32) (ef0 : Nat → Int32) (ef1 : Nat → Int32) (r : Int32) (ok : sp_ok S) (hra : z_row 12 (nI (sp_R S 0).length) fa (sp_R S 0)) (hrb : z_row 12 (nI (sp_R S 1).length) fb (sp_R S 1)) (ht0 : z_tba f0 g0 (sp_T S 0)) (ht1 : z_tba f1 g1 (sp_T S 1)) (ht2 : z_tba f2 g2 (sp_T S 2)) (he0 : z_row 10 (nI (sp_E S 0).2.length) ef0 (sp_E S 0).2) (he1 : z_row 10 (nI (sp_E S 1).2.length) ef1 (sp_E S 1).2) (hzm3 : z_m20 m3) (hzm4 : z_m20 m4) (hzm5 : z_m20 m5) : z_CX G l mX8_copy 20 14 120 (z_cw S.1.1 S.1.2 (nI (sp_R S 0).length) (sp_F S 0) fa (sp_C S 0) (nI (sp_R S 1).length) (sp_F S 1) fb (sp_C S 1) mt false ft ct f0 g0 (sp_C S 2) (nI (sp_T S 0).length) 0 f1 g1 c1 (nI (sp_T S 1).length) 0 f2 g2 c2 (nI (sp_T S 2).length) 1 f3 g3 c3 m3 0 f4 g4 c4 m4 0 f5 g5 c5 m5 1 (nI (sp_E S 0).2.length) (sp_E S 0).1.2.1 (sp_E S 0).1.2.2.1 (sp_E S 0).1.2.2.2 (sp_E S 0).1.1 ef0 (nI (sp_E S 1).2.length) (sp_E S 1).1.2.1 (sp_E S 1).1.2.2.1 (sp_E S 1).1.2.2.2 (sp_E S 1).1.1 ef1 []) [.ref 0, .int r] (fun v L => q_k2 r = 0 ∧ v = some (.int (nI (sp_R S (1 - sp_i r)).length)) ∧ sp_CW (sp_uR S (sp_i r) (sp_R S (1 - sp_i r))) L) (fun E L => ((z_xI E ∧ q_k2 r = 1)) ∧ L = (z_cw S.1.1 S.1.2 (nI (sp_R S 0).length) (sp_F S 0) fa (sp_C S 0) (nI (sp_R S 1).length) (sp_F S 1) fb (sp_C S 1) mt false ft ct f0 g0 (sp_C S 2) (nI (sp_T S 0).length) 0 f1 g1 c1 (nI (sp_T S 1).length) 0 f2 g2 c2 (nI (sp_T S 2).length) 1 f3 g3 c3 m3 0 f4 g4 c4 m4 0 f5 g5 c5 m5 1 (nI (sp_E S 0).2.length) (sp_E S 0).1.2.1 (sp_E S 0).1.2.2.1 (sp_E S 0).1.2.2.2 (sp_E S 0).1.1 ef0 (nI (sp_E S 1).2.length) (sp_E S 1).1.2.1 (sp_E S 1).1.2.2.1 (sp_E S 1).1.2.2.2 (sp_E S 1).1.1 ef1 [])) := by
  refine z_body hl (by decide) rfl (Nat.le_of_ble_eq_true rfl) ?_
  show z_J G l mX8_copy (z_SX 20 14 120 (z_cw S.1.1 S.1.2 (nI (sp_R S 0).length) (sp_F S 0) fa (sp_C S 0) (nI (sp_R S 1).length) (sp_F S 1) fb (sp_C S 1) mt false ft ct f0 g0 (sp_C S 2) (nI (sp_T S 0).length) 0 f1 g1 c1 (nI (sp_T S 1).length) 0 f2 g2 c2 (nI (sp_T S 2).length) 1 f3 g3 c3 m3 0 f4 g4 c4 m4 0 f5 g5 c5 m5 1 (nI (sp_E S 0).2.length) (sp_E S 0).1.2.1 (sp_E S 0).1.2.2.1 (sp_E S 0).1.2.2.2 (sp_E S 0).1.1 ef0 (nI (sp_E S 1).2.length) (sp_E S 1).1.2.1 (sp_E S 1).1.2.2.1 (sp_E S 1).1.2.2.2 (sp_E S 1).1.1 ef1 []) (fun v L => q_k2 r = 0 ∧ v = some (.int (nI (sp_R S (1 - sp_i r)).length)) ∧ sp_CW (sp_uR S (sp_i r) (sp_R S (1 - sp_i r))) L) (fun E L => ((z_xI E ∧ q_k2 r = 1)) ∧ L = (z_cw S.1.1 S.1.2 (nI (sp_R S 0).length) (sp_F S 0) fa (sp_C S 0) (nI (sp_R S 1).length) (sp_F S 1) fb (sp_C S 1) mt false ft ct f0 g0 (sp_C S 2) (nI (sp_T S 0).length) 0 f1 g1 c1 (nI (sp_T S 1).length) 0 f2 g2 c2 (nI (sp_T S 2).length) 1 f3 g3 c3 m3 0 f4 g4 c4 m4 0 f5 g5 c5 m5 1 (nI (sp_E S 0).2.length) (sp_E S 0).1.2.1 (sp_E S 0).1.2.2.1 (sp_E S 0).1.2.2.2 (sp_E S 0).1.1 ef0 (nI (sp_E S 1).2.length) (sp_E S 1).1.2.1 (sp_E S 1).1.2.2.1 (sp_E S 1).1.2.2.2 (sp_E S 1).1.1 ef1 []))) 0 [(0, _), (1, _)] [] _ 0 0
  refine j_aload_n dX8_copy_0 rfl rfl ?_
  refine j_iload_n dX8_copy_1 rfl ?_
  refine j_callV (q := (RX8, TX8, 9)) dX8_copy_2 kX8_rowFor lX8_46 inX8_rowFor seX8_rowFor rfl rfl (z_dirX (c_X8_rowFor_e hl _ _ _ _ _ _ _ _ _ _ _ _ _ _ _ _ _ _ _ _ _ _ _ _ _ _ _ _ _ _ _ _ _ _ _ _ _ _ _ _ _ _ _ _ _ _ _ _ _ _ _ _ _ _ _ _ _)) (Nat.le_of_ble_eq_true rfl) ⟨(Nat.le_of_ble_eq_true rfl), (Nat.le_of_ble_eq_true rfl)⟩ rfl (Nat.le_of_ble_eq_true rfl) rfl rfl (fun _ _ h => by obtain ⟨_, ⟨h1, rfl⟩, rfl⟩ := h; exact ⟨rfl, rfl, ⟨h1.1, sp_k2_1 h1.2⟩, rfl⟩) ?_
  rintro _ _ ⟨_, ⟨_, rfl, hr, rfl⟩, rfl⟩
  rcases hr with ⟨e_2, rfl⟩ | ⟨e_2, rfl⟩
  · subst e_2
    refine j_astore_n (lo' := [(2, _), (0, _), (1, _)]) dX8_copy_5 rfl (by decide) rfl ?_
    refine j_aload_n dX8_copy_6 rfl rfl ?_
    refine j_aload_n dX8_copy_7 rfl rfl ?_
    refine j_iconst (v := 1) dX8_copy_8 (by decide) ?_
    refine j_iload_n dX8_copy_9 rfl ?_
    refine j_isub dX8_copy_10 ?_
    refine j_callV (q := (RX8, TX8, 9)) dX8_copy_11 kX8_rowFor lX8_46 inX8_rowFor seX8_rowFor rfl rfl (z_dirX (c_X8_rowFor_e hl _ _ _ _ _ _ _ _ _ _ _ _ _ _ _ _ _ _ _ _ _ _ _ _ _ _ _ _ _ _ _ _ _ _ _ _ _ _ _ _ _ _ _ _ _ _ _ _ _ _ _ _ _ _ _ _ _)) (Nat.le_of_ble_eq_true rfl) ⟨(Nat.le_of_ble_eq_true rfl), (Nat.le_of_ble_eq_true rfl)⟩ rfl (Nat.le_of_ble_eq_true rfl) rfl rfl (fun _ _ h => by obtain ⟨_, ⟨h1, rfl⟩, rfl⟩ := h; exact ⟨rfl, rfl, absurd h1.2 (by decide), rfl⟩) ?_
    rintro _ _ ⟨_, ⟨_, rfl, hr, rfl⟩, rfl⟩
    rcases hr with ⟨e_11, rfl⟩ | ⟨e_11, rfl⟩
    · exact absurd e_11 (by decide)
    · refine j_callV (q := (RX1, TX1, 4)) dX8_copy_14 kX1_become lX8_123 inX1_become seX1_become rfl rfl (z_frame [2, 3, 4, 5, 6, 7, 8, 9] rfl (by decide) (Nat.le_of_ble_eq_true rfl) (c_X1_become_e hl _ _ _ _ _ _ _ _)) (Nat.le_of_ble_eq_true rfl) ⟨(Nat.le_of_ble_eq_true rfl), (Nat.le_of_ble_eq_true rfl)⟩ rfl (Nat.le_of_ble_eq_true rfl) rfl rfl (fun _ _ h => h.elim) ?_
      rintro _ _ ⟨_, _, ⟨rfl, f9, hf9, rfl⟩, rfl, rfl⟩
      refine j_ws (L' := z_cw _ _ _ _ _ _ _ _ _ _ _ _ _ _ _ _ _ _ _ _ _ _ _ _ _ _ _ _ _ _ _ _ _ _ _ _ _ _ _ _ _ _ _ _ _ _ _ _ _ _ _ _ _ _ _ _ []) (by decide) rfl rfl ?_
      refine j_aload_n dX8_copy_17 rfl rfl ?_
      refine j_getf dX8_copy_18 fX8_68 rfl rfl ?_
      refine j_iret dX8_copy_21 rfl rfl ?_ (Nat.le_of_ble_eq_true rfl) (Nat.le_of_ble_eq_true rfl)
      refine ⟨rfl, (by first | exact z_cwl | rfl), ?_⟩
      rw [sp_i0]
      exact ⟨sp_k2_0 (Or.inl rfl), rfl, (sp_CWe ((hrb.eqf hf9)) hrb ht0 ht1 ht2 he0 he1 hzm3 hzm4 hzm5 rfl)⟩
  · subst e_2
    refine j_astore_n (lo' := [(2, _), (0, _), (1, _)]) dX8_copy_5 rfl (by decide) rfl ?_
    refine j_aload_n dX8_copy_6 rfl rfl ?_
    refine j_aload_n dX8_copy_7 rfl rfl ?_
    refine j_iconst (v := 1) dX8_copy_8 (by decide) ?_
    refine j_iload_n dX8_copy_9 rfl ?_
    refine j_isub dX8_copy_10 ?_
    refine j_callV (q := (RX8, TX8, 9)) dX8_copy_11 kX8_rowFor lX8_46 inX8_rowFor seX8_rowFor rfl rfl (z_dirX (c_X8_rowFor_e hl _ _ _ _ _ _ _ _ _ _ _ _ _ _ _ _ _ _ _ _ _ _ _ _ _ _ _ _ _ _ _ _ _ _ _ _ _ _ _ _ _ _ _ _ _ _ _ _ _ _ _ _ _ _ _ _ _)) (Nat.le_of_ble_eq_true rfl) ⟨(Nat.le_of_ble_eq_true rfl), (Nat.le_of_ble_eq_true rfl)⟩ rfl (Nat.le_of_ble_eq_true rfl) rfl rfl (fun _ _ h => by obtain ⟨_, ⟨h1, rfl⟩, rfl⟩ := h; exact ⟨rfl, rfl, absurd h1.2 (by decide), rfl⟩) ?_
    rintro _ _ ⟨_, ⟨_, rfl, hr, rfl⟩, rfl⟩
    rcases hr with ⟨e_11, rfl⟩ | ⟨e_11, rfl⟩
    · refine j_callV (q := (RX1, TX1, 4)) dX8_copy_14 kX1_become lX8_123 inX1_become seX1_become rfl rfl (z_frame [6, 7, 8, 9, 2, 3, 4, 5] rfl (by decide) (Nat.le_of_ble_eq_true rfl) (c_X1_become_e hl _ _ _ _ _ _ _ _)) (Nat.le_of_ble_eq_true rfl) ⟨(Nat.le_of_ble_eq_true rfl), (Nat.le_of_ble_eq_true rfl)⟩ rfl (Nat.le_of_ble_eq_true rfl) rfl rfl (fun _ _ h => h.elim) ?_
      rintro _ _ ⟨_, _, ⟨rfl, f9, hf9, rfl⟩, rfl, rfl⟩
      refine j_ws (L' := z_cw _ _ _ _ _ _ _ _ _ _ _ _ _ _ _ _ _ _ _ _ _ _ _ _ _ _ _ _ _ _ _ _ _ _ _ _ _ _ _ _ _ _ _ _ _ _ _ _ _ _ _ _ _ _ _ _ []) (by decide) rfl rfl ?_
      refine j_aload_n dX8_copy_17 rfl rfl ?_
      refine j_getf dX8_copy_18 fX8_68 rfl rfl ?_
      refine j_iret dX8_copy_21 rfl rfl ?_ (Nat.le_of_ble_eq_true rfl) (Nat.le_of_ble_eq_true rfl)
      refine ⟨rfl, (by first | exact z_cwl | rfl), ?_⟩
      rw [sp_i1]
      exact ⟨sp_k2_0 (Or.inr rfl), rfl, (sp_CWe hra ((hra.eqf hf9)) ht0 ht1 ht2 he0 he1 hzm3 hzm4 hzm5 rfl)⟩
    · exact absurd e_11 (by decide)
set_option maxRecDepth 100000 in
set_option maxHeartbeats 8000000 in
theorem c_X8_counts_p (hl : l.stackTraces = false) (S : sp_S) (fa : Nat → Int32) (fb : Nat → Int32) (mt : Int32) (ft : Nat → Int32) (ct : Nat → Int32) (f0 : Nat → Int32) (g0 : Nat → Int32) (f1 : Nat → Int32) (g1 : Nat → Int32) (c1 : Nat → Int32) (f2 : Nat → Int32) (g2 : Nat → Int32) (c2 : Nat → Int32) (f3 : Nat → Int32) (g3 : Nat → Int32) (c3 : Nat → Int32) (m3 : Int32) (f4 : Nat → Int32) (g4 : Nat → Int32) (c4 : Nat → Int32) (m4 : Int32) (f5 : Nat → Int32) (g5 : Nat → Int32) (c5 : Nat → Int32) (m5 : Int32) (ef0 : Nat → Int32) (ef1 : Nat → Int32) (r : Int32) (w : Int32) (ok : sp_ok S) (hra : z_row 12 (nI (sp_R S 0).length) fa (sp_R S 0)) (hrb : z_row 12 (nI (sp_R S 1).length) fb (sp_R S 1)) (ht0 : z_tba f0 g0 (sp_T S 0)) (ht1 : z_tba f1 g1 (sp_T S 1)) (ht2 : z_tba f2 g2 (sp_T S 2)) (he0 : z_row 10 (nI (sp_E S 0).2.length) ef0 (sp_E S 0).2) (he1 : z_row 10 (nI (sp_E S 1).2.length) ef1 (sp_E S 1).2) (hzm3 : z_m20 m3) (hzm4 : z_m20 m4) (hzm5 : z_m20 m5) : z_CX G l mX8_counts 20 14 120 (z_cw S.1.1 S.1.2 (nI (sp_R S 0).length) (sp_F S 0) fa (sp_C S 0) (nI (sp_R S 1).length) (sp_F S 1) fb (sp_C S 1) mt false ft ct f0 g0 (sp_C S 2) (nI (sp_T S 0).length) 0 f1 g1 c1 (nI (sp_T S 1).length) 0 f2 g2 c2 (nI (sp_T S 2).length) 1 f3 g3 c3 m3 0 f4 g4 c4 m4 0 f5 g5 c5 m5 1 (nI (sp_E S 0).2.length) (sp_E S 0).1.2.1 (sp_E S 0).1.2.2.1 (sp_E S 0).1.2.2.2 (sp_E S 0).1.1 ef0 (nI (sp_E S 1).2.length) (sp_E S 1).1.2.1 (sp_E S 1).1.2.2.1 (sp_E S 1).1.2.2.2 (sp_E S 1).1.1 ef1 []) [.ref 0, .int r, .int w] (fun v L => q_k22 r (w < 0 ∨ 4 < w) = 0 ∧ v = some (.int (sp_C S (sp_i r) (sp_i w))) ∧ sp_CW (S) L) (fun E L => ((z_xI E ∧ q_k22 r (w < 0 ∨ 4 < w) = 1) ∨ (z_xA E ∧ q_k22 r (w < 0 ∨ 4 < w) = 2)) ∧ L = (z_cw S.1.1 S.1.2 (nI (sp_R S 0).length) (sp_F S 0) fa (sp_C S 0) (nI (sp_R S 1).length) (sp_F S 1) fb (sp_C S 1) mt false ft ct f0 g0 (sp_C S 2) (nI (sp_T S 0).length) 0 f1 g1 c1 (nI (sp_T S 1).length) 0 f2 g2 c2 (nI (sp_T S 2).length) 1 f3 g3 c3 m3 0 f4 g4 c4 m4 0 f5 g5 c5 m5 1 (nI (sp_E S 0).2.length) (sp_E S 0).1.2.1 (sp_E S 0).1.2.2.1 (sp_E S 0).1.2.2.2 (sp_E S 0).1.1 ef0 (nI (sp_E S 1).2.length) (sp_E S 1).1.2.1 (sp_E S 1).1.2.2.1 (sp_E S 1).1.2.2.2 (sp_E S 1).1.1 ef1 [])) := by
  refine z_body hl (by decide) rfl (Nat.le_of_ble_eq_true rfl) ?_
  show z_J G l mX8_counts (z_SX 20 14 120 (z_cw S.1.1 S.1.2 (nI (sp_R S 0).length) (sp_F S 0) fa (sp_C S 0) (nI (sp_R S 1).length) (sp_F S 1) fb (sp_C S 1) mt false ft ct f0 g0 (sp_C S 2) (nI (sp_T S 0).length) 0 f1 g1 c1 (nI (sp_T S 1).length) 0 f2 g2 c2 (nI (sp_T S 2).length) 1 f3 g3 c3 m3 0 f4 g4 c4 m4 0 f5 g5 c5 m5 1 (nI (sp_E S 0).2.length) (sp_E S 0).1.2.1 (sp_E S 0).1.2.2.1 (sp_E S 0).1.2.2.2 (sp_E S 0).1.1 ef0 (nI (sp_E S 1).2.length) (sp_E S 1).1.2.1 (sp_E S 1).1.2.2.1 (sp_E S 1).1.2.2.2 (sp_E S 1).1.1 ef1 []) (fun v L => q_k22 r (w < 0 ∨ 4 < w) = 0 ∧ v = some (.int (sp_C S (sp_i r) (sp_i w))) ∧ sp_CW (S) L) (fun E L => ((z_xI E ∧ q_k22 r (w < 0 ∨ 4 < w) = 1) ∨ (z_xA E ∧ q_k22 r (w < 0 ∨ 4 < w) = 2)) ∧ L = (z_cw S.1.1 S.1.2 (nI (sp_R S 0).length) (sp_F S 0) fa (sp_C S 0) (nI (sp_R S 1).length) (sp_F S 1) fb (sp_C S 1) mt false ft ct f0 g0 (sp_C S 2) (nI (sp_T S 0).length) 0 f1 g1 c1 (nI (sp_T S 1).length) 0 f2 g2 c2 (nI (sp_T S 2).length) 1 f3 g3 c3 m3 0 f4 g4 c4 m4 0 f5 g5 c5 m5 1 (nI (sp_E S 0).2.length) (sp_E S 0).1.2.1 (sp_E S 0).1.2.2.1 (sp_E S 0).1.2.2.2 (sp_E S 0).1.1 ef0 (nI (sp_E S 1).2.length) (sp_E S 1).1.2.1 (sp_E S 1).1.2.2.1 (sp_E S 1).1.2.2.2 (sp_E S 1).1.1 ef1 []))) 0 [(0, _), (1, _), (2, _)] [] _ 0 0
  refine j_aload_n dX8_counts_0 rfl rfl ?_
  refine j_iload_n dX8_counts_1 rfl ?_
  refine j_callV (q := (RX8, TX8, 9)) dX8_counts_2 kX8_rowFor lX8_46 inX8_rowFor seX8_rowFor rfl rfl (z_dirX (c_X8_rowFor_e hl _ _ _ _ _ _ _ _ _ _ _ _ _ _ _ _ _ _ _ _ _ _ _ _ _ _ _ _ _ _ _ _ _ _ _ _ _ _ _ _ _ _ _ _ _ _ _ _ _ _ _ _ _ _ _ _ _)) (Nat.le_of_ble_eq_true rfl) ⟨(Nat.le_of_ble_eq_true rfl), (Nat.le_of_ble_eq_true rfl)⟩ rfl (Nat.le_of_ble_eq_true rfl) rfl rfl (fun _ _ h => by obtain ⟨_, ⟨h1, rfl⟩, rfl⟩ := h; exact ⟨rfl, rfl, Or.inl ⟨h1.1, sp_k22_1 h1.2⟩, rfl⟩) ?_
  rintro _ _ ⟨_, ⟨_, rfl, hr, rfl⟩, rfl⟩
  rcases hr with ⟨e_2, rfl⟩ | ⟨e_2, rfl⟩
  · subst e_2
    refine j_astore_n (lo' := [(3, _), (0, _), (1, _), (2, _)]) dX8_counts_5 rfl (by decide) rfl ?_
    refine j_iload_n dX8_counts_6 rfl ?_
    refine j_iconst (v := 0) dX8_counts_7 (by decide) ?_
    refine j_iconst (v := 4) dX8_counts_8 (by decide) ?_
    refine j_callS dX8_counts_9 kX8_checkRange lX8_72 stX8_checkRange (c_X8_checkRange_e hl _ _ _ _) (Nat.le_of_ble_eq_true rfl) ⟨(Nat.le_of_ble_eq_true rfl), (Nat.le_of_ble_eq_true rfl)⟩ rfl (Nat.le_of_ble_eq_true rfl) rfl rfl (fun _ _ h => by obtain ⟨h1, rfl⟩ := h; exact ⟨rfl, rfl, Or.inr ⟨h1.1, sp_k22_2 (Or.inl rfl) h1.2⟩, rfl⟩) ?_
    rintro _ _ ⟨⟨rfl, hc9⟩, rfl⟩
    have hw0 := hc9
    obtain ⟨k, hk2, rfl⟩ := sp_nt (m := 4) rfl (by decide) hw0
    refine j_aload_n dX8_counts_12 rfl rfl ?_
    refine j_getf dX8_counts_13 fX8_214 rfl rfl ?_
    refine j_iload_n dX8_counts_16 rfl ?_
    refine j_callV (q := (RX6, TX6, 1)) dX8_counts_17 kX6_of lX8_218 inX6_of seX6_of rfl rfl (z_frame [4, 5] rfl (by decide) (Nat.le_of_ble_eq_true rfl) (c_X6_of_e hl _ k (by omega))) (Nat.le_of_ble_eq_true rfl) ⟨(Nat.le_of_ble_eq_true rfl), (Nat.le_of_ble_eq_true rfl)⟩ rfl (Nat.le_of_ble_eq_true rfl) rfl rfl (fun _ _ h => h.elim) ?_
    rintro _ _ ⟨_, _, ⟨rfl, rfl⟩, rfl, rfl⟩
    refine j_ws (L' := z_cw _ _ _ _ _ _ _ _ _ _ _ _ _ _ _ _ _ _ _ _ _ _ _ _ _ _ _ _ _ _ _ _ _ _ _ _ _ _ _ _ _ _ _ _ _ _ _ _ _ _ _ _ _ _ _ _ []) (by decide) rfl rfl ?_
    refine j_iret dX8_counts_20 rfl rfl ?_ (Nat.le_of_ble_eq_true rfl) (Nat.le_of_ble_eq_true rfl)
    refine ⟨rfl, (by first | exact z_cwl | rfl), ?_⟩
    rw [sp_i0, sp_in' (n := k) (by omega)]
    exact ⟨sp_k22_0 (Or.inl rfl) hw0, rfl, (sp_CWe hra hrb ht0 ht1 ht2 he0 he1 hzm3 hzm4 hzm5 rfl)⟩
  · subst e_2
    refine j_astore_n (lo' := [(3, _), (0, _), (1, _), (2, _)]) dX8_counts_5 rfl (by decide) rfl ?_
    refine j_iload_n dX8_counts_6 rfl ?_
    refine j_iconst (v := 0) dX8_counts_7 (by decide) ?_
    refine j_iconst (v := 4) dX8_counts_8 (by decide) ?_
    refine j_callS dX8_counts_9 kX8_checkRange lX8_72 stX8_checkRange (c_X8_checkRange_e hl _ _ _ _) (Nat.le_of_ble_eq_true rfl) ⟨(Nat.le_of_ble_eq_true rfl), (Nat.le_of_ble_eq_true rfl)⟩ rfl (Nat.le_of_ble_eq_true rfl) rfl rfl (fun _ _ h => by obtain ⟨h1, rfl⟩ := h; exact ⟨rfl, rfl, Or.inr ⟨h1.1, sp_k22_2 (Or.inr rfl) h1.2⟩, rfl⟩) ?_
    rintro _ _ ⟨⟨rfl, hc9⟩, rfl⟩
    have hw0 := hc9
    obtain ⟨k, hk2, rfl⟩ := sp_nt (m := 4) rfl (by decide) hw0
    refine j_aload_n dX8_counts_12 rfl rfl ?_
    refine j_getf dX8_counts_13 fX8_214 rfl rfl ?_
    refine j_iload_n dX8_counts_16 rfl ?_
    refine j_callV (q := (RX6, TX6, 1)) dX8_counts_17 kX6_of lX8_218 inX6_of seX6_of rfl rfl (z_frame [8, 9] rfl (by decide) (Nat.le_of_ble_eq_true rfl) (c_X6_of_e hl _ k (by omega))) (Nat.le_of_ble_eq_true rfl) ⟨(Nat.le_of_ble_eq_true rfl), (Nat.le_of_ble_eq_true rfl)⟩ rfl (Nat.le_of_ble_eq_true rfl) rfl rfl (fun _ _ h => h.elim) ?_
    rintro _ _ ⟨_, _, ⟨rfl, rfl⟩, rfl, rfl⟩
    refine j_ws (L' := z_cw _ _ _ _ _ _ _ _ _ _ _ _ _ _ _ _ _ _ _ _ _ _ _ _ _ _ _ _ _ _ _ _ _ _ _ _ _ _ _ _ _ _ _ _ _ _ _ _ _ _ _ _ _ _ _ _ []) (by decide) rfl rfl ?_
    refine j_iret dX8_counts_20 rfl rfl ?_ (Nat.le_of_ble_eq_true rfl) (Nat.le_of_ble_eq_true rfl)
    refine ⟨rfl, (by first | exact z_cwl | rfl), ?_⟩
    rw [sp_i1, sp_in' (n := k) (by omega)]
    exact ⟨sp_k22_0 (Or.inr rfl) hw0, rfl, (sp_CWe hra hrb ht0 ht1 ht2 he0 he1 hzm3 hzm4 hzm5 rfl)⟩
set_option maxRecDepth 100000 in
set_option maxHeartbeats 8000000 in
theorem c_X8_shelfCounts_p (hl : l.stackTraces = false) (S : sp_S) (fa : Nat → Int32) (fb : Nat → Int32) (mt : Int32) (ft : Nat → Int32) (ct : Nat → Int32) (f0 : Nat → Int32) (g0 : Nat → Int32) (f1 : Nat → Int32) (g1 : Nat → Int32) (c1 : Nat → Int32) (f2 : Nat → Int32) (g2 : Nat → Int32) (c2 : Nat → Int32) (f3 : Nat → Int32) (g3 : Nat → Int32) (c3 : Nat → Int32) (m3 : Int32) (f4 : Nat → Int32) (g4 : Nat → Int32) (c4 : Nat → Int32) (m4 : Int32) (f5 : Nat → Int32) (g5 : Nat → Int32) (c5 : Nat → Int32) (m5 : Int32) (ef0 : Nat → Int32) (ef1 : Nat → Int32) (w : Int32) (ok : sp_ok S) (hra : z_row 12 (nI (sp_R S 0).length) fa (sp_R S 0)) (hrb : z_row 12 (nI (sp_R S 1).length) fb (sp_R S 1)) (ht0 : z_tba f0 g0 (sp_T S 0)) (ht1 : z_tba f1 g1 (sp_T S 1)) (ht2 : z_tba f2 g2 (sp_T S 2)) (he0 : z_row 10 (nI (sp_E S 0).2.length) ef0 (sp_E S 0).2) (he1 : z_row 10 (nI (sp_E S 1).2.length) ef1 (sp_E S 1).2) (hzm3 : z_m20 m3) (hzm4 : z_m20 m4) (hzm5 : z_m20 m5) : z_CX G l mX8_shelfCounts 20 14 120 (z_cw S.1.1 S.1.2 (nI (sp_R S 0).length) (sp_F S 0) fa (sp_C S 0) (nI (sp_R S 1).length) (sp_F S 1) fb (sp_C S 1) mt false ft ct f0 g0 (sp_C S 2) (nI (sp_T S 0).length) 0 f1 g1 c1 (nI (sp_T S 1).length) 0 f2 g2 c2 (nI (sp_T S 2).length) 1 f3 g3 c3 m3 0 f4 g4 c4 m4 0 f5 g5 c5 m5 1 (nI (sp_E S 0).2.length) (sp_E S 0).1.2.1 (sp_E S 0).1.2.2.1 (sp_E S 0).1.2.2.2 (sp_E S 0).1.1 ef0 (nI (sp_E S 1).2.length) (sp_E S 1).1.2.1 (sp_E S 1).1.2.2.1 (sp_E S 1).1.2.2.2 (sp_E S 1).1.1 ef1 []) [.ref 0, .int w] (fun v L => q_k1 (w < 0 ∨ 6 < w) = 0 ∧ v = some (.int (sp_C S 2 (sp_i w))) ∧ sp_CW (S) L) (fun E L => ((z_xA E ∧ q_k1 (w < 0 ∨ 6 < w) = 1)) ∧ L = (z_cw S.1.1 S.1.2 (nI (sp_R S 0).length) (sp_F S 0) fa (sp_C S 0) (nI (sp_R S 1).length) (sp_F S 1) fb (sp_C S 1) mt false ft ct f0 g0 (sp_C S 2) (nI (sp_T S 0).length) 0 f1 g1 c1 (nI (sp_T S 1).length) 0 f2 g2 c2 (nI (sp_T S 2).length) 1 f3 g3 c3 m3 0 f4 g4 c4 m4 0 f5 g5 c5 m5 1 (nI (sp_E S 0).2.length) (sp_E S 0).1.2.1 (sp_E S 0).1.2.2.1 (sp_E S 0).1.2.2.2 (sp_E S 0).1.1 ef0 (nI (sp_E S 1).2.length) (sp_E S 1).1.2.1 (sp_E S 1).1.2.2.1 (sp_E S 1).1.2.2.2 (sp_E S 1).1.1 ef1 [])) := by
  refine z_body hl (by decide) rfl (Nat.le_of_ble_eq_true rfl) ?_
  show z_J G l mX8_shelfCounts (z_SX 20 14 120 (z_cw S.1.1 S.1.2 (nI (sp_R S 0).length) (sp_F S 0) fa (sp_C S 0) (nI (sp_R S 1).length) (sp_F S 1) fb (sp_C S 1) mt false ft ct f0 g0 (sp_C S 2) (nI (sp_T S 0).length) 0 f1 g1 c1 (nI (sp_T S 1).length) 0 f2 g2 c2 (nI (sp_T S 2).length) 1 f3 g3 c3 m3 0 f4 g4 c4 m4 0 f5 g5 c5 m5 1 (nI (sp_E S 0).2.length) (sp_E S 0).1.2.1 (sp_E S 0).1.2.2.1 (sp_E S 0).1.2.2.2 (sp_E S 0).1.1 ef0 (nI (sp_E S 1).2.length) (sp_E S 1).1.2.1 (sp_E S 1).1.2.2.1 (sp_E S 1).1.2.2.2 (sp_E S 1).1.1 ef1 []) (fun v L => q_k1 (w < 0 ∨ 6 < w) = 0 ∧ v = some (.int (sp_C S 2 (sp_i w))) ∧ sp_CW (S) L) (fun E L => ((z_xA E ∧ q_k1 (w < 0 ∨ 6 < w) = 1)) ∧ L = (z_cw S.1.1 S.1.2 (nI (sp_R S 0).length) (sp_F S 0) fa (sp_C S 0) (nI (sp_R S 1).length) (sp_F S 1) fb (sp_C S 1) mt false ft ct f0 g0 (sp_C S 2) (nI (sp_T S 0).length) 0 f1 g1 c1 (nI (sp_T S 1).length) 0 f2 g2 c2 (nI (sp_T S 2).length) 1 f3 g3 c3 m3 0 f4 g4 c4 m4 0 f5 g5 c5 m5 1 (nI (sp_E S 0).2.length) (sp_E S 0).1.2.1 (sp_E S 0).1.2.2.1 (sp_E S 0).1.2.2.2 (sp_E S 0).1.1 ef0 (nI (sp_E S 1).2.length) (sp_E S 1).1.2.1 (sp_E S 1).1.2.2.1 (sp_E S 1).1.2.2.2 (sp_E S 1).1.1 ef1 []))) 0 [(0, _), (1, _)] [] _ 0 0
  refine j_iload_n dX8_shelfCounts_0 rfl ?_
  refine j_iconst (v := 0) dX8_shelfCounts_1 (by decide) ?_
  refine j_bipush (v := 6) dX8_shelfCounts_2 (by decide) ?_
  refine j_callS dX8_shelfCounts_4 kX8_checkRange lX8_72 stX8_checkRange (c_X8_checkRange_e hl _ _ _ _) (Nat.le_of_ble_eq_true rfl) ⟨(Nat.le_of_ble_eq_true rfl), (Nat.le_of_ble_eq_true rfl)⟩ rfl (Nat.le_of_ble_eq_true rfl) rfl rfl (fun _ _ h => by obtain ⟨h1, rfl⟩ := h; exact ⟨rfl, rfl, ⟨h1.1, if_pos h1.2⟩, rfl⟩) ?_
  rintro _ _ ⟨⟨rfl, hc4⟩, rfl⟩
  have hw0 := hc4
  obtain ⟨k, hk2, rfl⟩ := sp_nt (m := 6) rfl (by decide) hw0
  refine j_aload_n dX8_shelfCounts_7 rfl rfl ?_
  refine j_getf dX8_shelfCounts_8 fX8_21 rfl rfl ?_
  refine j_getf dX8_shelfCounts_11 fX8_223 rfl rfl ?_
  refine j_iload_n dX8_shelfCounts_14 rfl ?_
  refine j_callV (q := (RX6, TX6, 1)) dX8_shelfCounts_15 kX6_of lX8_218 inX6_of seX6_of rfl rfl (z_frame [13, 14] rfl (by decide) (Nat.le_of_ble_eq_true rfl) (c_X6_of_e hl _ k (by omega))) (Nat.le_of_ble_eq_true rfl) ⟨(Nat.le_of_ble_eq_true rfl), (Nat.le_of_ble_eq_true rfl)⟩ rfl (Nat.le_of_ble_eq_true rfl) rfl rfl (fun _ _ h => h.elim) ?_
  rintro _ _ ⟨_, _, ⟨rfl, rfl⟩, rfl, rfl⟩
  refine j_ws (L' := z_cw _ _ _ _ _ _ _ _ _ _ _ _ _ _ _ _ _ _ _ _ _ _ _ _ _ _ _ _ _ _ _ _ _ _ _ _ _ _ _ _ _ _ _ _ _ _ _ _ _ _ _ _ _ _ _ _ []) (by decide) rfl rfl ?_
  refine j_iret dX8_shelfCounts_18 rfl rfl ?_ (Nat.le_of_ble_eq_true rfl) (Nat.le_of_ble_eq_true rfl)
  refine ⟨rfl, (by first | exact z_cwl | rfl), ?_⟩
  rw [sp_in' (n := k) (by omega)]
  exact ⟨if_neg hw0, rfl, (sp_CWe hra hrb ht0 ht1 ht2 he0 he1 hzm3 hzm4 hzm5 rfl)⟩
set_option maxRecDepth 100000 in
set_option maxHeartbeats 8000000 in
theorem c_X8_forgetCounts_p (hl : l.stackTraces = false) (S : sp_S) (fa : Nat → Int32) (fb : Nat → Int32) (mt : Int32) (ft : Nat → Int32) (ct : Nat → Int32) (f0 : Nat → Int32) (g0 : Nat → Int32) (f1 : Nat → Int32) (g1 : Nat → Int32) (c1 : Nat → Int32) (f2 : Nat → Int32) (g2 : Nat → Int32) (c2 : Nat → Int32) (f3 : Nat → Int32) (g3 : Nat → Int32) (c3 : Nat → Int32) (m3 : Int32) (f4 : Nat → Int32) (g4 : Nat → Int32) (c4 : Nat → Int32) (m4 : Int32) (f5 : Nat → Int32) (g5 : Nat → Int32) (c5 : Nat → Int32) (m5 : Int32) (ef0 : Nat → Int32) (ef1 : Nat → Int32)  (ok : sp_ok S) (hra : z_row 12 (nI (sp_R S 0).length) fa (sp_R S 0)) (hrb : z_row 12 (nI (sp_R S 1).length) fb (sp_R S 1)) (ht0 : z_tba f0 g0 (sp_T S 0)) (ht1 : z_tba f1 g1 (sp_T S 1)) (ht2 : z_tba f2 g2 (sp_T S 2)) (he0 : z_row 10 (nI (sp_E S 0).2.length) ef0 (sp_E S 0).2) (he1 : z_row 10 (nI (sp_E S 1).2.length) ef1 (sp_E S 1).2) (hzm3 : z_m20 m3) (hzm4 : z_m20 m4) (hzm5 : z_m20 m5) : z_CF G l mX8_forgetCounts 20 14 120 (z_cw S.1.1 S.1.2 (nI (sp_R S 0).length) (sp_F S 0) fa (sp_C S 0) (nI (sp_R S 1).length) (sp_F S 1) fb (sp_C S 1) mt false ft ct f0 g0 (sp_C S 2) (nI (sp_T S 0).length) 0 f1 g1 c1 (nI (sp_T S 1).length) 0 f2 g2 c2 (nI (sp_T S 2).length) 1 f3 g3 c3 m3 0 f4 g4 c4 m4 0 f5 g5 c5 m5 1 (nI (sp_E S 0).2.length) (sp_E S 0).1.2.1 (sp_E S 0).1.2.2.1 (sp_E S 0).1.2.2.2 (sp_E S 0).1.1 ef0 (nI (sp_E S 1).2.length) (sp_E S 1).1.2.1 (sp_E S 1).1.2.2.1 (sp_E S 1).1.2.2.2 (sp_E S 1).1.1 ef1 []) [.ref 0] (fun v L => v = some (.int (sp_cs S)) ∧ sp_CW (sp_csS S) L) := by
  refine z_body hl (by decide) rfl (Nat.le_of_ble_eq_true rfl) ?_
  show z_J G l mX8_forgetCounts (z_SF 20 14 120 (z_cw S.1.1 S.1.2 (nI (sp_R S 0).length) (sp_F S 0) fa (sp_C S 0) (nI (sp_R S 1).length) (sp_F S 1) fb (sp_C S 1) mt false ft ct f0 g0 (sp_C S 2) (nI (sp_T S 0).length) 0 f1 g1 c1 (nI (sp_T S 1).length) 0 f2 g2 c2 (nI (sp_T S 2).length) 1 f3 g3 c3 m3 0 f4 g4 c4 m4 0 f5 g5 c5 m5 1 (nI (sp_E S 0).2.length) (sp_E S 0).1.2.1 (sp_E S 0).1.2.2.1 (sp_E S 0).1.2.2.2 (sp_E S 0).1.1 ef0 (nI (sp_E S 1).2.length) (sp_E S 1).1.2.1 (sp_E S 1).1.2.2.1 (sp_E S 1).1.2.2.2 (sp_E S 1).1.1 ef1 []) (fun v L => v = some (.int (sp_cs S)) ∧ sp_CW (sp_csS S) L)) 0 [(0, _)] [] _ 0 0
  refine j_aload_n dX8_forgetCounts_0 rfl rfl ?_
  refine j_getf dX8_forgetCounts_1 fX8_21 rfl rfl ?_
  refine j_getf dX8_forgetCounts_4 fX8_223 rfl rfl ?_
  refine j_callV (q := (RX6, TX6, 1)) dX8_forgetCounts_7 kX6_startAnew lX8_224 inX6_startAnew seX6_startAnew rfl rfl (z_frame [13, 14] rfl (by decide) (Nat.le_of_ble_eq_true rfl) (c_X6_startAnew_e hl _)) (Nat.le_of_ble_eq_true rfl) ⟨(Nat.le_of_ble_eq_true rfl), (Nat.le_of_ble_eq_true rfl)⟩ rfl (Nat.le_of_ble_eq_true rfl) rfl rfl (fun _ _ h => h.elim) ?_
  rintro _ _ ⟨_, _, ⟨rfl, rfl⟩, rfl, rfl⟩
  refine j_ws (L' := z_cw _ _ _ _ _ _ _ _ _ _ _ _ _ _ _ _ _ _ _ _ _ _ _ _ _ _ _ _ _ _ _ _ _ _ _ _ _ _ _ _ _ _ _ _ _ _ _ _ _ _ _ _ _ _ _ _ []) (by decide) rfl rfl ?_
  refine j_istore_n (lo' := [(1, _), (0, _)]) dX8_forgetCounts_10 (by decide) rfl ?_
  refine j_aload_n dX8_forgetCounts_11 rfl rfl ?_
  refine j_getf dX8_forgetCounts_12 fX8_10 rfl rfl ?_
  refine j_astore_n (lo' := [(2, _), (1, _), (0, _)]) dX8_forgetCounts_15 rfl (by decide) rfl ?_
  refine j_aload_n dX8_forgetCounts_16 rfl rfl ?_
  refine j_alen dX8_forgetCounts_17 rfl rfl rfl ?_
  refine j_istore_n (lo' := [(3, _), (2, _), (1, _), (0, _)]) dX8_forgetCounts_18 (by decide) rfl ?_
  refine j_iconst (v := 0) dX8_forgetCounts_19 (by decide) ?_
  refine j_istore (lo' := [(4, _), (3, _), (2, _), (1, _), (0, _)]) dX8_forgetCounts_20 (by decide) rfl ?_
  refine j_iload dX8_forgetCounts_22 rfl ?_
  refine j_iload_n dX8_forgetCounts_24 rfl ?_
  refine j_icmp_ge (tgt := 51) dX8_forgetCounts_25 (by decide) (fun c_25 => ?_) (fun c_25 => ?_)
  · exact absurd c_25 (by decide)
  · refine j_aload_n dX8_forgetCounts_28 rfl rfl ?_
    refine j_iload dX8_forgetCounts_29 rfl ?_
    refine j_aald (v := .ref 2) dX8_forgetCounts_31 rfl rfl rfl (vp_in_iff.mpr (by decide)) rfl ?_
    refine j_astore (lo' := [(5, _), (4, _), (3, _), (2, _), (1, _), (0, _)]) dX8_forgetCounts_32 rfl (by decide) rfl ?_
    refine j_iload_n dX8_forgetCounts_34 rfl ?_
    refine j_aload dX8_forgetCounts_35 rfl rfl ?_
    refine j_getf dX8_forgetCounts_37 fX8_214 rfl rfl ?_
    refine j_callV (q := (RX6, TX6, 1)) dX8_forgetCounts_40 kX6_startAnew lX8_224 inX6_startAnew seX6_startAnew rfl rfl (z_frame [4, 5] rfl (by decide) (Nat.le_of_ble_eq_true rfl) (c_X6_startAnew_e hl _)) (Nat.le_of_ble_eq_true rfl) ⟨(Nat.le_of_ble_eq_true rfl), (Nat.le_of_ble_eq_true rfl)⟩ rfl (Nat.le_of_ble_eq_true rfl) rfl rfl (fun _ _ h => h.elim) ?_
    rintro _ _ ⟨_, _, ⟨rfl, rfl⟩, rfl, rfl⟩
    refine j_ws (L' := z_cw _ _ _ _ _ _ _ _ _ _ _ _ _ _ _ _ _ _ _ _ _ _ _ _ _ _ _ _ _ _ _ _ _ _ _ _ _ _ _ _ _ _ _ _ _ _ _ _ _ _ _ _ _ _ _ _ []) (by decide) rfl rfl ?_
    refine j_iadd dX8_forgetCounts_43 ?_
    refine j_istore_n (lo' := [(1, _), (5, _), (4, _), (3, _), (2, _), (0, _)]) dX8_forgetCounts_44 (by decide) rfl ?_
    refine j_iinc (lo' := [(4, _), (1, _), (5, _), (3, _), (2, _), (0, _)]) dX8_forgetCounts_45 rfl rfl (by decide) rfl ?_
    refine j_goto (tgt := 22) dX8_forgetCounts_48 (by decide) ?_
    refine j_iload dX8_forgetCounts_22 rfl ?_
    refine j_iload_n dX8_forgetCounts_24 rfl ?_
    refine j_icmp_ge (tgt := 51) dX8_forgetCounts_25 (by decide) (fun c_25 => ?_) (fun c_25 => ?_)
    · exact absurd c_25 (by decide)
    · refine j_aload_n dX8_forgetCounts_28 rfl rfl ?_
      refine j_iload dX8_forgetCounts_29 rfl ?_
      refine j_aald (v := .ref 6) dX8_forgetCounts_31 rfl rfl rfl (vp_in_iff.mpr (by decide)) rfl ?_
      refine j_astore (lo' := [(5, _), (4, _), (1, _), (3, _), (2, _), (0, _)]) dX8_forgetCounts_32 rfl (by decide) rfl ?_
      refine j_iload_n dX8_forgetCounts_34 rfl ?_
      refine j_aload dX8_forgetCounts_35 rfl rfl ?_
      refine j_getf dX8_forgetCounts_37 fX8_214 rfl rfl ?_
      refine j_callV (q := (RX6, TX6, 1)) dX8_forgetCounts_40 kX6_startAnew lX8_224 inX6_startAnew seX6_startAnew rfl rfl (z_frame [8, 9] rfl (by decide) (Nat.le_of_ble_eq_true rfl) (c_X6_startAnew_e hl _)) (Nat.le_of_ble_eq_true rfl) ⟨(Nat.le_of_ble_eq_true rfl), (Nat.le_of_ble_eq_true rfl)⟩ rfl (Nat.le_of_ble_eq_true rfl) rfl rfl (fun _ _ h => h.elim) ?_
      rintro _ _ ⟨_, _, ⟨rfl, rfl⟩, rfl, rfl⟩
      refine j_ws (L' := z_cw _ _ _ _ _ _ _ _ _ _ _ _ _ _ _ _ _ _ _ _ _ _ _ _ _ _ _ _ _ _ _ _ _ _ _ _ _ _ _ _ _ _ _ _ _ _ _ _ _ _ _ _ _ _ _ _ []) (by decide) rfl rfl ?_
      refine j_iadd dX8_forgetCounts_43 ?_
      refine j_istore_n (lo' := [(1, _), (5, _), (4, _), (3, _), (2, _), (0, _)]) dX8_forgetCounts_44 (by decide) rfl ?_
      refine j_iinc (lo' := [(4, _), (1, _), (5, _), (3, _), (2, _), (0, _)]) dX8_forgetCounts_45 rfl rfl (by decide) rfl ?_
      refine j_goto (tgt := 22) dX8_forgetCounts_48 (by decide) ?_
      refine j_iload dX8_forgetCounts_22 rfl ?_
      refine j_iload_n dX8_forgetCounts_24 rfl ?_
      refine j_icmp_ge (tgt := 51) dX8_forgetCounts_25 (by decide) (fun c_25 => ?_) (fun c_25 => ?_)
      · refine j_iload_n dX8_forgetCounts_51 rfl ?_
        refine j_iret dX8_forgetCounts_52 rfl rfl ?_ (Nat.le_of_ble_eq_true rfl) (Nat.le_of_ble_eq_true rfl)
        exact ⟨rfl, (by first | exact z_cwl | rfl), rfl, (sp_CWe hra hrb ht0 ht1 ht2 he0 he1 hzm3 hzm4 hzm5 rfl)⟩
      · exact absurd (by decide) c_25
set_option maxRecDepth 100000 in
set_option maxHeartbeats 8000000 in
theorem c_X8_stop_p (hl : l.stackTraces = false) (S : sp_S) (fa : Nat → Int32) (fb : Nat → Int32) (mt : Int32) (ft : Nat → Int32) (ct : Nat → Int32) (f0 : Nat → Int32) (g0 : Nat → Int32) (f1 : Nat → Int32) (g1 : Nat → Int32) (c1 : Nat → Int32) (f2 : Nat → Int32) (g2 : Nat → Int32) (c2 : Nat → Int32) (f3 : Nat → Int32) (g3 : Nat → Int32) (c3 : Nat → Int32) (m3 : Int32) (f4 : Nat → Int32) (g4 : Nat → Int32) (c4 : Nat → Int32) (m4 : Int32) (f5 : Nat → Int32) (g5 : Nat → Int32) (c5 : Nat → Int32) (m5 : Int32) (ef0 : Nat → Int32) (ef1 : Nat → Int32) (g : Int32) (n : Int32) (ok : sp_ok S) (hra : z_row 12 (nI (sp_R S 0).length) fa (sp_R S 0)) (hrb : z_row 12 (nI (sp_R S 1).length) fb (sp_R S 1)) (ht0 : z_tba f0 g0 (sp_T S 0)) (ht1 : z_tba f1 g1 (sp_T S 1)) (ht2 : z_tba f2 g2 (sp_T S 2)) (he0 : z_row 10 (nI (sp_E S 0).2.length) ef0 (sp_E S 0).2) (he1 : z_row 10 (nI (sp_E S 1).2.length) ef1 (sp_E S 1).2) (hzm3 : z_m20 m3) (hzm4 : z_m20 m4) (hzm5 : z_m20 m5) : z_CX G l mX8_stop 20 14 120 (z_cw S.1.1 S.1.2 (nI (sp_R S 0).length) (sp_F S 0) fa (sp_C S 0) (nI (sp_R S 1).length) (sp_F S 1) fb (sp_C S 1) mt false ft ct f0 g0 (sp_C S 2) (nI (sp_T S 0).length) 0 f1 g1 c1 (nI (sp_T S 1).length) 0 f2 g2 c2 (nI (sp_T S 2).length) 1 f3 g3 c3 m3 0 f4 g4 c4 m4 0 f5 g5 c5 m5 1 (nI (sp_E S 0).2.length) (sp_E S 0).1.2.1 (sp_E S 0).1.2.2.1 (sp_E S 0).1.2.2.2 (sp_E S 0).1.1 ef0 (nI (sp_E S 1).2.length) (sp_E S 1).1.2.1 (sp_E S 1).1.2.2.1 (sp_E S 1).1.2.2.2 (sp_E S 1).1.1 ef1 []) [.ref 0, .int g, .int n] (fun v L => q_k22 g (n < -1000 ∨ 99999 < n) = 0 ∧ v = some (.int ((sp_E S (sp_i g)).1.1)) ∧ sp_CW (sp_uE S (sp_i g) (sp_stp' (sp_E S (sp_i g)) n)) L) (fun E L => ((z_xI E ∧ q_k22 g (n < -1000 ∨ 99999 < n) = 1) ∨ (z_xA E ∧ q_k22 g (n < -1000 ∨ 99999 < n) = 2)) ∧ L = (z_cw S.1.1 S.1.2 (nI (sp_R S 0).length) (sp_F S 0) fa (sp_C S 0) (nI (sp_R S 1).length) (sp_F S 1) fb (sp_C S 1) mt false ft ct f0 g0 (sp_C S 2) (nI (sp_T S 0).length) 0 f1 g1 c1 (nI (sp_T S 1).length) 0 f2 g2 c2 (nI (sp_T S 2).length) 1 f3 g3 c3 m3 0 f4 g4 c4 m4 0 f5 g5 c5 m5 1 (nI (sp_E S 0).2.length) (sp_E S 0).1.2.1 (sp_E S 0).1.2.2.1 (sp_E S 0).1.2.2.2 (sp_E S 0).1.1 ef0 (nI (sp_E S 1).2.length) (sp_E S 1).1.2.1 (sp_E S 1).1.2.2.1 (sp_E S 1).1.2.2.2 (sp_E S 1).1.1 ef1 [])) := by
  refine z_body hl (by decide) rfl (Nat.le_of_ble_eq_true rfl) ?_
  show z_J G l mX8_stop (z_SX 20 14 120 (z_cw S.1.1 S.1.2 (nI (sp_R S 0).length) (sp_F S 0) fa (sp_C S 0) (nI (sp_R S 1).length) (sp_F S 1) fb (sp_C S 1) mt false ft ct f0 g0 (sp_C S 2) (nI (sp_T S 0).length) 0 f1 g1 c1 (nI (sp_T S 1).length) 0 f2 g2 c2 (nI (sp_T S 2).length) 1 f3 g3 c3 m3 0 f4 g4 c4 m4 0 f5 g5 c5 m5 1 (nI (sp_E S 0).2.length) (sp_E S 0).1.2.1 (sp_E S 0).1.2.2.1 (sp_E S 0).1.2.2.2 (sp_E S 0).1.1 ef0 (nI (sp_E S 1).2.length) (sp_E S 1).1.2.1 (sp_E S 1).1.2.2.1 (sp_E S 1).1.2.2.2 (sp_E S 1).1.1 ef1 []) (fun v L => q_k22 g (n < -1000 ∨ 99999 < n) = 0 ∧ v = some (.int ((sp_E S (sp_i g)).1.1)) ∧ sp_CW (sp_uE S (sp_i g) (sp_stp' (sp_E S (sp_i g)) n)) L) (fun E L => ((z_xI E ∧ q_k22 g (n < -1000 ∨ 99999 < n) = 1) ∨ (z_xA E ∧ q_k22 g (n < -1000 ∨ 99999 < n) = 2)) ∧ L = (z_cw S.1.1 S.1.2 (nI (sp_R S 0).length) (sp_F S 0) fa (sp_C S 0) (nI (sp_R S 1).length) (sp_F S 1) fb (sp_C S 1) mt false ft ct f0 g0 (sp_C S 2) (nI (sp_T S 0).length) 0 f1 g1 c1 (nI (sp_T S 1).length) 0 f2 g2 c2 (nI (sp_T S 2).length) 1 f3 g3 c3 m3 0 f4 g4 c4 m4 0 f5 g5 c5 m5 1 (nI (sp_E S 0).2.length) (sp_E S 0).1.2.1 (sp_E S 0).1.2.2.1 (sp_E S 0).1.2.2.2 (sp_E S 0).1.1 ef0 (nI (sp_E S 1).2.length) (sp_E S 1).1.2.1 (sp_E S 1).1.2.2.1 (sp_E S 1).1.2.2.2 (sp_E S 1).1.1 ef1 []))) 0 [(0, _), (1, _), (2, _)] [] _ 0 0
  refine j_aload_n dX8_stop_0 rfl rfl ?_
  refine j_iload_n dX8_stop_1 rfl ?_
  refine j_callV (q := (RX8, TX8, 9)) dX8_stop_2 kX8_hearerFor lX8_87 inX8_hearerFor seX8_hearerFor rfl rfl (z_dirX (c_X8_hearerFor_e hl _ _ _ _ _ _ _ _ _ _ _ _ _ _ _ _ _ _ _ _ _ _ _ _ _ _ _ _ _ _ _ _ _ _ _ _ _ _ _ _ _ _ _ _ _ _ _ _ _ _ _ _ _ _ _ _ _)) (Nat.le_of_ble_eq_true rfl) ⟨(Nat.le_of_ble_eq_true rfl), (Nat.le_of_ble_eq_true rfl)⟩ rfl (Nat.le_of_ble_eq_true rfl) rfl rfl (fun _ _ h => by obtain ⟨_, ⟨h1, rfl⟩, rfl⟩ := h; exact ⟨rfl, rfl, Or.inl ⟨h1.1, sp_k22_1 h1.2⟩, rfl⟩) ?_
  rintro _ _ ⟨_, ⟨_, rfl, hr, rfl⟩, rfl⟩
  rcases hr with ⟨e_2, rfl⟩ | ⟨e_2, rfl⟩
  · subst e_2
    refine j_astore_n (lo' := [(3, _), (0, _), (1, _), (2, _)]) dX8_stop_5 rfl (by decide) rfl ?_
    refine j_iload_n dX8_stop_6 rfl ?_
    refine j_sipush (v := (-1000)) dX8_stop_7 (by decide) ?_
    refine j_ldc dX8_stop_10 kcX8_179 ?_
    refine j_callS dX8_stop_12 kX8_checkRange lX8_72 stX8_checkRange (c_X8_checkRange_e hl _ _ _ _) (Nat.le_of_ble_eq_true rfl) ⟨(Nat.le_of_ble_eq_true rfl), (Nat.le_of_ble_eq_true rfl)⟩ rfl (Nat.le_of_ble_eq_true rfl) rfl rfl (fun _ _ h => by obtain ⟨h1, rfl⟩ := h; exact ⟨rfl, rfl, Or.inr ⟨h1.1, sp_k22_2 (Or.inl rfl) h1.2⟩, rfl⟩) ?_
    rintro _ _ ⟨⟨rfl, hc12⟩, rfl⟩
    refine j_aload_n dX8_stop_15 rfl rfl ?_
    refine j_getf dX8_stop_16 fX8_180 rfl rfl ?_
    refine j_istore (lo' := [(4, _), (3, _), (0, _), (1, _), (2, _)]) dX8_stop_19 (by decide) rfl ?_
    refine j_aload_n dX8_stop_21 rfl rfl ?_
    refine j_iload_n dX8_stop_22 rfl ?_
    refine j_put (w' := (z_cw _ _ _ _ _ _ _ _ _ _ _ _ _ _ _ _ _ _ _ _ _ _ _ _ _ _ _ _ _ _ _ _ _ _ _ _ _ _ _ _ _ _ _ _ _ _ _ _ _ _ _ _ _ _ _ _ [], z_no)) dX8_stop_23 fX8_180 tX0_5 rfl ⟨rfl, rfl⟩ rfl ?_
    refine j_iload dX8_stop_26 rfl ?_
    refine j_iret dX8_stop_28 rfl rfl ?_ (Nat.le_of_ble_eq_true rfl) (Nat.le_of_ble_eq_true rfl)
    refine ⟨rfl, (by first | exact z_cwl | rfl), ?_⟩
    rw [sp_i0]
    exact ⟨sp_k22_0 (Or.inl rfl) hc12, rfl, (sp_CWe hra hrb ht0 ht1 ht2 he0 he1 hzm3 hzm4 hzm5 rfl)⟩
  · subst e_2
    refine j_astore_n (lo' := [(3, _), (0, _), (1, _), (2, _)]) dX8_stop_5 rfl (by decide) rfl ?_
    refine j_iload_n dX8_stop_6 rfl ?_
    refine j_sipush (v := (-1000)) dX8_stop_7 (by decide) ?_
    refine j_ldc dX8_stop_10 kcX8_179 ?_
    refine j_callS dX8_stop_12 kX8_checkRange lX8_72 stX8_checkRange (c_X8_checkRange_e hl _ _ _ _) (Nat.le_of_ble_eq_true rfl) ⟨(Nat.le_of_ble_eq_true rfl), (Nat.le_of_ble_eq_true rfl)⟩ rfl (Nat.le_of_ble_eq_true rfl) rfl rfl (fun _ _ h => by obtain ⟨h1, rfl⟩ := h; exact ⟨rfl, rfl, Or.inr ⟨h1.1, sp_k22_2 (Or.inr rfl) h1.2⟩, rfl⟩) ?_
    rintro _ _ ⟨⟨rfl, hc12⟩, rfl⟩
    refine j_aload_n dX8_stop_15 rfl rfl ?_
    refine j_getf dX8_stop_16 fX8_180 rfl rfl ?_
    refine j_istore (lo' := [(4, _), (3, _), (0, _), (1, _), (2, _)]) dX8_stop_19 (by decide) rfl ?_
    refine j_aload_n dX8_stop_21 rfl rfl ?_
    refine j_iload_n dX8_stop_22 rfl ?_
    refine j_put (w' := (z_cw _ _ _ _ _ _ _ _ _ _ _ _ _ _ _ _ _ _ _ _ _ _ _ _ _ _ _ _ _ _ _ _ _ _ _ _ _ _ _ _ _ _ _ _ _ _ _ _ _ _ _ _ _ _ _ _ [], z_no)) dX8_stop_23 fX8_180 tX0_5 rfl ⟨rfl, rfl⟩ rfl ?_
    refine j_iload dX8_stop_26 rfl ?_
    refine j_iret dX8_stop_28 rfl rfl ?_ (Nat.le_of_ble_eq_true rfl) (Nat.le_of_ble_eq_true rfl)
    refine ⟨rfl, (by first | exact z_cwl | rfl), ?_⟩
    rw [sp_i1]
    exact ⟨sp_k22_0 (Or.inr rfl) hc12, rfl, (sp_CWe hra hrb ht0 ht1 ht2 he0 he1 hzm3 hzm4 hzm5 rfl)⟩
set_option maxRecDepth 100000 in
set_option maxHeartbeats 8000000 in
theorem c_X8_forget_p (hl : l.stackTraces = false) (S : sp_S) (fa : Nat → Int32) (fb : Nat → Int32) (mt : Int32) (ft : Nat → Int32) (ct : Nat → Int32) (f0 : Nat → Int32) (g0 : Nat → Int32) (f1 : Nat → Int32) (g1 : Nat → Int32) (c1 : Nat → Int32) (f2 : Nat → Int32) (g2 : Nat → Int32) (c2 : Nat → Int32) (f3 : Nat → Int32) (g3 : Nat → Int32) (c3 : Nat → Int32) (m3 : Int32) (f4 : Nat → Int32) (g4 : Nat → Int32) (c4 : Nat → Int32) (m4 : Int32) (f5 : Nat → Int32) (g5 : Nat → Int32) (c5 : Nat → Int32) (m5 : Int32) (ef0 : Nat → Int32) (ef1 : Nat → Int32) (g : Int32) (ok : sp_ok S) (hra : z_row 12 (nI (sp_R S 0).length) fa (sp_R S 0)) (hrb : z_row 12 (nI (sp_R S 1).length) fb (sp_R S 1)) (ht0 : z_tba f0 g0 (sp_T S 0)) (ht1 : z_tba f1 g1 (sp_T S 1)) (ht2 : z_tba f2 g2 (sp_T S 2)) (he0 : z_row 10 (nI (sp_E S 0).2.length) ef0 (sp_E S 0).2) (he1 : z_row 10 (nI (sp_E S 1).2.length) ef1 (sp_E S 1).2) (hzm3 : z_m20 m3) (hzm4 : z_m20 m4) (hzm5 : z_m20 m5) : z_CX G l mX8_forget 20 14 120 (z_cw S.1.1 S.1.2 (nI (sp_R S 0).length) (sp_F S 0) fa (sp_C S 0) (nI (sp_R S 1).length) (sp_F S 1) fb (sp_C S 1) mt false ft ct f0 g0 (sp_C S 2) (nI (sp_T S 0).length) 0 f1 g1 c1 (nI (sp_T S 1).length) 0 f2 g2 c2 (nI (sp_T S 2).length) 1 f3 g3 c3 m3 0 f4 g4 c4 m4 0 f5 g5 c5 m5 1 (nI (sp_E S 0).2.length) (sp_E S 0).1.2.1 (sp_E S 0).1.2.2.1 (sp_E S 0).1.2.2.2 (sp_E S 0).1.1 ef0 (nI (sp_E S 1).2.length) (sp_E S 1).1.2.1 (sp_E S 1).1.2.2.1 (sp_E S 1).1.2.2.2 (sp_E S 1).1.1 ef1 []) [.ref 0, .int g] (fun v L => q_k2 g = 0 ∧ v = some (.int ((sp_E S (sp_i g)).1.2.1)) ∧ sp_CW (sp_uE S (sp_i g) (sp_fgt (sp_E S (sp_i g)))) L) (fun E L => ((z_xI E ∧ q_k2 g = 1)) ∧ L = (z_cw S.1.1 S.1.2 (nI (sp_R S 0).length) (sp_F S 0) fa (sp_C S 0) (nI (sp_R S 1).length) (sp_F S 1) fb (sp_C S 1) mt false ft ct f0 g0 (sp_C S 2) (nI (sp_T S 0).length) 0 f1 g1 c1 (nI (sp_T S 1).length) 0 f2 g2 c2 (nI (sp_T S 2).length) 1 f3 g3 c3 m3 0 f4 g4 c4 m4 0 f5 g5 c5 m5 1 (nI (sp_E S 0).2.length) (sp_E S 0).1.2.1 (sp_E S 0).1.2.2.1 (sp_E S 0).1.2.2.2 (sp_E S 0).1.1 ef0 (nI (sp_E S 1).2.length) (sp_E S 1).1.2.1 (sp_E S 1).1.2.2.1 (sp_E S 1).1.2.2.2 (sp_E S 1).1.1 ef1 [])) := by
  refine z_body hl (by decide) rfl (Nat.le_of_ble_eq_true rfl) ?_
  show z_J G l mX8_forget (z_SX 20 14 120 (z_cw S.1.1 S.1.2 (nI (sp_R S 0).length) (sp_F S 0) fa (sp_C S 0) (nI (sp_R S 1).length) (sp_F S 1) fb (sp_C S 1) mt false ft ct f0 g0 (sp_C S 2) (nI (sp_T S 0).length) 0 f1 g1 c1 (nI (sp_T S 1).length) 0 f2 g2 c2 (nI (sp_T S 2).length) 1 f3 g3 c3 m3 0 f4 g4 c4 m4 0 f5 g5 c5 m5 1 (nI (sp_E S 0).2.length) (sp_E S 0).1.2.1 (sp_E S 0).1.2.2.1 (sp_E S 0).1.2.2.2 (sp_E S 0).1.1 ef0 (nI (sp_E S 1).2.length) (sp_E S 1).1.2.1 (sp_E S 1).1.2.2.1 (sp_E S 1).1.2.2.2 (sp_E S 1).1.1 ef1 []) (fun v L => q_k2 g = 0 ∧ v = some (.int ((sp_E S (sp_i g)).1.2.1)) ∧ sp_CW (sp_uE S (sp_i g) (sp_fgt (sp_E S (sp_i g)))) L) (fun E L => ((z_xI E ∧ q_k2 g = 1)) ∧ L = (z_cw S.1.1 S.1.2 (nI (sp_R S 0).length) (sp_F S 0) fa (sp_C S 0) (nI (sp_R S 1).length) (sp_F S 1) fb (sp_C S 1) mt false ft ct f0 g0 (sp_C S 2) (nI (sp_T S 0).length) 0 f1 g1 c1 (nI (sp_T S 1).length) 0 f2 g2 c2 (nI (sp_T S 2).length) 1 f3 g3 c3 m3 0 f4 g4 c4 m4 0 f5 g5 c5 m5 1 (nI (sp_E S 0).2.length) (sp_E S 0).1.2.1 (sp_E S 0).1.2.2.1 (sp_E S 0).1.2.2.2 (sp_E S 0).1.1 ef0 (nI (sp_E S 1).2.length) (sp_E S 1).1.2.1 (sp_E S 1).1.2.2.1 (sp_E S 1).1.2.2.2 (sp_E S 1).1.1 ef1 []))) 0 [(0, _), (1, _)] [] _ 0 0
  refine j_aload_n dX8_forget_0 rfl rfl ?_
  refine j_iload_n dX8_forget_1 rfl ?_
  refine j_callV (q := (RX8, TX8, 9)) dX8_forget_2 kX8_hearerFor lX8_87 inX8_hearerFor seX8_hearerFor rfl rfl (z_dirX (c_X8_hearerFor_e hl _ _ _ _ _ _ _ _ _ _ _ _ _ _ _ _ _ _ _ _ _ _ _ _ _ _ _ _ _ _ _ _ _ _ _ _ _ _ _ _ _ _ _ _ _ _ _ _ _ _ _ _ _ _ _ _ _)) (Nat.le_of_ble_eq_true rfl) ⟨(Nat.le_of_ble_eq_true rfl), (Nat.le_of_ble_eq_true rfl)⟩ rfl (Nat.le_of_ble_eq_true rfl) rfl rfl (fun _ _ h => by obtain ⟨_, ⟨h1, rfl⟩, rfl⟩ := h; exact ⟨rfl, rfl, ⟨h1.1, sp_k2_1 h1.2⟩, rfl⟩) ?_
  rintro _ _ ⟨_, ⟨_, rfl, hr, rfl⟩, rfl⟩
  rcases hr with ⟨e_2, rfl⟩ | ⟨e_2, rfl⟩
  · subst e_2
    refine j_astore_n (lo' := [(2, _), (0, _), (1, _)]) dX8_forget_5 rfl (by decide) rfl ?_
    refine j_aload_n dX8_forget_6 rfl rfl ?_
    refine j_getf dX8_forget_7 fX8_183 rfl rfl ?_
    refine j_istore_n (lo' := [(3, _), (2, _), (0, _), (1, _)]) dX8_forget_10 (by decide) rfl ?_
    refine j_aload_n dX8_forget_11 rfl rfl ?_
    refine j_callV (q := (RX0, TX0, 6)) dX8_forget_12 kX0_beginAnew lX8_184 inX0_beginAnew seX0_beginAnew rfl rfl (z_frame [27, 28] rfl (by decide) (Nat.le_of_ble_eq_true rfl) (c_X0_beginAnew_e hl (sp_E S 0) _)) (Nat.le_of_ble_eq_true rfl) ⟨(Nat.le_of_ble_eq_true rfl), (Nat.le_of_ble_eq_true rfl)⟩ rfl (Nat.le_of_ble_eq_true rfl) rfl rfl (fun _ _ h => h.elim) ?_
    rintro _ _ ⟨_, _, ⟨rfl, rfl⟩, rfl, rfl⟩
    refine j_ws (L' := z_cw _ _ _ _ _ _ _ _ _ _ _ _ _ _ _ _ _ _ _ _ _ _ _ _ _ _ _ _ _ _ _ _ _ _ _ _ _ _ _ _ _ _ _ _ _ _ _ _ _ _ _ _ _ _ _ _ []) (by decide) rfl rfl ?_
    refine j_iload_n dX8_forget_15 rfl ?_
    refine j_iret dX8_forget_16 rfl rfl ?_ (Nat.le_of_ble_eq_true rfl) (Nat.le_of_ble_eq_true rfl)
    refine ⟨rfl, (by first | exact z_cwl | rfl), ?_⟩
    rw [sp_i0]
    exact ⟨sp_k2_0 (Or.inl rfl), rfl, (sp_CWe hra hrb ht0 ht1 ht2 z_row.nil he1 hzm3 hzm4 hzm5 rfl)⟩
  · subst e_2
    refine j_astore_n (lo' := [(2, _), (0, _), (1, _)]) dX8_forget_5 rfl (by decide) rfl ?_
    refine j_aload_n dX8_forget_6 rfl rfl ?_
    refine j_getf dX8_forget_7 fX8_183 rfl rfl ?_
    refine j_istore_n (lo' := [(3, _), (2, _), (0, _), (1, _)]) dX8_forget_10 (by decide) rfl ?_
    refine j_aload_n dX8_forget_11 rfl rfl ?_
    refine j_callV (q := (RX0, TX0, 6)) dX8_forget_12 kX0_beginAnew lX8_184 inX0_beginAnew seX0_beginAnew rfl rfl (z_frame [29, 30] rfl (by decide) (Nat.le_of_ble_eq_true rfl) (c_X0_beginAnew_e hl (sp_E S 1) _)) (Nat.le_of_ble_eq_true rfl) ⟨(Nat.le_of_ble_eq_true rfl), (Nat.le_of_ble_eq_true rfl)⟩ rfl (Nat.le_of_ble_eq_true rfl) rfl rfl (fun _ _ h => h.elim) ?_
    rintro _ _ ⟨_, _, ⟨rfl, rfl⟩, rfl, rfl⟩
    refine j_ws (L' := z_cw _ _ _ _ _ _ _ _ _ _ _ _ _ _ _ _ _ _ _ _ _ _ _ _ _ _ _ _ _ _ _ _ _ _ _ _ _ _ _ _ _ _ _ _ _ _ _ _ _ _ _ _ _ _ _ _ []) (by decide) rfl rfl ?_
    refine j_iload_n dX8_forget_15 rfl ?_
    refine j_iret dX8_forget_16 rfl rfl ?_ (Nat.le_of_ble_eq_true rfl) (Nat.le_of_ble_eq_true rfl)
    refine ⟨rfl, (by first | exact z_cwl | rfl), ?_⟩
    rw [sp_i1]
    exact ⟨sp_k2_0 (Or.inr rfl), rfl, (sp_CWe hra hrb ht0 ht1 ht2 he0 z_row.nil hzm3 hzm4 hzm5 rfl)⟩
set_option maxRecDepth 100000 in
set_option maxHeartbeats 8000000 in
theorem c_X8_heard_p (hl : l.stackTraces = false) (S : sp_S) (fa : Nat → Int32) (fb : Nat → Int32) (mt : Int32) (ft : Nat → Int32) (ct : Nat → Int32) (f0 : Nat → Int32) (g0 : Nat → Int32) (f1 : Nat → Int32) (g1 : Nat → Int32) (c1 : Nat → Int32) (f2 : Nat → Int32) (g2 : Nat → Int32) (c2 : Nat → Int32) (f3 : Nat → Int32) (g3 : Nat → Int32) (c3 : Nat → Int32) (m3 : Int32) (f4 : Nat → Int32) (g4 : Nat → Int32) (c4 : Nat → Int32) (m4 : Int32) (f5 : Nat → Int32) (g5 : Nat → Int32) (c5 : Nat → Int32) (m5 : Int32) (ef0 : Nat → Int32) (ef1 : Nat → Int32) (g : Int32) (w : Int32) (ok : sp_ok S) (hra : z_row 12 (nI (sp_R S 0).length) fa (sp_R S 0)) (hrb : z_row 12 (nI (sp_R S 1).length) fb (sp_R S 1)) (ht0 : z_tba f0 g0 (sp_T S 0)) (ht1 : z_tba f1 g1 (sp_T S 1)) (ht2 : z_tba f2 g2 (sp_T S 2)) (he0 : z_row 10 (nI (sp_E S 0).2.length) ef0 (sp_E S 0).2) (he1 : z_row 10 (nI (sp_E S 1).2.length) ef1 (sp_E S 1).2) (hzm3 : z_m20 m3) (hzm4 : z_m20 m4) (hzm5 : z_m20 m5) : z_CX G l mX8_heard 20 14 120 (z_cw S.1.1 S.1.2 (nI (sp_R S 0).length) (sp_F S 0) fa (sp_C S 0) (nI (sp_R S 1).length) (sp_F S 1) fb (sp_C S 1) mt false ft ct f0 g0 (sp_C S 2) (nI (sp_T S 0).length) 0 f1 g1 c1 (nI (sp_T S 1).length) 0 f2 g2 c2 (nI (sp_T S 2).length) 1 f3 g3 c3 m3 0 f4 g4 c4 m4 0 f5 g5 c5 m5 1 (nI (sp_E S 0).2.length) (sp_E S 0).1.2.1 (sp_E S 0).1.2.2.1 (sp_E S 0).1.2.2.2 (sp_E S 0).1.1 ef0 (nI (sp_E S 1).2.length) (sp_E S 1).1.2.1 (sp_E S 1).1.2.2.1 (sp_E S 1).1.2.2.2 (sp_E S 1).1.1 ef1 []) [.ref 0, .int g, .int w] (fun v L => q_k22 g (w < 0 ∨ 3 < w) = 0 ∧ v = some (.int (sp_tel (sp_E S (sp_i g)) w)) ∧ sp_CW (S) L) (fun E L => ((z_xI E ∧ q_k22 g (w < 0 ∨ 3 < w) = 1) ∨ (z_xA E ∧ q_k22 g (w < 0 ∨ 3 < w) = 2)) ∧ L = (z_cw S.1.1 S.1.2 (nI (sp_R S 0).length) (sp_F S 0) fa (sp_C S 0) (nI (sp_R S 1).length) (sp_F S 1) fb (sp_C S 1) mt false ft ct f0 g0 (sp_C S 2) (nI (sp_T S 0).length) 0 f1 g1 c1 (nI (sp_T S 1).length) 0 f2 g2 c2 (nI (sp_T S 2).length) 1 f3 g3 c3 m3 0 f4 g4 c4 m4 0 f5 g5 c5 m5 1 (nI (sp_E S 0).2.length) (sp_E S 0).1.2.1 (sp_E S 0).1.2.2.1 (sp_E S 0).1.2.2.2 (sp_E S 0).1.1 ef0 (nI (sp_E S 1).2.length) (sp_E S 1).1.2.1 (sp_E S 1).1.2.2.1 (sp_E S 1).1.2.2.2 (sp_E S 1).1.1 ef1 [])) := by
  refine z_body hl (by decide) rfl (Nat.le_of_ble_eq_true rfl) ?_
  show z_J G l mX8_heard (z_SX 20 14 120 (z_cw S.1.1 S.1.2 (nI (sp_R S 0).length) (sp_F S 0) fa (sp_C S 0) (nI (sp_R S 1).length) (sp_F S 1) fb (sp_C S 1) mt false ft ct f0 g0 (sp_C S 2) (nI (sp_T S 0).length) 0 f1 g1 c1 (nI (sp_T S 1).length) 0 f2 g2 c2 (nI (sp_T S 2).length) 1 f3 g3 c3 m3 0 f4 g4 c4 m4 0 f5 g5 c5 m5 1 (nI (sp_E S 0).2.length) (sp_E S 0).1.2.1 (sp_E S 0).1.2.2.1 (sp_E S 0).1.2.2.2 (sp_E S 0).1.1 ef0 (nI (sp_E S 1).2.length) (sp_E S 1).1.2.1 (sp_E S 1).1.2.2.1 (sp_E S 1).1.2.2.2 (sp_E S 1).1.1 ef1 []) (fun v L => q_k22 g (w < 0 ∨ 3 < w) = 0 ∧ v = some (.int (sp_tel (sp_E S (sp_i g)) w)) ∧ sp_CW (S) L) (fun E L => ((z_xI E ∧ q_k22 g (w < 0 ∨ 3 < w) = 1) ∨ (z_xA E ∧ q_k22 g (w < 0 ∨ 3 < w) = 2)) ∧ L = (z_cw S.1.1 S.1.2 (nI (sp_R S 0).length) (sp_F S 0) fa (sp_C S 0) (nI (sp_R S 1).length) (sp_F S 1) fb (sp_C S 1) mt false ft ct f0 g0 (sp_C S 2) (nI (sp_T S 0).length) 0 f1 g1 c1 (nI (sp_T S 1).length) 0 f2 g2 c2 (nI (sp_T S 2).length) 1 f3 g3 c3 m3 0 f4 g4 c4 m4 0 f5 g5 c5 m5 1 (nI (sp_E S 0).2.length) (sp_E S 0).1.2.1 (sp_E S 0).1.2.2.1 (sp_E S 0).1.2.2.2 (sp_E S 0).1.1 ef0 (nI (sp_E S 1).2.length) (sp_E S 1).1.2.1 (sp_E S 1).1.2.2.1 (sp_E S 1).1.2.2.2 (sp_E S 1).1.1 ef1 []))) 0 [(0, _), (1, _), (2, _)] [] _ 0 0
  refine j_aload_n dX8_heard_0 rfl rfl ?_
  refine j_iload_n dX8_heard_1 rfl ?_
  refine j_callV (q := (RX8, TX8, 9)) dX8_heard_2 kX8_hearerFor lX8_87 inX8_hearerFor seX8_hearerFor rfl rfl (z_dirX (c_X8_hearerFor_e hl _ _ _ _ _ _ _ _ _ _ _ _ _ _ _ _ _ _ _ _ _ _ _ _ _ _ _ _ _ _ _ _ _ _ _ _ _ _ _ _ _ _ _ _ _ _ _ _ _ _ _ _ _ _ _ _ _)) (Nat.le_of_ble_eq_true rfl) ⟨(Nat.le_of_ble_eq_true rfl), (Nat.le_of_ble_eq_true rfl)⟩ rfl (Nat.le_of_ble_eq_true rfl) rfl rfl (fun _ _ h => by obtain ⟨_, ⟨h1, rfl⟩, rfl⟩ := h; exact ⟨rfl, rfl, Or.inl ⟨h1.1, sp_k22_1 h1.2⟩, rfl⟩) ?_
  rintro _ _ ⟨_, ⟨_, rfl, hr, rfl⟩, rfl⟩
  rcases hr with ⟨e_2, rfl⟩ | ⟨e_2, rfl⟩
  · subst e_2
    refine j_astore_n (lo' := [(3, _), (0, _), (1, _), (2, _)]) dX8_heard_5 rfl (by decide) rfl ?_
    refine j_iload_n dX8_heard_6 rfl ?_
    refine j_iconst (v := 0) dX8_heard_7 (by decide) ?_
    refine j_iconst (v := 3) dX8_heard_8 (by decide) ?_
    refine j_callS dX8_heard_9 kX8_checkRange lX8_72 stX8_checkRange (c_X8_checkRange_e hl _ _ _ _) (Nat.le_of_ble_eq_true rfl) ⟨(Nat.le_of_ble_eq_true rfl), (Nat.le_of_ble_eq_true rfl)⟩ rfl (Nat.le_of_ble_eq_true rfl) rfl rfl (fun _ _ h => by obtain ⟨h1, rfl⟩ := h; exact ⟨rfl, rfl, Or.inr ⟨h1.1, sp_k22_2 (Or.inl rfl) h1.2⟩, rfl⟩) ?_
    rintro _ _ ⟨⟨rfl, hc9⟩, rfl⟩
    refine j_aload_n dX8_heard_12 rfl rfl ?_
    refine j_iload_n dX8_heard_13 rfl ?_
    refine j_callV (q := (RX0, TX0, 6)) dX8_heard_14 kX0_tells lX8_187 inX0_tells seX0_tells rfl rfl (z_frame [27, 28] rfl (by decide) (Nat.le_of_ble_eq_true rfl) (c_X0_tells_e hl (sp_E S 0) _ w)) (Nat.le_of_ble_eq_true rfl) ⟨(Nat.le_of_ble_eq_true rfl), (Nat.le_of_ble_eq_true rfl)⟩ rfl (Nat.le_of_ble_eq_true rfl) rfl rfl (fun _ _ h => h.elim) ?_
    rintro _ _ ⟨_, _, ⟨rfl, rfl⟩, rfl, rfl⟩
    refine j_ws (L' := z_cw _ _ _ _ _ _ _ _ _ _ _ _ _ _ _ _ _ _ _ _ _ _ _ _ _ _ _ _ _ _ _ _ _ _ _ _ _ _ _ _ _ _ _ _ _ _ _ _ _ _ _ _ _ _ _ _ []) (by decide) rfl rfl ?_
    refine j_iret dX8_heard_17 rfl rfl ?_ (Nat.le_of_ble_eq_true rfl) (Nat.le_of_ble_eq_true rfl)
    refine ⟨rfl, (by first | exact z_cwl | rfl), ?_⟩
    rw [sp_i0]
    exact ⟨sp_k22_0 (Or.inl rfl) hc9, rfl, (sp_CWe hra hrb ht0 ht1 ht2 he0 he1 hzm3 hzm4 hzm5 rfl)⟩
  · subst e_2
    refine j_astore_n (lo' := [(3, _), (0, _), (1, _), (2, _)]) dX8_heard_5 rfl (by decide) rfl ?_
    refine j_iload_n dX8_heard_6 rfl ?_
    refine j_iconst (v := 0) dX8_heard_7 (by decide) ?_
    refine j_iconst (v := 3) dX8_heard_8 (by decide) ?_
    refine j_callS dX8_heard_9 kX8_checkRange lX8_72 stX8_checkRange (c_X8_checkRange_e hl _ _ _ _) (Nat.le_of_ble_eq_true rfl) ⟨(Nat.le_of_ble_eq_true rfl), (Nat.le_of_ble_eq_true rfl)⟩ rfl (Nat.le_of_ble_eq_true rfl) rfl rfl (fun _ _ h => by obtain ⟨h1, rfl⟩ := h; exact ⟨rfl, rfl, Or.inr ⟨h1.1, sp_k22_2 (Or.inr rfl) h1.2⟩, rfl⟩) ?_
    rintro _ _ ⟨⟨rfl, hc9⟩, rfl⟩
    refine j_aload_n dX8_heard_12 rfl rfl ?_
    refine j_iload_n dX8_heard_13 rfl ?_
    refine j_callV (q := (RX0, TX0, 6)) dX8_heard_14 kX0_tells lX8_187 inX0_tells seX0_tells rfl rfl (z_frame [29, 30] rfl (by decide) (Nat.le_of_ble_eq_true rfl) (c_X0_tells_e hl (sp_E S 1) _ w)) (Nat.le_of_ble_eq_true rfl) ⟨(Nat.le_of_ble_eq_true rfl), (Nat.le_of_ble_eq_true rfl)⟩ rfl (Nat.le_of_ble_eq_true rfl) rfl rfl (fun _ _ h => h.elim) ?_
    rintro _ _ ⟨_, _, ⟨rfl, rfl⟩, rfl, rfl⟩
    refine j_ws (L' := z_cw _ _ _ _ _ _ _ _ _ _ _ _ _ _ _ _ _ _ _ _ _ _ _ _ _ _ _ _ _ _ _ _ _ _ _ _ _ _ _ _ _ _ _ _ _ _ _ _ _ _ _ _ _ _ _ _ []) (by decide) rfl rfl ?_
    refine j_iret dX8_heard_17 rfl rfl ?_ (Nat.le_of_ble_eq_true rfl) (Nat.le_of_ble_eq_true rfl)
    refine ⟨rfl, (by first | exact z_cwl | rfl), ?_⟩
    rw [sp_i1]
    exact ⟨sp_k22_0 (Or.inr rfl) hc9, rfl, (sp_CWe hra hrb ht0 ht1 ht2 he0 he1 hzm3 hzm4 hzm5 rfl)⟩
set_option maxRecDepth 100000 in
set_option maxHeartbeats 8000000 in
theorem c_X8_knock_p (hl : l.stackTraces = false) (S : sp_S) (fa : Nat → Int32) (fb : Nat → Int32) (mt : Int32) (ft : Nat → Int32) (ct : Nat → Int32) (f0 : Nat → Int32) (g0 : Nat → Int32) (f1 : Nat → Int32) (g1 : Nat → Int32) (c1 : Nat → Int32) (f2 : Nat → Int32) (g2 : Nat → Int32) (c2 : Nat → Int32) (f3 : Nat → Int32) (g3 : Nat → Int32) (c3 : Nat → Int32) (m3 : Int32) (f4 : Nat → Int32) (g4 : Nat → Int32) (c4 : Nat → Int32) (m4 : Int32) (f5 : Nat → Int32) (g5 : Nat → Int32) (c5 : Nat → Int32) (m5 : Int32) (ef0 : Nat → Int32) (ef1 : Nat → Int32)  (ok : sp_ok S) (hra : z_row 12 (nI (sp_R S 0).length) fa (sp_R S 0)) (hrb : z_row 12 (nI (sp_R S 1).length) fb (sp_R S 1)) (ht0 : z_tba f0 g0 (sp_T S 0)) (ht1 : z_tba f1 g1 (sp_T S 1)) (ht2 : z_tba f2 g2 (sp_T S 2)) (he0 : z_row 10 (nI (sp_E S 0).2.length) ef0 (sp_E S 0).2) (he1 : z_row 10 (nI (sp_E S 1).2.length) ef1 (sp_E S 1).2) (hzm3 : z_m20 m3) (hzm4 : z_m20 m4) (hzm5 : z_m20 m5) : z_CF G l mX8_knock 20 14 120 (z_cw S.1.1 S.1.2 (nI (sp_R S 0).length) (sp_F S 0) fa (sp_C S 0) (nI (sp_R S 1).length) (sp_F S 1) fb (sp_C S 1) mt false ft ct f0 g0 (sp_C S 2) (nI (sp_T S 0).length) 0 f1 g1 c1 (nI (sp_T S 1).length) 0 f2 g2 c2 (nI (sp_T S 2).length) 1 f3 g3 c3 m3 0 f4 g4 c4 m4 0 f5 g5 c5 m5 1 (nI (sp_E S 0).2.length) (sp_E S 0).1.2.1 (sp_E S 0).1.2.2.1 (sp_E S 0).1.2.2.2 (sp_E S 0).1.1 ef0 (nI (sp_E S 1).2.length) (sp_E S 1).1.2.1 (sp_E S 1).1.2.2.1 (sp_E S 1).1.2.2.2 (sp_E S 1).1.1 ef1 []) [.ref 0] (fun v L => v = some (.int (S.1.2 + 1)) ∧ sp_CW (sp_kno S) L) := by
  refine z_body hl (by decide) rfl (Nat.le_of_ble_eq_true rfl) ?_
  show z_J G l mX8_knock (z_SF 20 14 120 (z_cw S.1.1 S.1.2 (nI (sp_R S 0).length) (sp_F S 0) fa (sp_C S 0) (nI (sp_R S 1).length) (sp_F S 1) fb (sp_C S 1) mt false ft ct f0 g0 (sp_C S 2) (nI (sp_T S 0).length) 0 f1 g1 c1 (nI (sp_T S 1).length) 0 f2 g2 c2 (nI (sp_T S 2).length) 1 f3 g3 c3 m3 0 f4 g4 c4 m4 0 f5 g5 c5 m5 1 (nI (sp_E S 0).2.length) (sp_E S 0).1.2.1 (sp_E S 0).1.2.2.1 (sp_E S 0).1.2.2.2 (sp_E S 0).1.1 ef0 (nI (sp_E S 1).2.length) (sp_E S 1).1.2.1 (sp_E S 1).1.2.2.1 (sp_E S 1).1.2.2.2 (sp_E S 1).1.1 ef1 []) (fun v L => v = some (.int (S.1.2 + 1)) ∧ sp_CW (sp_kno S) L)) 0 [(0, _)] [] _ 0 0
  refine j_aload_n dX8_knock_0 rfl rfl ?_
  refine j_dup dX8_knock_1 rfl ?_
  refine j_getf dX8_knock_2 fX8_244 rfl rfl ?_
  refine j_iconst (v := 1) dX8_knock_5 (by decide) ?_
  refine j_iadd dX8_knock_6 ?_
  refine j_put (w' := (z_cw _ _ _ _ _ _ _ _ _ _ _ _ _ _ _ _ _ _ _ _ _ _ _ _ _ _ _ _ _ _ _ _ _ _ _ _ _ _ _ _ _ _ _ _ _ _ _ _ _ _ _ _ _ _ _ _ [], z_no)) dX8_knock_7 fX8_244 tX8_8 rfl ⟨rfl, rfl⟩ rfl ?_
  refine j_aload_n dX8_knock_10 rfl rfl ?_
  refine j_getf dX8_knock_11 fX8_244 rfl rfl ?_
  refine j_iret dX8_knock_14 rfl rfl ?_ (Nat.le_of_ble_eq_true rfl) (Nat.le_of_ble_eq_true rfl)
  exact ⟨rfl, (by first | exact z_cwl | rfl), rfl, (sp_CWe hra hrb ht0 ht1 ht2 he0 he1 hzm3 hzm4 hzm5 rfl)⟩
end ZCp2
