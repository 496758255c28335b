section ZSo
theorem sp_m20 {n : Nat} (h : n ≤ 20) : z_m20 (nI n) := by
  unfold z_m20
  rw [nI_toInt (by omega)]
  omega
theorem so_v1 : z_vl 1 := ⟨by decide, by decide⟩
theorem so_becE {b b' : Bool} {T T' : List (Nat × Int32)} {c c' : Nat → Int32} {k : Nat} {o : Option Int32} (hT : sp_okT T) (hT' : sp_okT T') (h : ∀ j, sp_lk T j = sp_lk T' j) : (sp_bec b T c k o).1 = (sp_bec b' T' c' k o).1 ∧ ∀ j, sp_lk (sp_bec b T c k o).2.1 j = sp_lk (sp_bec b' T' c' k o).2.1 j := by
  cases o with
  | none => exact ⟨rfl, h⟩
  | some y =>
    by_cases hy : y = -1000
    · have e1 : sp_bec b T c k (some y) = (if sp_lk T k = -1000 then (some y, T, c) else (some y, sp_go T k, z_bp c 6)) := if_pos hy
      have e2 : sp_bec b' T' c' k (some y) = (if sp_lk T' k = -1000 then (some y, T', c') else (some y, sp_go T' k, z_bp c' 6)) := if_pos hy
      by_cases h2 : sp_lk T k = -1000
      · rw [if_pos h2] at e1
        rw [if_pos ((h k).symm.trans h2)] at e2
        rw [e1, e2]
        exact ⟨rfl, h⟩
      · rw [if_neg h2] at e1
        rw [if_neg (fun z => h2 ((h k).trans z))] at e2
        rw [e1, e2]
        refine ⟨rfl, fun j => ?_⟩
        show sp_lk (sp_go T k) j = sp_lk (sp_go T' k) j
        rw [sp_lk_go, sp_lk_go, h j]
    · have e1 : sp_bec b T c k (some y) = (some y, sp_pt b T k y, z_bp c 5) := if_neg hy
      have e2 : sp_bec b' T' c' k (some y) = (some y, sp_pt b' T' k y, z_bp c' 5) := if_neg hy
      rw [e1, e2]
      refine ⟨rfl, fun j => ?_⟩
      show sp_lk (sp_pt b T k y) j = sp_lk (sp_pt b' T' k y) j
      rw [sp_lk_pt hT, sp_lk_pt hT', h j]
theorem so_lk {b b' : Bool} {U : List (Nat × Int32)} (hU : sp_okT U) : ∀ j, sp_lk (sp_cp b U) j = sp_lk (sp_cp b' U) j := fun j => (sp_lk_cp hU).trans (sp_lk_cp hU).symm
theorem so_0 {b b' : Bool} {U : List (Nat × Int32)} {c c' : Nat → Int32} {k : Nat} {r : Int32} (hU : sp_okT U) : (sp_bec b (sp_cp b U) c k (q_rt r (nI k) (q_d (sp_lk (sp_cp b U) k)) 1)).1 = (sp_bec b' (sp_cp b' U) c' k (q_rt r (nI k) (q_d (sp_lk (sp_cp b' U) k)) 1)).1 ∧ ∀ j, sp_lk (sp_bec b (sp_cp b U) c k (q_rt r (nI k) (q_d (sp_lk (sp_cp b U) k)) 1)).2.1 j = sp_lk (sp_bec b' (sp_cp b' U) c' k (q_rt r (nI k) (q_d (sp_lk (sp_cp b' U) k)) 1)).2.1 j := by
  rw [so_lk (b := b) (b' := b') hU k]
  exact so_becE (sp_cp_ok hU) (sp_cp_ok hU) (so_lk hU)
theorem so_1 {b b' : Bool} {U : List (Nat × Int32)} {c c' : Nat → Int32} {k : Nat} {r : Int32} (hU : sp_okT U) : (sp_cia b (sp_cp b U) c k r 1).1 = (sp_cia b' (sp_cp b' U) c' k r 1).1 ∧ ∀ j, sp_lk (sp_cia b (sp_cp b U) c k r 1).2.1 j = sp_lk (sp_cia b' (sp_cp b' U) c' k r 1).2.1 j := by
  have hk := so_lk (b := b) (b' := b') hU k
  by_cases h2 : sp_lk (sp_cp b U) k = -1000
  · have e1 : sp_cia b (sp_cp b U) c k r 1 = sp_bec b (sp_cp b U) c k (q_rt r (nI k) 0 1) := if_pos h2
    have e2 : sp_cia b' (sp_cp b' U) c' k r 1 = sp_bec b' (sp_cp b' U) c' k (q_rt r (nI k) 0 1) := if_pos (hk.symm.trans h2)
    rw [e1, e2]
    exact so_becE (sp_cp_ok hU) (sp_cp_ok hU) (so_lk hU)
  · have e1 : sp_cia b (sp_cp b U) c k r 1 = (some (sp_lk (sp_cp b U) k), sp_cp b U, c) := if_neg h2
    have e2 : sp_cia b' (sp_cp b' U) c' k r 1 = (some (sp_lk (sp_cp b' U) k), sp_cp b' U, c') := if_neg (fun z => h2 (hk.trans z))
    rw [e1, e2]
    exact ⟨congrArg some hk, so_lk hU⟩
theorem so_2 {b b' : Bool} {U : List (Nat × Int32)} {c c' : Nat → Int32} {k : Nat} {r : Int32} (hU : sp_okT U) : (sp_cip b (sp_cp b U) c k r 1).1 = (sp_cip b' (sp_cp b' U) c' k r 1).1 ∧ ∀ j, sp_lk (sp_cip b (sp_cp b U) c k r 1).2.1 j = sp_lk (sp_cip b' (sp_cp b' U) c' k r 1).2.1 j := by
  have hk := so_lk (b := b) (b' := b') hU k
  by_cases h2 : sp_lk (sp_cp b U) k = -1000
  · have e1 : sp_cip b (sp_cp b U) c k r 1 = (some (-1000), sp_cp b U, c) := if_pos h2
    have e2 : sp_cip b' (sp_cp b' U) c' k r 1 = (some (-1000), sp_cp b' U, c') := if_pos (hk.symm.trans h2)
    rw [e1, e2]
    exact ⟨rfl, so_lk hU⟩
  · have e1 : sp_cip b (sp_cp b U) c k r 1 = sp_bec b (sp_cp b U) c k (q_rt r (nI k) (sp_lk (sp_cp b U) k) 1) := if_neg h2
    have e2 : sp_cip b' (sp_cp b' U) c' k r 1 = sp_bec b' (sp_cp b' U) c' k (q_rt r (nI k) (sp_lk (sp_cp b' U) k) 1) := if_neg (fun z => h2 (hk.trans z))
    rw [e1, e2, hk]
    exact so_becE (sp_cp_ok hU) (sp_cp_ok hU) (so_lk hU)
theorem so_3 {b b' : Bool} {U : List (Nat × Int32)} {c c' : Nat → Int32} {k : Nat} {r : Int32} (hU : sp_okT U) : (sp_mrg b (sp_cp b U) c k 1 r).1 = (sp_mrg b' (sp_cp b' U) c' k 1 r).1 ∧ ∀ j, sp_lk (sp_mrg b (sp_cp b U) c k 1 r).2.1 j = sp_lk (sp_mrg b' (sp_cp b' U) c' k 1 r).2.1 j := by
  have hk := so_lk (b := b) (b' := b') hU k
  by_cases h2 : sp_lk (sp_cp b U) k = -1000
  · have e1 : sp_mrg b (sp_cp b U) c k 1 r = (some 1, sp_pt b (sp_cp b U) k 1, z_bp c 5) := if_pos h2
    have e2 : sp_mrg b' (sp_cp b' U) c' k 1 r = (some 1, sp_pt b' (sp_cp b' U) k 1, z_bp c' 5) := if_pos (hk.symm.trans h2)
    rw [e1, e2]
    refine ⟨rfl, fun j => ?_⟩
    show sp_lk (sp_pt b (sp_cp b U) k 1) j = sp_lk (sp_pt b' (sp_cp b' U) k 1) j
    rw [sp_lk_pt (sp_cp_ok hU), sp_lk_pt (sp_cp_ok hU), so_lk (b := b) (b' := b') hU j]
  · have e1 : sp_mrg b (sp_cp b U) c k 1 r = sp_bec b (sp_cp b U) c k (q_rt r (nI k) (sp_lk (sp_cp b U) k) 1) := if_neg h2
    have e2 : sp_mrg b' (sp_cp b' U) c' k 1 r = sp_bec b' (sp_cp b' U) c' k (q_rt r (nI k) (sp_lk (sp_cp b' U) k) 1) := if_neg (fun z => h2 (hk.trans z))
    rw [e1, e2, hk]
    exact so_becE (sp_cp_ok hU) (sp_cp_ok hU) (so_lk hU)
theorem so_tt {t v : Int32} (ht : t = 0 ∨ t = 1 ∨ t = 2 ∨ t = 3 ∨ t = 4) : q_tt t v 0 = some 0 ∨ q_tt t v 0 = some 1 := by
  have h : ∀ b : Bool, z_bi b = 0 ∨ z_bi b = 1 := fun b => by
    cases b with
    | false => exact Or.inl rfl
    | true => exact Or.inr rfl
  rcases ht with rfl | rfl | rfl | rfl | rfl
  · rw [q_tt0]; exact (h _).imp (congrArg some) (congrArg some)
  · rw [q_tt1]; exact (h _).imp (congrArg some) (congrArg some)
  · rw [q_tt2]; exact (h _).imp (congrArg some) (congrArg some)
  · rw [q_tt3]; exact (h _).imp (congrArg some) (congrArg some)
  · rw [q_tt4]; exact (h _).imp (congrArg some) (congrArg some)
theorem so_ri : ∀ (L : List Int32) {t : Int32} (_ : t = 0 ∨ t = 1 ∨ t = 2 ∨ t = 3 ∨ t = 4) {c : Nat → Int32} {A : List Int32} {k : Bool}, (sp_ri false t 0 c A k L).2.2 = A ++ L.filter (sp_no t)
  | [], _, _, _, A, _ => (List.append_nil A).symm
  | v :: L, t, ht, c, A, k => by
    rcases so_tt (v := v) ht with e | e
    · rw [sp_riO e (by decide), so_ri L ht, List.filter_cons, if_pos (show sp_no t v = true by unfold sp_no; rw [e]; rfl), List.append_assoc]
      rfl
    · rw [sp_riT e, so_ri L ht, List.filter_cons, if_neg (show ¬ sp_no t v = true by unfold sp_no; rw [e]; decide)]
theorem so_t5 {j : Nat} (h : j ≤ 4) : nI j = 0 ∨ nI j = 1 ∨ nI j = 2 ∨ nI j = 3 ∨ nI j = 4 := by
  rcases (by omega : j = 0 ∨ j = 1 ∨ j = 2 ∨ j = 3 ∨ j = 4) with rfl | rfl | rfl | rfl | rfl
  · exact Or.inl rfl
  · exact Or.inr (Or.inl rfl)
  · exact Or.inr (Or.inr (Or.inl rfl))
  · exact Or.inr (Or.inr (Or.inr (Or.inl rfl)))
  · exact Or.inr (Or.inr (Or.inr (Or.inr rfl)))
theorem so_zr {c : Nat → Int32} {j : Nat} (h : j < 7) : q_zr c 7 j = 0 := by
  rcases (by omega : j = 0 ∨ j = 1 ∨ j = 2 ∨ j = 3 ∨ j = 4 ∨ j = 5 ∨ j = 6) with rfl | rfl | rfl | rfl | rfl | rfl | rfl <;> rfl
theorem so_z0 {c : Nat → Int32} : z_bp (q_zr c 7) 0 0 = 1 := z_ui_self.trans (by rw [so_zr (by decide)]; rfl)
theorem so_zn {c : Nat → Int32} {j : Nat} (h : j < 7) (h0 : ¬ j = 0) : z_bp (q_zr c 7) 0 j = nI 0 := (z_ui_ne h0).trans (so_zr h)
end ZSo
section ZCs
variable {G : z_G} {l : Launch}
set_option maxRecDepth 100000 in
set_option maxHeartbeats 8000000 in
theorem c_X8_isWalkCounted_0_e (hl : l.stackTraces = false) (rf : Int32) (kn : Int32) (xa : Bool) (fa : Nat → Int32) (ca : Nat → Int32) (mb : Int32) (xb : Bool) (fb : Nat → Int32) (cb : Nat → Int32) (mt : Int32) (ft : Nat → Int32) (ct : Nat → Int32) (f0 : Nat → Int32) (g0 : Nat → Int32) (c0 : Nat → Int32) (m0 : Int32) (s0 : Int32) (f1 : Nat → Int32) (g1 : Nat → Int32) (c1 : Nat → Int32) (m1 : Int32) (s1 : Int32) (f2 : Nat → Int32) (g2 : Nat → Int32) (c2 : Nat → Int32) (m2 : Int32) (s2 : Int32) (f3 : Nat → Int32) (g3 : Nat → Int32) (c3 : Nat → Int32) (m3 : Int32) (s3 : Int32) (f4 : Nat → Int32) (g4 : Nat → Int32) (c4 : Nat → Int32) (m4 : Int32) (s4 : Int32) (f5 : Nat → Int32) (g5 : Nat → Int32) (c5 : Nat → Int32) (m5 : Int32) (s5 : Int32) (ek0 : Int32) (em0 : Int32) (es0 : Int32) (el0 : Int32) (b0 : Int32) (ef0 : Nat → Int32) (ek1 : Int32) (em1 : Int32) (es1 : Int32) (el1 : Int32) (b1 : Int32) (ef1 : Nat → Int32) (B : List Int32) (M : Nat) (hr : z_row 12 (nI M) fa B) (hM : M = B.length) : z_CF G l mX8_isWalkCounted 17 1 5 (z_cw rf kn (nI M) xa fa ca mb xb fb cb mt false ft ct f0 g0 c0 m0 s0 f1 g1 c1 m1 s1 f2 g2 c2 m2 s2 f3 g3 c3 m3 s3 f4 g4 c4 m4 s4 f5 g5 c5 m5 s5 ek0 em0 es0 el0 b0 ef0 ek1 em1 es1 el1 b1 ef1 []) [.ref 0, .ref 2] (fun v L => v = some (.int 1) ∧ ∃ (mt' : Int32) (ft' ct' : Nat → Int32), L = (z_cw rf kn (nI M) xa fa ca mb xb fb cb mt' false ft' ct' f0 g0 c0 m0 s0 f1 g1 c1 m1 s1 f2 g2 c2 m2 s2 f3 g3 c3 m3 s3 f4 g4 c4 m4 s4 f5 g5 c5 m5 s5 ek0 em0 es0 el0 b0 ef0 ek1 em1 es1 el1 b1 ef1 [])) := by
  refine z_body hl (by decide) rfl (Nat.le_of_ble_eq_true rfl) ?_
  show z_J G l mX8_isWalkCounted (z_SF 17 1 5 (z_cw rf kn (nI M) xa fa ca mb xb fb cb mt false ft ct f0 g0 c0 m0 s0 f1 g1 c1 m1 s1 f2 g2 c2 m2 s2 f3 g3 c3 m3 s3 f4 g4 c4 m4 s4 f5 g5 c5 m5 s5 ek0 em0 es0 el0 b0 ef0 ek1 em1 es1 el1 b1 ef1 []) (fun v L => v = some (.int 1) ∧ ∃ (mt' : Int32) (ft' ct' : Nat → Int32), L = (z_cw rf kn (nI M) xa fa ca mb xb fb cb mt' false ft' ct' f0 g0 c0 m0 s0 f1 g1 c1 m1 s1 f2 g2 c2 m2 s2 f3 g3 c3 m3 s3 f4 g4 c4 m4 s4 f5 g5 c5 m5 s5 ek0 em0 es0 el0 b0 ef0 ek1 em1 es1 el1 b1 ef1 []))) 0 [(0, _), (1, _)] [] _ 0 0
  have hln := hr.2.1
  refine j_aload_n dX8_isWalkCounted_0 rfl rfl ?_
  refine j_getf dX8_isWalkCounted_1 fX8_36 rfl rfl ?_
  refine j_aload_n dX8_isWalkCounted_4 rfl rfl ?_
  refine j_callV (q := (RX1, TX1, 4)) dX8_isWalkCounted_5 kX1_become lX8_123 inX1_become seX1_become rfl rfl (z_frame [31, 32, 33, 34, 2, 3, 4, 5] rfl (by decide) (Nat.le_of_ble_eq_true rfl) (c_X1_become_e hl _ _ _ _ _ _ _ _)) (Nat.le_of_ble_eq_true rfl) ⟨(Nat.le_of_ble_eq_true rfl), (Nat.le_of_ble_eq_true rfl)⟩ rfl (Nat.le_of_ble_eq_true rfl) rfl rfl (fun _ _ h => h.elim) ?_
  rintro _ _ ⟨_, _, ⟨rfl, ft9, hft9, rfl⟩, rfl, rfl⟩
  refine j_ws (L' := z_cw _ _ _ _ _ _ _ _ _ _ _ _ _ _ _ _ _ _ _ _ _ _ _ _ _ _ _ _ _ _ _ _ _ _ _ _ _ _ _ _ _ _ _ _ _ _ _ _ _ _ _ _ _ _ _ _ []) (by decide) rfl rfl ?_
  have hrt : z_row 12 (nI M) ft9 B := hr.eqf hft9
  refine j_aload_n dX8_isWalkCounted_8 rfl rfl ?_
  refine j_getf dX8_isWalkCounted_9 fX8_36 rfl rfl ?_
  refine j_getf dX8_isWalkCounted_12 fX8_214 rfl rfl ?_
  refine j_callV (q := (RX6, TX6, 1)) dX8_isWalkCounted_15 kX6_startAnew lX8_224 inX6_startAnew seX6_startAnew rfl rfl (z_frame [33, 34] rfl (by decide) (Nat.le_of_ble_eq_true rfl) (c_X6_startAnew_e hl _)) (Nat.le_of_ble_eq_true rfl) ⟨(Nat.le_of_ble_eq_true rfl), (Nat.le_of_ble_eq_true rfl)⟩ rfl (Nat.le_of_ble_eq_true rfl) rfl rfl (fun _ _ h => h.elim) ?_
  rintro _ _ ⟨_, _, ⟨rfl, rfl⟩, rfl, rfl⟩
  refine j_ws (L' := z_cw _ _ _ _ _ _ _ _ _ _ _ _ _ _ _ _ _ _ _ _ _ _ _ _ _ _ _ _ _ _ _ _ _ _ _ _ _ _ _ _ _ _ _ _ _ _ _ _ _ _ _ _ _ _ _ _ []) (by decide) rfl rfl ?_
  refine j_pop dX8_isWalkCounted_18 rfl ?_
  refine j_new (w' := (z_cw _ _ _ _ _ _ _ _ _ _ _ _ _ _ _ _ _ _ _ _ _ _ _ _ _ _ _ _ _ _ _ _ _ _ _ _ _ _ _ _ _ _ _ _ _ _ _ _ _ _ _ _ _ _ _ _ [.inr (7, [_, _, _, _, _])], z_no)) (n := 51) dX8_isWalkCounted_19 nX8_91 rfl (z_al_l rfl rfl) (Nat.le_of_ble_eq_true rfl) (Nat.le_of_ble_eq_true rfl) ?_
  refine j_dup dX8_isWalkCounted_22 rfl ?_
  refine j_aload_n dX8_isWalkCounted_23 rfl rfl ?_
  refine j_getf dX8_isWalkCounted_24 fX8_36 rfl rfl ?_
  refine j_callI dX8_isWalkCounted_27 kX2_init rfl lX8_93 inX2_init rfl (z_frame [51, 31, 32, 33, 34] rfl (by decide) (Nat.le_of_ble_eq_true rfl) (c_X2_init_e hl _ _ _ _)) (Nat.le_of_ble_eq_true rfl) ⟨(Nat.le_of_ble_eq_true rfl), (Nat.le_of_ble_eq_true rfl)⟩ rfl (Nat.le_of_ble_eq_true rfl) rfl rfl (fun _ _ h => h.elim) ?_
  rintro _ _ ⟨_, _, ⟨rfl, rfl⟩, rfl, rfl⟩
  refine j_ws (L' := z_cw _ _ _ _ _ _ _ _ _ _ _ _ _ _ _ _ _ _ _ _ _ _ _ _ _ _ _ _ _ _ _ _ _ _ _ _ _ _ _ _ _ _ _ _ _ _ _ _ _ _ _ _ _ _ _ _ [.inr (7, [_, _, _, _, _])]) (by decide) rfl rfl ?_
  refine j_astore_n (lo' := [(2, _), (0, _), (1, _)]) dX8_isWalkCounted_30 rfl (by decide) rfl ?_
  refine j_iconst (v := 0) dX8_isWalkCounted_31 (by decide) ?_
  refine j_istore_n (lo' := [(3, _), (2, _), (0, _), (1, _)]) dX8_isWalkCounted_32 (by decide) rfl ?_
  have loop : ∀ (n9 : Nat) (ct' : Nat → Int32) (k' u' : Int32) (j : Nat), (j ≤ M) → (ct' 0 = 1) → (ct' 1 = nI j) → (ct' 2 = nI j) → (M < j + n9) → z_J G l mX8_isWalkCounted (z_SF 17 1 5 (z_cw rf kn (nI M) xa fa ca mb xb fb cb mt false ft ct f0 g0 c0 m0 s0 f1 g1 c1 m1 s1 f2 g2 c2 m2 s2 f3 g3 c3 m3 s3 f4 g4 c4 m4 s4 f5 g5 c5 m5 s5 ek0 em0 es0 el0 b0 ef0 ek1 em1 es1 el1 b1 ef1 []) (fun v L => v = some (.int 1) ∧ ∃ (mt' : Int32) (ft' ct' : Nat → Int32), L = (z_cw rf kn (nI M) xa fa ca mb xb fb cb mt' false ft' ct' f0 g0 c0 m0 s0 f1 g1 c1 m1 s1 f2 g2 c2 m2 s2 f3 g3 c3 m3 s3 f4 g4 c4 m4 s4 f5 g5 c5 m5 s5 ek0 em0 es0 el0 b0 ef0 ek1 em1 es1 el1 b1 ef1 []))) 33 [(0, .ref 0), (1, .ref 2), (2, .ref 51), (3, .int (nI j))] [] ((z_cw rf kn (nI M) xa fa ca mb xb fb cb (nI M) false ft9 ct' f0 g0 c0 m0 s0 f1 g1 c1 m1 s1 f2 g2 c2 m2 s2 f3 g3 c3 m3 s3 f4 g4 c4 m4 s4 f5 g5 c5 m5 s5 ek0 em0 es0 el0 b0 ef0 ek1 em1 es1 el1 b1 ef1 [.inr (7, [.ref 33, .int k', .int u', .ref 31, .int (nI j)])]), z_no) 1 5 := by
    intro n9
    induction n9 with
    | zero => intro ct' k' u' j hj h0 h1 h2 hf9; exact absurd hf9 (by omega)
    | succ n9 ih =>
      intro ct' k' u' j hj h0 h1 h2 hf9
      refine j_iload_n dX8_isWalkCounted_33 rfl ?_
      refine j_sipush (v := 1000) dX8_isWalkCounted_34 (by decide) ?_
      refine j_icmp_ge (tgt := 58) dX8_isWalkCounted_37 (by decide) (fun c_37 => ?_) (fun c_37 => ?_)
      · have hb37 : 1000 ≤ j := (nI_leI (a := 1000) (b := j) (by omega) (by omega)).mp c_37
        exact absurd hb37 (by omega)
      · have hb37 : j < 1000 := Nat.not_le.mp (fun z => c_37 ((nI_leI (a := 1000) (b := j) (by omega) (by omega)).mpr z))
        refine j_aload_n dX8_isWalkCounted_40 rfl rfl ?_
        refine j_callU (q := (RX2, TX2, 5)) dX8_isWalkCounted_41 kX7_ask cuX8_320_X2 rfl rfl (z_frame [51, 31, 32, 33, 34] rfl (by decide) (Nat.le_of_ble_eq_true rfl) (c_X7_ask_X2_e hl _ _ j _ _ _ B M hrt hM (by omega))) (Nat.le_of_ble_eq_true rfl) ⟨(Nat.le_of_ble_eq_true rfl), (Nat.le_of_ble_eq_true rfl)⟩ rfl (Nat.le_of_ble_eq_true rfl) rfl rfl (fun _ _ h => h.elim) ?_
        rintro _ _ ⟨_, _, ⟨rfl, rfl⟩, rfl, rfl⟩
        refine j_ws (L' := z_cw _ _ _ _ _ _ _ _ _ _ _ _ _ _ _ _ _ _ _ _ _ _ _ _ _ _ _ _ _ _ _ _ _ _ _ _ _ _ _ _ _ _ _ _ _ _ _ _ _ _ _ _ _ _ _ _ [.inr (7, [_, _, _, _, _])]) (by decide) rfl rfl ?_
        refine j_if_eq (tgt := 58) dX8_isWalkCounted_44 (by decide) (fun c_44 => ?_) (fun c_44 => ?_)
        · have hb44 := z_bF c_44
          have hjM : j = M := by have := of_decide_eq_false hb44; omega
          refine j_aload_n dX8_isWalkCounted_58 rfl rfl ?_
          refine j_getf dX8_isWalkCounted_59 fX8_36 rfl rfl ?_
          refine j_getf dX8_isWalkCounted_62 fX8_214 rfl rfl ?_
          refine j_astore_n (lo' := [(3, _), (0, _), (1, _), (2, _)]) dX8_isWalkCounted_65 rfl (by decide) rfl ?_
          refine j_aload_n dX8_isWalkCounted_66 rfl rfl ?_
          refine j_iconst (v := 0) dX8_isWalkCounted_67 (by decide) ?_
          refine j_callV (q := (RX6, TX6, 1)) dX8_isWalkCounted_68 kX6_of lX8_218 inX6_of seX6_of rfl rfl (z_frame [33, 34] rfl (by decide) (Nat.le_of_ble_eq_true rfl) (c_X6_of_e hl _ 0 (by decide))) (Nat.le_of_ble_eq_true rfl) ⟨(Nat.le_of_ble_eq_true rfl), (Nat.le_of_ble_eq_true rfl)⟩ rfl (Nat.le_of_ble_eq_true rfl) rfl rfl (fun _ _ h => h.elim) ?_
          rintro _ _ ⟨_, _, ⟨rfl, rfl⟩, rfl, rfl⟩
          refine j_ws (L' := z_cw _ _ _ _ _ _ _ _ _ _ _ _ _ _ _ _ _ _ _ _ _ _ _ _ _ _ _ _ _ _ _ _ _ _ _ _ _ _ _ _ _ _ _ _ _ _ _ _ _ _ _ _ _ _ _ _ [.inr (7, [_, _, _, _, _])]) (by decide) rfl rfl ?_
          refine j_iconst (v := 1) dX8_isWalkCounted_71 (by decide) ?_
          refine j_icmp_ne (tgt := 105) dX8_isWalkCounted_72 (by decide) (fun c_72 => ?_) (fun c_72 => ?_)
          · exact absurd ((z_ui_ne (by decide)).trans h0) c_72
          · refine j_aload_n dX8_isWalkCounted_75 rfl rfl ?_
            refine j_iconst (v := 2) dX8_isWalkCounted_76 (by decide) ?_
            refine j_callV (q := (RX6, TX6, 1)) dX8_isWalkCounted_77 kX6_of lX8_218 inX6_of seX6_of rfl rfl (z_frame [33, 34] rfl (by decide) (Nat.le_of_ble_eq_true rfl) (c_X6_of_e hl _ 2 (by decide))) (Nat.le_of_ble_eq_true rfl) ⟨(Nat.le_of_ble_eq_true rfl), (Nat.le_of_ble_eq_true rfl)⟩ rfl (Nat.le_of_ble_eq_true rfl) rfl rfl (fun _ _ h => h.elim) ?_
            rintro _ _ ⟨_, _, ⟨rfl, rfl⟩, rfl, rfl⟩
            refine j_ws (L' := z_cw _ _ _ _ _ _ _ _ _ _ _ _ _ _ _ _ _ _ _ _ _ _ _ _ _ _ _ _ _ _ _ _ _ _ _ _ _ _ _ _ _ _ _ _ _ _ _ _ _ _ _ _ _ _ _ _ [.inr (7, [_, _, _, _, _])]) (by decide) rfl rfl ?_
            refine j_aload_n dX8_isWalkCounted_80 rfl rfl ?_
            refine j_getf dX8_isWalkCounted_81 fX8_68 rfl rfl ?_
            refine j_icmp_ne (tgt := 105) dX8_isWalkCounted_84 (by decide) (fun c_84 => ?_) (fun c_84 => ?_)
            · exact absurd ((z_ui_ne (by decide)).trans (h2.trans (by rw [hjM]))) c_84
            · refine j_aload_n dX8_isWalkCounted_87 rfl rfl ?_
              refine j_iconst (v := 1) dX8_isWalkCounted_88 (by decide) ?_
              refine j_callV (q := (RX6, TX6, 1)) dX8_isWalkCounted_89 kX6_of lX8_218 inX6_of seX6_of rfl rfl (z_frame [33, 34] rfl (by decide) (Nat.le_of_ble_eq_true rfl) (c_X6_of_e hl _ 1 (by decide))) (Nat.le_of_ble_eq_true rfl) ⟨(Nat.le_of_ble_eq_true rfl), (Nat.le_of_ble_eq_true rfl)⟩ rfl (Nat.le_of_ble_eq_true rfl) rfl rfl (fun _ _ h => h.elim) ?_
              rintro _ _ ⟨_, _, ⟨rfl, rfl⟩, rfl, rfl⟩
              refine j_ws (L' := z_cw _ _ _ _ _ _ _ _ _ _ _ _ _ _ _ _ _ _ _ _ _ _ _ _ _ _ _ _ _ _ _ _ _ _ _ _ _ _ _ _ _ _ _ _ _ _ _ _ _ _ _ _ _ _ _ _ [.inr (7, [_, _, _, _, _])]) (by decide) rfl rfl ?_
              refine j_aload_n dX8_isWalkCounted_92 rfl rfl ?_
              refine j_getf dX8_isWalkCounted_93 fX8_68 rfl rfl ?_
              refine j_iconst (v := 1) dX8_isWalkCounted_96 (by decide) ?_
              refine j_iadd dX8_isWalkCounted_97 ?_
              refine j_top (congrArg Value.int (show nI (M) + nI (1) = nI (M + 1) from nI_add _ _)) ?_
              refine j_icmp_ne (tgt := 105) dX8_isWalkCounted_98 (by decide) (fun c_98 => ?_) (fun c_98 => ?_)
              · exact absurd (z_ui_self.trans (by rw [h1, hjM, nI_1])) c_98
              · refine j_iconst (v := 1) dX8_isWalkCounted_101 (by decide) ?_
                refine j_goto (tgt := 106) dX8_isWalkCounted_102 (by decide) ?_
                refine j_lo (lo' := []) z_q0 ?_
                refine j_dropL (n := 51) rfl (Nat.le_of_ble_eq_true rfl) (Nat.le_of_ble_eq_true rfl) (Nat.le_of_ble_eq_true rfl) z_cwc rfl rfl ?_
                refine j_w (z_cw _ _ _ _ _ _ _ _ _ _ _ _ _ _ _ _ _ _ _ _ _ _ _ _ _ _ _ _ _ _ _ _ _ _ _ _ _ _ _ _ _ _ _ _ _ _ _ _ _ _ _ _ _ _ _ _ [], z_no) rfl ?_
                refine j_iret dX8_isWalkCounted_106 rfl rfl ?_ (Nat.le_of_ble_eq_true rfl) (Nat.le_of_ble_eq_true rfl)
                exact ⟨rfl, (by first | exact z_cwl | rfl), rfl, _, _, _, rfl⟩
        · have hb44 := z_bt c_44
          have hjl : j < M := of_decide_eq_true hb44
          refine j_aload_n dX8_isWalkCounted_47 rfl rfl ?_
          refine j_callU (q := (RX2, TX2, 5)) dX8_isWalkCounted_48 kX7_give cuX8_315_X2 rfl rfl (z_frame [51, 31, 32, 33, 34] rfl (by decide) (Nat.le_of_ble_eq_true rfl) (c_X7_give_X2_e hl _ _ j _ _ _ B M hrt hM (by omega))) (Nat.le_of_ble_eq_true rfl) ⟨(Nat.le_of_ble_eq_true rfl), (Nat.le_of_ble_eq_true rfl)⟩ rfl (Nat.le_of_ble_eq_true rfl) rfl rfl (fun _ _ h => h.elim) ?_
          rintro _ _ ⟨_, _, ⟨rfl, rfl⟩, rfl, rfl⟩
          refine j_ws (L' := z_cw _ _ _ _ _ _ _ _ _ _ _ _ _ _ _ _ _ _ _ _ _ _ _ _ _ _ _ _ _ _ _ _ _ _ _ _ _ _ _ _ _ _ _ _ _ _ _ _ _ _ _ _ _ _ _ _ [.inr (7, [_, _, _, _, _])]) (by decide) rfl rfl ?_
          refine j_pop dX8_isWalkCounted_51 rfl ?_
          refine j_iinc (lo' := [(3, _), (0, _), (1, _), (2, _)]) dX8_isWalkCounted_52 rfl (z_inc _) (by decide) rfl ?_
          refine j_goto (tgt := 33) dX8_isWalkCounted_55 (by decide) ?_
          exact j_lo2 (ih _ _ _ (j + 1) (by omega) (z_ui_ne (by decide) |>.trans ((z_ui_ne (by decide)).trans h0)) ((z_ui_ne (by decide)).trans (z_ui_self.trans (by rw [h1, nI_1]))) (z_ui_self.trans (by show z_ui ct' 1 _ 2 + 1 = _; rw [z_ui_ne (by decide), h2, nI_1])) (by omega)) (z_q1 rfl (z_q1 rfl (z_q1 rfl (z_q1 rfl z_q0))))
  exact j_lo2 (loop (M + 1) _ _ _ 0 (by omega) so_z0 (so_zn (by decide) (by decide)) (so_zn (by decide) (by decide)) (by omega)) (z_q1 rfl (z_q1 rfl (z_q1 rfl (z_q1 rfl z_q0))))
set_option maxRecDepth 100000 in
set_option maxHeartbeats 8000000 in
theorem c_X8_isTakingPlain_0_e (hl : l.stackTraces = false) (rf : Int32) (kn : Int32) (xa : Bool) (fa : Nat → Int32) (ca : Nat → Int32) (mb : Int32) (xb : Bool) (fb : Nat → Int32) (cb : Nat → Int32) (mt : Int32) (ft : Nat → Int32) (ct : Nat → Int32) (f0 : Nat → Int32) (g0 : Nat → Int32) (c0 : Nat → Int32) (m0 : Int32) (s0 : Int32) (f1 : Nat → Int32) (g1 : Nat → Int32) (c1 : Nat → Int32) (m1 : Int32) (s1 : Int32) (f2 : Nat → Int32) (g2 : Nat → Int32) (c2 : Nat → Int32) (m2 : Int32) (s2 : Int32) (f3 : Nat → Int32) (g3 : Nat → Int32) (c3 : Nat → Int32) (m3 : Int32) (s3 : Int32) (f4 : Nat → Int32) (g4 : Nat → Int32) (c4 : Nat → Int32) (m4 : Int32) (s4 : Int32) (f5 : Nat → Int32) (g5 : Nat → Int32) (c5 : Nat → Int32) (m5 : Int32) (s5 : Int32) (ek0 : Int32) (em0 : Int32) (es0 : Int32) (el0 : Int32) (b0 : Int32) (ef0 : Nat → Int32) (ek1 : Int32) (em1 : Int32) (es1 : Int32) (el1 : Int32) (b1 : Int32) (ef1 : Nat → Int32) (B : List Int32) (M : Nat) (hr : z_row 12 (nI M) fa B) (hM : M = B.length) : z_CF G l mX8_isTakingPlain 17 5 25 (z_cw rf kn (nI M) xa fa ca mb xb fb cb mt false ft ct f0 g0 c0 m0 s0 f1 g1 c1 m1 s1 f2 g2 c2 m2 s2 f3 g3 c3 m3 s3 f4 g4 c4 m4 s4 f5 g5 c5 m5 s5 ek0 em0 es0 el0 b0 ef0 ek1 em1 es1 el1 b1 ef1 []) [.ref 0, .ref 2] (fun v L => v = some (.int 1) ∧ ∃ (mt' : Int32) (ft' ct' : Nat → Int32), L = (z_cw rf kn (nI M) xa fa ca mb xb fb cb mt' false ft' ct' f0 g0 c0 m0 s0 f1 g1 c1 m1 s1 f2 g2 c2 m2 s2 f3 g3 c3 m3 s3 f4 g4 c4 m4 s4 f5 g5 c5 m5 s5 ek0 em0 es0 el0 b0 ef0 ek1 em1 es1 el1 b1 ef1 [])) := by
  refine z_body hl (by decide) rfl (Nat.le_of_ble_eq_true rfl) ?_
  show z_J G l mX8_isTakingPlain (z_SF 17 5 25 (z_cw rf kn (nI M) xa fa ca mb xb fb cb mt false ft ct f0 g0 c0 m0 s0 f1 g1 c1 m1 s1 f2 g2 c2 m2 s2 f3 g3 c3 m3 s3 f4 g4 c4 m4 s4 f5 g5 c5 m5 s5 ek0 em0 es0 el0 b0 ef0 ek1 em1 es1 el1 b1 ef1 []) (fun v L => v = some (.int 1) ∧ ∃ (mt' : Int32) (ft' ct' : Nat → Int32), L = (z_cw rf kn (nI M) xa fa ca mb xb fb cb mt' false ft' ct' f0 g0 c0 m0 s0 f1 g1 c1 m1 s1 f2 g2 c2 m2 s2 f3 g3 c3 m3 s3 f4 g4 c4 m4 s4 f5 g5 c5 m5 s5 ek0 em0 es0 el0 b0 ef0 ek1 em1 es1 el1 b1 ef1 []))) 0 [(0, _), (1, _)] [] _ 0 0
  have hln := hr.2.1
  refine j_iconst (v := 0) dX8_isTakingPlain_0 (by decide) ?_
  refine j_istore_n (lo' := [(2, _), (0, _), (1, _)]) dX8_isTakingPlain_1 (by decide) rfl ?_
  have loop : ∀ (n9 : Nat) (mt' : Int32) (ft' ct' : Nat → Int32) (j : Nat), (j ≤ 5) → (5 < j + n9) → z_J G l mX8_isTakingPlain (z_SF 17 5 25 (z_cw rf kn (nI M) xa fa ca mb xb fb cb mt false ft ct f0 g0 c0 m0 s0 f1 g1 c1 m1 s1 f2 g2 c2 m2 s2 f3 g3 c3 m3 s3 f4 g4 c4 m4 s4 f5 g5 c5 m5 s5 ek0 em0 es0 el0 b0 ef0 ek1 em1 es1 el1 b1 ef1 []) (fun v L => v = some (.int 1) ∧ ∃ (mt' : Int32) (ft' ct' : Nat → Int32), L = (z_cw rf kn (nI M) xa fa ca mb xb fb cb mt' false ft' ct' f0 g0 c0 m0 s0 f1 g1 c1 m1 s1 f2 g2 c2 m2 s2 f3 g3 c3 m3 s3 f4 g4 c4 m4 s4 f5 g5 c5 m5 s5 ek0 em0 es0 el0 b0 ef0 ek1 em1 es1 el1 b1 ef1 []))) 2 [(0, .ref 0), (1, .ref 2), (2, .int (nI j))] [] ((z_cw rf kn (nI M) xa fa ca mb xb fb cb mt' false ft' ct' f0 g0 c0 m0 s0 f1 g1 c1 m1 s1 f2 g2 c2 m2 s2 f3 g3 c3 m3 s3 f4 g4 c4 m4 s4 f5 g5 c5 m5 s5 ek0 em0 es0 el0 b0 ef0 ek1 em1 es1 el1 b1 ef1 []), z_no) j (5 * j) := by
    intro n9
    induction n9 with
    | zero => intro mt' ft' ct' j hj hf9; exact absurd hf9 (by omega)
    | succ n9 ih =>
      intro mt' ft' ct' j hj hf9
      refine j_iload_n dX8_isTakingPlain_2 rfl ?_
      refine j_iconst (v := 4) dX8_isTakingPlain_3 (by decide) ?_
      refine j_icmp_gt (tgt := 52) dX8_isTakingPlain_4 (by decide) (fun c_4 => ?_) (fun c_4 => ?_)
      · have hb4 : 4 < j := (nI_ltI (a := 4) (b := j) (by omega) (by omega)).mp c_4
        refine j_iconst (v := 1) dX8_isTakingPlain_52 (by decide) ?_
        refine j_iret dX8_isTakingPlain_53 rfl rfl ?_ (by show _ ≤ 5; omega) (by show _ ≤ 25; omega)
        exact ⟨rfl, (by first | exact z_cwl | rfl), rfl, _, _, _, rfl⟩
      · have hb4 : ¬ 4 < j := fun z => c_4 ((nI_ltI (a := 4) (b := j) (by omega) (by omega)).mpr z)
        refine j_aload_n dX8_isTakingPlain_7 rfl rfl ?_
        refine j_getf dX8_isTakingPlain_8 fX8_36 rfl rfl ?_
        refine j_aload_n dX8_isTakingPlain_11 rfl rfl ?_
        refine j_callV (q := (RX1, TX1, 4)) dX8_isTakingPlain_12 kX1_become lX8_123 inX1_become seX1_become rfl rfl (z_frame [31, 32, 33, 34, 2, 3, 4, 5] rfl (by decide) (Nat.le_of_ble_eq_true rfl) (c_X1_become_e hl _ _ _ _ _ _ _ _)) (Nat.le_of_ble_eq_true rfl) ⟨(by show _ ≤ 5; omega), (by show _ ≤ 25; omega)⟩ rfl (Nat.le_of_ble_eq_true rfl) rfl rfl (fun _ _ h => h.elim) ?_
        rintro _ _ ⟨_, _, ⟨rfl, ft9, hft9, rfl⟩, rfl, rfl⟩
        refine j_ws (L' := z_cw _ _ _ _ _ _ _ _ _ _ _ _ _ _ _ _ _ _ _ _ _ _ _ _ _ _ _ _ _ _ _ _ _ _ _ _ _ _ _ _ _ _ _ _ _ _ _ _ _ _ _ _ _ _ _ _ []) (by decide) rfl rfl ?_
        have hrt : z_row 12 (nI M) ft9 B := hr.eqf hft9
        refine j_new (w' := (z_cw _ _ _ _ _ _ _ _ _ _ _ _ _ _ _ _ _ _ _ _ _ _ _ _ _ _ _ _ _ _ _ _ _ _ _ _ _ _ _ _ _ _ _ _ _ _ _ _ _ _ _ _ _ _ _ _ [.inr (7, [_, _, _, _, _])], z_no)) (n := 51) dX8_isTakingPlain_15 nX8_91 rfl (z_al_l rfl rfl) (show j + 1 ≤ 5 by omega) (show 5 * j + 5 ≤ 25 by omega) ?_
        refine j_widen (kc' := j + 1) (ks' := 5 * j + 5) (Nat.le_refl _) (Nat.le_refl _) ?_
        refine j_dup dX8_isTakingPlain_18 rfl ?_
        refine j_aload_n dX8_isTakingPlain_19 rfl rfl ?_
        refine j_getf dX8_isTakingPlain_20 fX8_36 rfl rfl ?_
        refine j_callI dX8_isTakingPlain_23 kX2_init rfl lX8_93 inX2_init rfl (z_frame [51, 31, 32, 33, 34] rfl (by decide) (Nat.le_of_ble_eq_true rfl) (c_X2_init_e hl _ _ _ _)) (Nat.le_of_ble_eq_true rfl) ⟨(by show _ ≤ 5; omega), (by show _ ≤ 25; omega)⟩ rfl (Nat.le_of_ble_eq_true rfl) rfl rfl (fun _ _ h => h.elim) ?_
        rintro _ _ ⟨_, _, ⟨rfl, rfl⟩, rfl, rfl⟩
        refine j_ws (L' := z_cw _ _ _ _ _ _ _ _ _ _ _ _ _ _ _ _ _ _ _ _ _ _ _ _ _ _ _ _ _ _ _ _ _ _ _ _ _ _ _ _ _ _ _ _ _ _ _ _ _ _ _ _ _ _ _ _ [.inr (7, [_, _, _, _, _])]) (by decide) rfl rfl ?_
        refine j_iload_n dX8_isTakingPlain_26 rfl ?_
        refine j_iconst (v := 0) dX8_isTakingPlain_27 (by decide) ?_
        refine j_callS dX8_isTakingPlain_28 kX8_takeEach lX8_108 stX8_takeEach (z_frame [51, 31, 32, 33, 34] rfl (by decide) (Nat.le_of_ble_eq_true rfl) (c_X8_takeEach_e hl false _ _ _ _ B M _ _ hrt hM)) (Nat.le_of_ble_eq_true rfl) ⟨(by show _ ≤ 5; omega), (by show _ ≤ 25; omega)⟩ rfl (Nat.le_of_ble_eq_true rfl) rfl rfl (fun _ _ h => h.elim) ?_
        rintro _ _ ⟨_, _, ⟨rfl, _, _, f9, hr9, rfl⟩, rfl, rfl⟩
        refine j_ws (L' := z_cw _ _ _ _ _ _ _ _ _ _ _ _ _ _ _ _ _ _ _ _ _ _ _ _ _ _ _ _ _ _ _ _ _ _ _ _ _ _ _ _ _ _ _ _ _ _ _ _ _ _ _ _ _ _ _ _ [.inr (7, [_, _, _, _, _])]) (by decide) rfl rfl ?_
        refine j_pop dX8_isTakingPlain_31 rfl ?_
        refine j_dropL (n := 51) rfl (Nat.le_of_ble_eq_true rfl) (Nat.le_of_ble_eq_true rfl) (Nat.le_of_ble_eq_true rfl) z_cwc rfl rfl ?_
        refine j_w (z_cw _ _ _ _ _ _ _ _ _ _ _ _ _ _ _ _ _ _ _ _ _ _ _ _ _ _ _ _ _ _ _ _ _ _ _ _ _ _ _ _ _ _ _ _ _ _ _ _ _ _ _ _ _ _ _ _ [], z_no) rfl ?_
        refine j_aload_n dX8_isTakingPlain_32 rfl rfl ?_
        refine j_getf dX8_isTakingPlain_33 fX8_36 rfl rfl ?_
        refine j_aload_n dX8_isTakingPlain_36 rfl rfl ?_
        refine j_iload_n dX8_isTakingPlain_37 rfl ?_
        refine j_callS dX8_isTakingPlain_38 kX8_isWhatIsLeft lX8_340 stX8_isWhatIsLeft (z_frame [31, 32, 33, 34, 2, 3, 4, 5] rfl (by decide) (Nat.le_of_ble_eq_true rfl) (c_X8_isWhatIsLeft_e hl false _ _ _ _ _ _ _ B M _ hr9 rfl hr hM (so_ri B (so_t5 (by omega))))) (Nat.le_of_ble_eq_true rfl) ⟨(by show _ ≤ 5; omega), (by show _ ≤ 25; omega)⟩ rfl (Nat.le_of_ble_eq_true rfl) rfl rfl (fun _ _ h => h.elim) ?_
        rintro _ _ ⟨_, _, ⟨rfl, rfl⟩, rfl, rfl⟩
        refine j_ws (L' := z_cw _ _ _ _ _ _ _ _ _ _ _ _ _ _ _ _ _ _ _ _ _ _ _ _ _ _ _ _ _ _ _ _ _ _ _ _ _ _ _ _ _ _ _ _ _ _ _ _ _ _ _ _ _ _ _ _ []) (by decide) rfl rfl ?_
        refine j_if_ne (tgt := 46) dX8_isTakingPlain_41 (by decide) (fun c_41 => ?_) (fun c_41 => ?_)
        · refine j_iinc (lo' := [(2, _), (0, _), (1, _)]) dX8_isTakingPlain_46 rfl (z_inc _) (by decide) rfl ?_
          refine j_goto (tgt := 2) dX8_isTakingPlain_49 (by decide) ?_
          refine j_widen (kc' := j + 1) (ks' := 5 * (j + 1)) (by omega) (by omega) ?_
          exact j_lo2 (ih _ _ _ (j + 1) (by omega) (by omega)) (z_q1 rfl (z_q1 rfl (z_q1 rfl z_q0)))
        · exact absurd c_41 (by decide)
  exact j_lo2 (loop 6 _ _ _ 0 (by omega) (by omega)) (z_q1 rfl (z_q1 rfl (z_q1 rfl z_q0)))
set_option maxRecDepth 100000 in
set_option maxHeartbeats 8000000 in
theorem c_X8_isWalkCounted_1_e (hl : l.stackTraces = false) (rf : Int32) (kn : Int32) (ma : Int32) (xa : Bool) (fa : Nat → Int32) (ca : Nat → Int32) (xb : Bool) (fb : Nat → Int32) (cb : Nat → Int32) (mt : Int32) (ft : Nat → Int32) (ct : Nat → Int32) (f0 : Nat → Int32) (g0 : Nat → Int32) (c0 : Nat → Int32) (m0 : Int32) (s0 : Int32) (f1 : Nat → Int32) (g1 : Nat → Int32) (c1 : Nat → Int32) (m1 : Int32) (s1 : Int32) (f2 : Nat → Int32) (g2 : Nat → Int32) (c2 : Nat → Int32) (m2 : Int32) (s2 : Int32) (f3 : Nat → Int32) (g3 : Nat → Int32) (c3 : Nat → Int32) (m3 : Int32) (s3 : Int32) (f4 : Nat → Int32) (g4 : Nat → Int32) (c4 : Nat → Int32) (m4 : Int32) (s4 : Int32) (f5 : Nat → Int32) (g5 : Nat → Int32) (c5 : Nat → Int32) (m5 : Int32) (s5 : Int32) (ek0 : Int32) (em0 : Int32) (es0 : Int32) (el0 : Int32) (b0 : Int32) (ef0 : Nat → Int32) (ek1 : Int32) (em1 : Int32) (es1 : Int32) (el1 : Int32) (b1 : Int32) (ef1 : Nat → Int32) (B : List Int32) (M : Nat) (hr : z_row 12 (nI M) fb B) (hM : M = B.length) : z_CF G l mX8_isWalkCounted 17 1 5 (z_cw rf kn ma xa fa ca (nI M) xb fb cb mt false ft ct f0 g0 c0 m0 s0 f1 g1 c1 m1 s1 f2 g2 c2 m2 s2 f3 g3 c3 m3 s3 f4 g4 c4 m4 s4 f5 g5 c5 m5 s5 ek0 em0 es0 el0 b0 ef0 ek1 em1 es1 el1 b1 ef1 []) [.ref 0, .ref 6] (fun v L => v = some (.int 1) ∧ ∃ (mt' : Int32) (ft' ct' : Nat → Int32), L = (z_cw rf kn ma xa fa ca (nI M) xb fb cb mt' false ft' ct' f0 g0 c0 m0 s0 f1 g1 c1 m1 s1 f2 g2 c2 m2 s2 f3 g3 c3 m3 s3 f4 g4 c4 m4 s4 f5 g5 c5 m5 s5 ek0 em0 es0 el0 b0 ef0 ek1 em1 es1 el1 b1 ef1 [])) := by
  refine z_body hl (by decide) rfl (Nat.le_of_ble_eq_true rfl) ?_
  show z_J G l mX8_isWalkCounted (z_SF 17 1 5 (z_cw rf kn ma xa fa ca (nI M) xb fb cb mt false ft ct f0 g0 c0 m0 s0 f1 g1 c1 m1 s1 f2 g2 c2 m2 s2 f3 g3 c3 m3 s3 f4 g4 c4 m4 s4 f5 g5 c5 m5 s5 ek0 em0 es0 el0 b0 ef0 ek1 em1 es1 el1 b1 ef1 []) (fun v L => v = some (.int 1) ∧ ∃ (mt' : Int32) (ft' ct' : Nat → Int32), L = (z_cw rf kn ma xa fa ca (nI M) xb fb cb mt' false ft' ct' f0 g0 c0 m0 s0 f1 g1 c1 m1 s1 f2 g2 c2 m2 s2 f3 g3 c3 m3 s3 f4 g4 c4 m4 s4 f5 g5 c5 m5 s5 ek0 em0 es0 el0 b0 ef0 ek1 em1 es1 el1 b1 ef1 []))) 0 [(0, _), (1, _)] [] _ 0 0
  have hln := hr.2.1
  refine j_aload_n dX8_isWalkCounted_0 rfl rfl ?_
  refine j_getf dX8_isWalkCounted_1 fX8_36 rfl rfl ?_
  refine j_aload_n dX8_isWalkCounted_4 rfl rfl ?_
  refine j_callV (q := (RX1, TX1, 4)) dX8_isWalkCounted_5 kX1_become lX8_123 inX1_become seX1_become rfl rfl (z_frame [31, 32, 33, 34, 6, 7, 8, 9] rfl (by decide) (Nat.le_of_ble_eq_true rfl) (c_X1_become_e hl _ _ _ _ _ _ _ _)) (Nat.le_of_ble_eq_true rfl) ⟨(Nat.le_of_ble_eq_true rfl), (Nat.le_of_ble_eq_true rfl)⟩ rfl (Nat.le_of_ble_eq_true rfl) rfl rfl (fun _ _ h => h.elim) ?_
  rintro _ _ ⟨_, _, ⟨rfl, ft9, hft9, rfl⟩, rfl, rfl⟩
  refine j_ws (L' := z_cw _ _ _ _ _ _ _ _ _ _ _ _ _ _ _ _ _ _ _ _ _ _ _ _ _ _ _ _ _ _ _ _ _ _ _ _ _ _ _ _ _ _ _ _ _ _ _ _ _ _ _ _ _ _ _ _ []) (by decide) rfl rfl ?_
  have hrt : z_row 12 (nI M) ft9 B := hr.eqf hft9
  refine j_aload_n dX8_isWalkCounted_8 rfl rfl ?_
  refine j_getf dX8_isWalkCounted_9 fX8_36 rfl rfl ?_
  refine j_getf dX8_isWalkCounted_12 fX8_214 rfl rfl ?_
  refine j_callV (q := (RX6, TX6, 1)) dX8_isWalkCounted_15 kX6_startAnew lX8_224 inX6_startAnew seX6_startAnew rfl rfl (z_frame [33, 34] rfl (by decide) (Nat.le_of_ble_eq_true rfl) (c_X6_startAnew_e hl _)) (Nat.le_of_ble_eq_true rfl) ⟨(Nat.le_of_ble_eq_true rfl), (Nat.le_of_ble_eq_true rfl)⟩ rfl (Nat.le_of_ble_eq_true rfl) rfl rfl (fun _ _ h => h.elim) ?_
  rintro _ _ ⟨_, _, ⟨rfl, rfl⟩, rfl, rfl⟩
  refine j_ws (L' := z_cw _ _ _ _ _ _ _ _ _ _ _ _ _ _ _ _ _ _ _ _ _ _ _ _ _ _ _ _ _ _ _ _ _ _ _ _ _ _ _ _ _ _ _ _ _ _ _ _ _ _ _ _ _ _ _ _ []) (by decide) rfl rfl ?_
  refine j_pop dX8_isWalkCounted_18 rfl ?_
  refine j_new (w' := (z_cw _ _ _ _ _ _ _ _ _ _ _ _ _ _ _ _ _ _ _ _ _ _ _ _ _ _ _ _ _ _ _ _ _ _ _ _ _ _ _ _ _ _ _ _ _ _ _ _ _ _ _ _ _ _ _ _ [.inr (7, [_, _, _, _, _])], z_no)) (n := 51) dX8_isWalkCounted_19 nX8_91 rfl (z_al_l rfl rfl) (Nat.le_of_ble_eq_true rfl) (Nat.le_of_ble_eq_true rfl) ?_
  refine j_dup dX8_isWalkCounted_22 rfl ?_
  refine j_aload_n dX8_isWalkCounted_23 rfl rfl ?_
  refine j_getf dX8_isWalkCounted_24 fX8_36 rfl rfl ?_
  refine j_callI dX8_isWalkCounted_27 kX2_init rfl lX8_93 inX2_init rfl (z_frame [51, 31, 32, 33, 34] rfl (by decide) (Nat.le_of_ble_eq_true rfl) (c_X2_init_e hl _ _ _ _)) (Nat.le_of_ble_eq_true rfl) ⟨(Nat.le_of_ble_eq_true rfl), (Nat.le_of_ble_eq_true rfl)⟩ rfl (Nat.le_of_ble_eq_true rfl) rfl rfl (fun _ _ h => h.elim) ?_
  rintro _ _ ⟨_, _, ⟨rfl, rfl⟩, rfl, rfl⟩
  refine j_ws (L' := z_cw _ _ _ _ _ _ _ _ _ _ _ _ _ _ _ _ _ _ _ _ _ _ _ _ _ _ _ _ _ _ _ _ _ _ _ _ _ _ _ _ _ _ _ _ _ _ _ _ _ _ _ _ _ _ _ _ [.inr (7, [_, _, _, _, _])]) (by decide) rfl rfl ?_
  refine j_astore_n (lo' := [(2, _), (0, _), (1, _)]) dX8_isWalkCounted_30 rfl (by decide) rfl ?_
  refine j_iconst (v := 0) dX8_isWalkCounted_31 (by decide) ?_
  refine j_istore_n (lo' := [(3, _), (2, _), (0, _), (1, _)]) dX8_isWalkCounted_32 (by decide) rfl ?_
  have loop : ∀ (n9 : Nat) (ct' : Nat → Int32) (k' u' : Int32) (j : Nat), (j ≤ M) → (ct' 0 = 1) → (ct' 1 = nI j) → (ct' 2 = nI j) → (M < j + n9) → z_J G l mX8_isWalkCounted (z_SF 17 1 5 (z_cw rf kn ma xa fa ca (nI M) xb fb cb mt false ft ct f0 g0 c0 m0 s0 f1 g1 c1 m1 s1 f2 g2 c2 m2 s2 f3 g3 c3 m3 s3 f4 g4 c4 m4 s4 f5 g5 c5 m5 s5 ek0 em0 es0 el0 b0 ef0 ek1 em1 es1 el1 b1 ef1 []) (fun v L => v = some (.int 1) ∧ ∃ (mt' : Int32) (ft' ct' : Nat → Int32), L = (z_cw rf kn ma xa fa ca (nI M) xb fb cb mt' false ft' ct' f0 g0 c0 m0 s0 f1 g1 c1 m1 s1 f2 g2 c2 m2 s2 f3 g3 c3 m3 s3 f4 g4 c4 m4 s4 f5 g5 c5 m5 s5 ek0 em0 es0 el0 b0 ef0 ek1 em1 es1 el1 b1 ef1 []))) 33 [(0, .ref 0), (1, .ref 6), (2, .ref 51), (3, .int (nI j))] [] ((z_cw rf kn ma xa fa ca (nI M) xb fb cb (nI M) false ft9 ct' f0 g0 c0 m0 s0 f1 g1 c1 m1 s1 f2 g2 c2 m2 s2 f3 g3 c3 m3 s3 f4 g4 c4 m4 s4 f5 g5 c5 m5 s5 ek0 em0 es0 el0 b0 ef0 ek1 em1 es1 el1 b1 ef1 [.inr (7, [.ref 33, .int k', .int u', .ref 31, .int (nI j)])]), z_no) 1 5 := by
    intro n9
    induction n9 with
    | zero => intro ct' k' u' j hj h0 h1 h2 hf9; exact absurd hf9 (by omega)
    | succ n9 ih =>
      intro ct' k' u' j hj h0 h1 h2 hf9
      refine j_iload_n dX8_isWalkCounted_33 rfl ?_
      refine j_sipush (v := 1000) dX8_isWalkCounted_34 (by decide) ?_
      refine j_icmp_ge (tgt := 58) dX8_isWalkCounted_37 (by decide) (fun c_37 => ?_) (fun c_37 => ?_)
      · have hb37 : 1000 ≤ j := (nI_leI (a := 1000) (b := j) (by omega) (by omega)).mp c_37
        exact absurd hb37 (by omega)
      · have hb37 : j < 1000 := Nat.not_le.mp (fun z => c_37 ((nI_leI (a := 1000) (b := j) (by omega) (by omega)).mpr z))
        refine j_aload_n dX8_isWalkCounted_40 rfl rfl ?_
        refine j_callU (q := (RX2, TX2, 5)) dX8_isWalkCounted_41 kX7_ask cuX8_320_X2 rfl rfl (z_frame [51, 31, 32, 33, 34] rfl (by decide) (Nat.le_of_ble_eq_true rfl) (c_X7_ask_X2_e hl _ _ j _ _ _ B M hrt hM (by omega))) (Nat.le_of_ble_eq_true rfl) ⟨(Nat.le_of_ble_eq_true rfl), (Nat.le_of_ble_eq_true rfl)⟩ rfl (Nat.le_of_ble_eq_true rfl) rfl rfl (fun _ _ h => h.elim) ?_
        rintro _ _ ⟨_, _, ⟨rfl, rfl⟩, rfl, rfl⟩
        refine j_ws (L' := z_cw _ _ _ _ _ _ _ _ _ _ _ _ _ _ _ _ _ _ _ _ _ _ _ _ _ _ _ _ _ _ _ _ _ _ _ _ _ _ _ _ _ _ _ _ _ _ _ _ _ _ _ _ _ _ _ _ [.inr (7, [_, _, _, _, _])]) (by decide) rfl rfl ?_
        refine j_if_eq (tgt := 58) dX8_isWalkCounted_44 (by decide) (fun c_44 => ?_) (fun c_44 => ?_)
        · have hb44 := z_bF c_44
          have hjM : j = M := by have := of_decide_eq_false hb44; omega
          refine j_aload_n dX8_isWalkCounted_58 rfl rfl ?_
          refine j_getf dX8_isWalkCounted_59 fX8_36 rfl rfl ?_
          refine j_getf dX8_isWalkCounted_62 fX8_214 rfl rfl ?_
          refine j_astore_n (lo' := [(3, _), (0, _), (1, _), (2, _)]) dX8_isWalkCounted_65 rfl (by decide) rfl ?_
          refine j_aload_n dX8_isWalkCounted_66 rfl rfl ?_
          refine j_iconst (v := 0) dX8_isWalkCounted_67 (by decide) ?_
          refine j_callV (q := (RX6, TX6, 1)) dX8_isWalkCounted_68 kX6_of lX8_218 inX6_of seX6_of rfl rfl (z_frame [33, 34] rfl (by decide) (Nat.le_of_ble_eq_true rfl) (c_X6_of_e hl _ 0 (by decide))) (Nat.le_of_ble_eq_true rfl) ⟨(Nat.le_of_ble_eq_true rfl), (Nat.le_of_ble_eq_true rfl)⟩ rfl (Nat.le_of_ble_eq_true rfl) rfl rfl (fun _ _ h => h.elim) ?_
          rintro _ _ ⟨_, _, ⟨rfl, rfl⟩, rfl, rfl⟩
          refine j_ws (L' := z_cw _ _ _ _ _ _ _ _ _ _ _ _ _ _ _ _ _ _ _ _ _ _ _ _ _ _ _ _ _ _ _ _ _ _ _ _ _ _ _ _ _ _ _ _ _ _ _ _ _ _ _ _ _ _ _ _ [.inr (7, [_, _, _, _, _])]) (by decide) rfl rfl ?_
          refine j_iconst (v := 1) dX8_isWalkCounted_71 (by decide) ?_
          refine j_icmp_ne (tgt := 105) dX8_isWalkCounted_72 (by decide) (fun c_72 => ?_) (fun c_72 => ?_)
          · exact absurd ((z_ui_ne (by decide)).trans h0) c_72
          · refine j_aload_n dX8_isWalkCounted_75 rfl rfl ?_
            refine j_iconst (v := 2) dX8_isWalkCounted_76 (by decide) ?_
            refine j_callV (q := (RX6, TX6, 1)) dX8_isWalkCounted_77 kX6_of lX8_218 inX6_of seX6_of rfl rfl (z_frame [33, 34] rfl (by decide) (Nat.le_of_ble_eq_true rfl) (c_X6_of_e hl _ 2 (by decide))) (Nat.le_of_ble_eq_true rfl) ⟨(Nat.le_of_ble_eq_true rfl), (Nat.le_of_ble_eq_true rfl)⟩ rfl (Nat.le_of_ble_eq_true rfl) rfl rfl (fun _ _ h => h.elim) ?_
            rintro _ _ ⟨_, _, ⟨rfl, rfl⟩, rfl, rfl⟩
            refine j_ws (L' := z_cw _ _ _ _ _ _ _ _ _ _ _ _ _ _ _ _ _ _ _ _ _ _ _ _ _ _ _ _ _ _ _ _ _ _ _ _ _ _ _ _ _ _ _ _ _ _ _ _ _ _ _ _ _ _ _ _ [.inr (7, [_, _, _, _, _])]) (by decide) rfl rfl ?_
            refine j_aload_n dX8_isWalkCounted_80 rfl rfl ?_
            refine j_getf dX8_isWalkCounted_81 fX8_68 rfl rfl ?_
            refine j_icmp_ne (tgt := 105) dX8_isWalkCounted_84 (by decide) (fun c_84 => ?_) (fun c_84 => ?_)
            · exact absurd ((z_ui_ne (by decide)).trans (h2.trans (by rw [hjM]))) c_84
            · refine j_aload_n dX8_isWalkCounted_87 rfl rfl ?_
              refine j_iconst (v := 1) dX8_isWalkCounted_88 (by decide) ?_
              refine j_callV (q := (RX6, TX6, 1)) dX8_isWalkCounted_89 kX6_of lX8_218 inX6_of seX6_of rfl rfl (z_frame [33, 34] rfl (by decide) (Nat.le_of_ble_eq_true rfl) (c_X6_of_e hl _ 1 (by decide))) (Nat.le_of_ble_eq_true rfl) ⟨(Nat.le_of_ble_eq_true rfl), (Nat.le_of_ble_eq_true rfl)⟩ rfl (Nat.le_of_ble_eq_true rfl) rfl rfl (fun _ _ h => h.elim) ?_
              rintro _ _ ⟨_, _, ⟨rfl, rfl⟩, rfl, rfl⟩
              refine j_ws (L' := z_cw _ _ _ _ _ _ _ _ _ _ _ _ _ _ _ _ _ _ _ _ _ _ _ _ _ _ _ _ _ _ _ _ _ _ _ _ _ _ _ _ _ _ _ _ _ _ _ _ _ _ _ _ _ _ _ _ [.inr (7, [_, _, _, _, _])]) (by decide) rfl rfl ?_
              refine j_aload_n dX8_isWalkCounted_92 rfl rfl ?_
              refine j_getf dX8_isWalkCounted_93 fX8_68 rfl rfl ?_
              refine j_iconst (v := 1) dX8_isWalkCounted_96 (by decide) ?_
              refine j_iadd dX8_isWalkCounted_97 ?_
              refine j_top (congrArg Value.int (show nI (M) + nI (1) = nI (M + 1) from nI_add _ _)) ?_
              refine j_icmp_ne (tgt := 105) dX8_isWalkCounted_98 (by decide) (fun c_98 => ?_) (fun c_98 => ?_)
              · exact absurd (z_ui_self.trans (by rw [h1, hjM, nI_1])) c_98
              · refine j_iconst (v := 1) dX8_isWalkCounted_101 (by decide) ?_
                refine j_goto (tgt := 106) dX8_isWalkCounted_102 (by decide) ?_
                refine j_lo (lo' := []) z_q0 ?_
                refine j_dropL (n := 51) rfl (Nat.le_of_ble_eq_true rfl) (Nat.le_of_ble_eq_true rfl) (Nat.le_of_ble_eq_true rfl) z_cwc rfl rfl ?_
                refine j_w (z_cw _ _ _ _ _ _ _ _ _ _ _ _ _ _ _ _ _ _ _ _ _ _ _ _ _ _ _ _ _ _ _ _ _ _ _ _ _ _ _ _ _ _ _ _ _ _ _ _ _ _ _ _ _ _ _ _ [], z_no) rfl ?_
                refine j_iret dX8_isWalkCounted_106 rfl rfl ?_ (Nat.le_of_ble_eq_true rfl) (Nat.le_of_ble_eq_true rfl)
                exact ⟨rfl, (by first | exact z_cwl | rfl), rfl, _, _, _, rfl⟩
        · have hb44 := z_bt c_44
          have hjl : j < M := of_decide_eq_true hb44
          refine j_aload_n dX8_isWalkCounted_47 rfl rfl ?_
          refine j_callU (q := (RX2, TX2, 5)) dX8_isWalkCounted_48 kX7_give cuX8_315_X2 rfl rfl (z_frame [51, 31, 32, 33, 34] rfl (by decide) (Nat.le_of_ble_eq_true rfl) (c_X7_give_X2_e hl _ _ j _ _ _ B M hrt hM (by omega))) (Nat.le_of_ble_eq_true rfl) ⟨(Nat.le_of_ble_eq_true rfl), (Nat.le_of_ble_eq_true rfl)⟩ rfl (Nat.le_of_ble_eq_true rfl) rfl rfl (fun _ _ h => h.elim) ?_
          rintro _ _ ⟨_, _, ⟨rfl, rfl⟩, rfl, rfl⟩
          refine j_ws (L' := z_cw _ _ _ _ _ _ _ _ _ _ _ _ _ _ _ _ _ _ _ _ _ _ _ _ _ _ _ _ _ _ _ _ _ _ _ _ _ _ _ _ _ _ _ _ _ _ _ _ _ _ _ _ _ _ _ _ [.inr (7, [_, _, _, _, _])]) (by decide) rfl rfl ?_
          refine j_pop dX8_isWalkCounted_51 rfl ?_
          refine j_iinc (lo' := [(3, _), (0, _), (1, _), (2, _)]) dX8_isWalkCounted_52 rfl (z_inc _) (by decide) rfl ?_
          refine j_goto (tgt := 33) dX8_isWalkCounted_55 (by decide) ?_
          exact j_lo2 (ih _ _ _ (j + 1) (by omega) (z_ui_ne (by decide) |>.trans ((z_ui_ne (by decide)).trans h0)) ((z_ui_ne (by decide)).trans (z_ui_self.trans (by rw [h1, nI_1]))) (z_ui_self.trans (by show z_ui ct' 1 _ 2 + 1 = _; rw [z_ui_ne (by decide), h2, nI_1])) (by omega)) (z_q1 rfl (z_q1 rfl (z_q1 rfl (z_q1 rfl z_q0))))
  exact j_lo2 (loop (M + 1) _ _ _ 0 (by omega) so_z0 (so_zn (by decide) (by decide)) (so_zn (by decide) (by decide)) (by omega)) (z_q1 rfl (z_q1 rfl (z_q1 rfl (z_q1 rfl z_q0))))
set_option maxRecDepth 100000 in
set_option maxHeartbeats 8000000 in
theorem c_X8_isTakingPlain_1_e (hl : l.stackTraces = false) (rf : Int32) (kn : Int32) (ma : Int32) (xa : Bool) (fa : Nat → Int32) (ca : Nat → Int32) (xb : Bool) (fb : Nat → Int32) (cb : Nat → Int32) (mt : Int32) (ft : Nat → Int32) (ct : Nat → Int32) (f0 : Nat → Int32) (g0 : Nat → Int32) (c0 : Nat → Int32) (m0 : Int32) (s0 : Int32) (f1 : Nat → Int32) (g1 : Nat → Int32) (c1 : Nat → Int32) (m1 : Int32) (s1 : Int32) (f2 : Nat → Int32) (g2 : Nat → Int32) (c2 : Nat → Int32) (m2 : Int32) (s2 : Int32) (f3 : Nat → Int32) (g3 : Nat → Int32) (c3 : Nat → Int32) (m3 : Int32) (s3 : Int32) (f4 : Nat → Int32) (g4 : Nat → Int32) (c4 : Nat → Int32) (m4 : Int32) (s4 : Int32) (f5 : Nat → Int32) (g5 : Nat → Int32) (c5 : Nat → Int32) (m5 : Int32) (s5 : Int32) (ek0 : Int32) (em0 : Int32) (es0 : Int32) (el0 : Int32) (b0 : Int32) (ef0 : Nat → Int32) (ek1 : Int32) (em1 : Int32) (es1 : Int32) (el1 : Int32) (b1 : Int32) (ef1 : Nat → Int32) (B : List Int32) (M : Nat) (hr : z_row 12 (nI M) fb B) (hM : M = B.length) : z_CF G l mX8_isTakingPlain 17 5 25 (z_cw rf kn ma xa fa ca (nI M) xb fb cb mt false ft ct f0 g0 c0 m0 s0 f1 g1 c1 m1 s1 f2 g2 c2 m2 s2 f3 g3 c3 m3 s3 f4 g4 c4 m4 s4 f5 g5 c5 m5 s5 ek0 em0 es0 el0 b0 ef0 ek1 em1 es1 el1 b1 ef1 []) [.ref 0, .ref 6] (fun v L => v = some (.int 1) ∧ ∃ (mt' : Int32) (ft' ct' : Nat → Int32), L = (z_cw rf kn ma xa fa ca (nI M) xb fb cb mt' false ft' ct' f0 g0 c0 m0 s0 f1 g1 c1 m1 s1 f2 g2 c2 m2 s2 f3 g3 c3 m3 s3 f4 g4 c4 m4 s4 f5 g5 c5 m5 s5 ek0 em0 es0 el0 b0 ef0 ek1 em1 es1 el1 b1 ef1 [])) := by
  refine z_body hl (by decide) rfl (Nat.le_of_ble_eq_true rfl) ?_
  show z_J G l mX8_isTakingPlain (z_SF 17 5 25 (z_cw rf kn ma xa fa ca (nI M) xb fb cb mt false ft ct f0 g0 c0 m0 s0 f1 g1 c1 m1 s1 f2 g2 c2 m2 s2 f3 g3 c3 m3 s3 f4 g4 c4 m4 s4 f5 g5 c5 m5 s5 ek0 em0 es0 el0 b0 ef0 ek1 em1 es1 el1 b1 ef1 []) (fun v L => v = some (.int 1) ∧ ∃ (mt' : Int32) (ft' ct' : Nat → Int32), L = (z_cw rf kn ma xa fa ca (nI M) xb fb cb mt' false ft' ct' f0 g0 c0 m0 s0 f1 g1 c1 m1 s1 f2 g2 c2 m2 s2 f3 g3 c3 m3 s3 f4 g4 c4 m4 s4 f5 g5 c5 m5 s5 ek0 em0 es0 el0 b0 ef0 ek1 em1 es1 el1 b1 ef1 []))) 0 [(0, _), (1, _)] [] _ 0 0
  have hln := hr.2.1
  refine j_iconst (v := 0) dX8_isTakingPlain_0 (by decide) ?_
  refine j_istore_n (lo' := [(2, _), (0, _), (1, _)]) dX8_isTakingPlain_1 (by decide) rfl ?_
  have loop : ∀ (n9 : Nat) (mt' : Int32) (ft' ct' : Nat → Int32) (j : Nat), (j ≤ 5) → (5 < j + n9) → z_J G l mX8_isTakingPlain (z_SF 17 5 25 (z_cw rf kn ma xa fa ca (nI M) xb fb cb mt false ft ct f0 g0 c0 m0 s0 f1 g1 c1 m1 s1 f2 g2 c2 m2 s2 f3 g3 c3 m3 s3 f4 g4 c4 m4 s4 f5 g5 c5 m5 s5 ek0 em0 es0 el0 b0 ef0 ek1 em1 es1 el1 b1 ef1 []) (fun v L => v = some (.int 1) ∧ ∃ (mt' : Int32) (ft' ct' : Nat → Int32), L = (z_cw rf kn ma xa fa ca (nI M) xb fb cb mt' false ft' ct' f0 g0 c0 m0 s0 f1 g1 c1 m1 s1 f2 g2 c2 m2 s2 f3 g3 c3 m3 s3 f4 g4 c4 m4 s4 f5 g5 c5 m5 s5 ek0 em0 es0 el0 b0 ef0 ek1 em1 es1 el1 b1 ef1 []))) 2 [(0, .ref 0), (1, .ref 6), (2, .int (nI j))] [] ((z_cw rf kn ma xa fa ca (nI M) xb fb cb mt' false ft' ct' f0 g0 c0 m0 s0 f1 g1 c1 m1 s1 f2 g2 c2 m2 s2 f3 g3 c3 m3 s3 f4 g4 c4 m4 s4 f5 g5 c5 m5 s5 ek0 em0 es0 el0 b0 ef0 ek1 em1 es1 el1 b1 ef1 []), z_no) j (5 * j) := by
    intro n9
    induction n9 with
    | zero => intro mt' ft' ct' j hj hf9; exact absurd hf9 (by omega)
    | succ n9 ih =>
      intro mt' ft' ct' j hj hf9
      refine j_iload_n dX8_isTakingPlain_2 rfl ?_
      refine j_iconst (v := 4) dX8_isTakingPlain_3 (by decide) ?_
      refine j_icmp_gt (tgt := 52) dX8_isTakingPlain_4 (by decide) (fun c_4 => ?_) (fun c_4 => ?_)
      · have hb4 : 4 < j := (nI_ltI (a := 4) (b := j) (by omega) (by omega)).mp c_4
        refine j_iconst (v := 1) dX8_isTakingPlain_52 (by decide) ?_
        refine j_iret dX8_isTakingPlain_53 rfl rfl ?_ (by show _ ≤ 5; omega) (by show _ ≤ 25; omega)
        exact ⟨rfl, (by first | exact z_cwl | rfl), rfl, _, _, _, rfl⟩
      · have hb4 : ¬ 4 < j := fun z => c_4 ((nI_ltI (a := 4) (b := j) (by omega) (by omega)).mpr z)
        refine j_aload_n dX8_isTakingPlain_7 rfl rfl ?_
        refine j_getf dX8_isTakingPlain_8 fX8_36 rfl rfl ?_
        refine j_aload_n dX8_isTakingPlain_11 rfl rfl ?_
        refine j_callV (q := (RX1, TX1, 4)) dX8_isTakingPlain_12 kX1_become lX8_123 inX1_become seX1_become rfl rfl (z_frame [31, 32, 33, 34, 6, 7, 8, 9] rfl (by decide) (Nat.le_of_ble_eq_true rfl) (c_X1_become_e hl _ _ _ _ _ _ _ _)) (Nat.le_of_ble_eq_true rfl) ⟨(by show _ ≤ 5; omega), (by show _ ≤ 25; omega)⟩ rfl (Nat.le_of_ble_eq_true rfl) rfl rfl (fun _ _ h => h.elim) ?_
        rintro _ _ ⟨_, _, ⟨rfl, ft9, hft9, rfl⟩, rfl, rfl⟩
        refine j_ws (L' := z_cw _ _ _ _ _ _ _ _ _ _ _ _ _ _ _ _ _ _ _ _ _ _ _ _ _ _ _ _ _ _ _ _ _ _ _ _ _ _ _ _ _ _ _ _ _ _ _ _ _ _ _ _ _ _ _ _ []) (by decide) rfl rfl ?_
        have hrt : z_row 12 (nI M) ft9 B := hr.eqf hft9
        refine j_new (w' := (z_cw _ _ _ _ _ _ _ _ _ _ _ _ _ _ _ _ _ _ _ _ _ _ _ _ _ _ _ _ _ _ _ _ _ _ _ _ _ _ _ _ _ _ _ _ _ _ _ _ _ _ _ _ _ _ _ _ [.inr (7, [_, _, _, _, _])], z_no)) (n := 51) dX8_isTakingPlain_15 nX8_91 rfl (z_al_l rfl rfl) (show j + 1 ≤ 5 by omega) (show 5 * j + 5 ≤ 25 by omega) ?_
        refine j_widen (kc' := j + 1) (ks' := 5 * j + 5) (Nat.le_refl _) (Nat.le_refl _) ?_
        refine j_dup dX8_isTakingPlain_18 rfl ?_
        refine j_aload_n dX8_isTakingPlain_19 rfl rfl ?_
        refine j_getf dX8_isTakingPlain_20 fX8_36 rfl rfl ?_
        refine j_callI dX8_isTakingPlain_23 kX2_init rfl lX8_93 inX2_init rfl (z_frame [51, 31, 32, 33, 34] rfl (by decide) (Nat.le_of_ble_eq_true rfl) (c_X2_init_e hl _ _ _ _)) (Nat.le_of_ble_eq_true rfl) ⟨(by show _ ≤ 5; omega), (by show _ ≤ 25; omega)⟩ rfl (Nat.le_of_ble_eq_true rfl) rfl rfl (fun _ _ h => h.elim) ?_
        rintro _ _ ⟨_, _, ⟨rfl, rfl⟩, rfl, rfl⟩
        refine j_ws (L' := z_cw _ _ _ _ _ _ _ _ _ _ _ _ _ _ _ _ _ _ _ _ _ _ _ _ _ _ _ _ _ _ _ _ _ _ _ _ _ _ _ _ _ _ _ _ _ _ _ _ _ _ _ _ _ _ _ _ [.inr (7, [_, _, _, _, _])]) (by decide) rfl rfl ?_
        refine j_iload_n dX8_isTakingPlain_26 rfl ?_
        refine j_iconst (v := 0) dX8_isTakingPlain_27 (by decide) ?_
        refine j_callS dX8_isTakingPlain_28 kX8_takeEach lX8_108 stX8_takeEach (z_frame [51, 31, 32, 33, 34] rfl (by decide) (Nat.le_of_ble_eq_true rfl) (c_X8_takeEach_e hl false _ _ _ _ B M _ _ hrt hM)) (Nat.le_of_ble_eq_true rfl) ⟨(by show _ ≤ 5; omega), (by show _ ≤ 25; omega)⟩ rfl (Nat.le_of_ble_eq_true rfl) rfl rfl (fun _ _ h => h.elim) ?_
        rintro _ _ ⟨_, _, ⟨rfl, _, _, f9, hr9, rfl⟩, rfl, rfl⟩
        refine j_ws (L' := z_cw _ _ _ _ _ _ _ _ _ _ _ _ _ _ _ _ _ _ _ _ _ _ _ _ _ _ _ _ _ _ _ _ _ _ _ _ _ _ _ _ _ _ _ _ _ _ _ _ _ _ _ _ _ _ _ _ [.inr (7, [_, _, _, _, _])]) (by decide) rfl rfl ?_
        refine j_pop dX8_isTakingPlain_31 rfl ?_
        refine j_dropL (n := 51) rfl (Nat.le_of_ble_eq_true rfl) (Nat.le_of_ble_eq_true rfl) (Nat.le_of_ble_eq_true rfl) z_cwc rfl rfl ?_
        refine j_w (z_cw _ _ _ _ _ _ _ _ _ _ _ _ _ _ _ _ _ _ _ _ _ _ _ _ _ _ _ _ _ _ _ _ _ _ _ _ _ _ _ _ _ _ _ _ _ _ _ _ _ _ _ _ _ _ _ _ [], z_no) rfl ?_
        refine j_aload_n dX8_isTakingPlain_32 rfl rfl ?_
        refine j_getf dX8_isTakingPlain_33 fX8_36 rfl rfl ?_
        refine j_aload_n dX8_isTakingPlain_36 rfl rfl ?_
        refine j_iload_n dX8_isTakingPlain_37 rfl ?_
        refine j_callS dX8_isTakingPlain_38 kX8_isWhatIsLeft lX8_340 stX8_isWhatIsLeft (z_frame [31, 32, 33, 34, 6, 7, 8, 9] rfl (by decide) (Nat.le_of_ble_eq_true rfl) (c_X8_isWhatIsLeft_e hl false _ _ _ _ _ _ _ B M _ hr9 rfl hr hM (so_ri B (so_t5 (by omega))))) (Nat.le_of_ble_eq_true rfl) ⟨(by show _ ≤ 5; omega), (by show _ ≤ 25; omega)⟩ rfl (Nat.le_of_ble_eq_true rfl) rfl rfl (fun _ _ h => h.elim) ?_
        rintro _ _ ⟨_, _, ⟨rfl, rfl⟩, rfl, rfl⟩
        refine j_ws (L' := z_cw _ _ _ _ _ _ _ _ _ _ _ _ _ _ _ _ _ _ _ _ _ _ _ _ _ _ _ _ _ _ _ _ _ _ _ _ _ _ _ _ _ _ _ _ _ _ _ _ _ _ _ _ _ _ _ _ []) (by decide) rfl rfl ?_
        refine j_if_ne (tgt := 46) dX8_isTakingPlain_41 (by decide) (fun c_41 => ?_) (fun c_41 => ?_)
        · refine j_iinc (lo' := [(2, _), (0, _), (1, _)]) dX8_isTakingPlain_46 rfl (z_inc _) (by decide) rfl ?_
          refine j_goto (tgt := 2) dX8_isTakingPlain_49 (by decide) ?_
          refine j_widen (kc' := j + 1) (ks' := 5 * (j + 1)) (by omega) (by omega) ?_
          exact j_lo2 (ih _ _ _ (j + 1) (by omega) (by omega)) (z_q1 rfl (z_q1 rfl (z_q1 rfl z_q0)))
        · exact absurd c_41 (by decide)
  exact j_lo2 (loop 6 _ _ _ 0 (by omega) (by omega)) (z_q1 rfl (z_q1 rfl (z_q1 rfl z_q0)))
set_option maxRecDepth 100000 in
set_option maxHeartbeats 8000000 in
theorem c_X8_areCopiesLike_0_e (hl : l.stackTraces = false) (rf : Int32) (kn : Int32) (ma : Int32) (xa : Bool) (fa : Nat → Int32) (ca : Nat → Int32) (mb : Int32) (xb : Bool) (fb : Nat → Int32) (cb : Nat → Int32) (mt : Int32) (ft : Nat → Int32) (ct : Nat → Int32) (f0 : Nat → Int32) (g0 : Nat → Int32) (c0 : Nat → Int32) (f1 : Nat → Int32) (g1 : Nat → Int32) (c1 : Nat → Int32) (m1 : Int32) (f2 : Nat → Int32) (g2 : Nat → Int32) (c2 : Nat → Int32) (m2 : Int32) (f3 : Nat → Int32) (g3 : Nat → Int32) (c3 : Nat → Int32) (m3 : Int32) (f4 : Nat → Int32) (g4 : Nat → Int32) (c4 : Nat → Int32) (m4 : Int32) (f5 : Nat → Int32) (g5 : Nat → Int32) (c5 : Nat → Int32) (m5 : Int32) (ek0 : Int32) (em0 : Int32) (es0 : Int32) (el0 : Int32) (b0 : Int32) (ef0 : Nat → Int32) (ek1 : Int32) (em1 : Int32) (es1 : Int32) (el1 : Int32) (b1 : Int32) (ef1 : Nat → Int32) (U : List (Nat × Int32)) (hU : z_tba f0 g0 U) : z_CF G l mX8_areCopiesLike 15 0 0 (z_cw rf kn ma xa fa ca mb xb fb cb mt false ft ct f0 g0 c0 (nI U.length) 0 f1 g1 c1 m1 0 f2 g2 c2 m2 1 f3 g3 c3 m3 0 f4 g4 c4 m4 0 f5 g5 c5 m5 1 ek0 em0 es0 el0 b0 ef0 ek1 em1 es1 el1 b1 ef1 []) [.ref 0, .ref 10] (fun v L => v = some (.int 1) ∧ ∃ (f3' g3' c3' : Nat → Int32) (m3' : Int32) (f4' g4' c4' : Nat → Int32) (m4' : Int32) (f5' g5' c5' : Nat → Int32) (m5' : Int32), z_m20 m3' ∧ z_m20 m4' ∧ z_m20 m5' ∧ L = (z_cw rf kn ma xa fa ca mb xb fb cb mt false ft ct f0 g0 c0 (nI U.length) 0 f1 g1 c1 m1 0 f2 g2 c2 m2 1 f3' g3' c3' m3' 0 f4' g4' c4' m4' 0 f5' g5' c5' m5' 1 ek0 em0 es0 el0 b0 ef0 ek1 em1 es1 el1 b1 ef1 [])) := by
  refine z_body hl (by decide) rfl (Nat.le_of_ble_eq_true rfl) ?_
  show z_J G l mX8_areCopiesLike (z_SF 15 0 0 (z_cw rf kn ma xa fa ca mb xb fb cb mt false ft ct f0 g0 c0 (nI U.length) 0 f1 g1 c1 m1 0 f2 g2 c2 m2 1 f3 g3 c3 m3 0 f4 g4 c4 m4 0 f5 g5 c5 m5 1 ek0 em0 es0 el0 b0 ef0 ek1 em1 es1 el1 b1 ef1 []) (fun v L => v = some (.int 1) ∧ ∃ (f3' g3' c3' : Nat → Int32) (m3' : Int32) (f4' g4' c4' : Nat → Int32) (m4' : Int32) (f5' g5' c5' : Nat → Int32) (m5' : Int32), z_m20 m3' ∧ z_m20 m4' ∧ z_m20 m5' ∧ L = (z_cw rf kn ma xa fa ca mb xb fb cb mt false ft ct f0 g0 c0 (nI U.length) 0 f1 g1 c1 m1 0 f2 g2 c2 m2 1 f3' g3' c3' m3' 0 f4' g4' c4' m4' 0 f5' g5' c5' m5' 1 ek0 em0 es0 el0 b0 ef0 ek1 em1 es1 el1 b1 ef1 []))) 0 [(0, _), (1, _)] [] _ 0 0
  refine j_aload_n dX8_areCopiesLike_0 rfl rfl ?_
  refine j_getf dX8_areCopiesLike_1 fX8_43 rfl rfl ?_
  refine j_astore_n (lo' := [(2, _), (0, _), (1, _)]) dX8_areCopiesLike_4 rfl (by decide) rfl ?_
  refine j_aload_n dX8_areCopiesLike_5 rfl rfl ?_
  refine j_alen dX8_areCopiesLike_6 rfl rfl rfl ?_
  refine j_istore_n (lo' := [(3, _), (2, _), (0, _), (1, _)]) dX8_areCopiesLike_7 (by decide) rfl ?_
  refine j_iconst (v := 0) dX8_areCopiesLike_8 (by decide) ?_
  refine j_istore (lo' := [(4, _), (3, _), (2, _), (0, _), (1, _)]) dX8_areCopiesLike_9 (by decide) rfl ?_
  refine j_iload dX8_areCopiesLike_11 rfl ?_
  refine j_iload_n dX8_areCopiesLike_13 rfl ?_
  refine j_icmp_ge (tgt := 46) dX8_areCopiesLike_14 (by decide) (fun c_14 => ?_) (fun c_14 => ?_)
  · exact absurd c_14 (by decide)
  · refine j_aload_n dX8_areCopiesLike_17 rfl rfl ?_
    refine j_iload dX8_areCopiesLike_18 rfl ?_
    refine j_aald (v := .ref 35) dX8_areCopiesLike_20 rfl rfl rfl (vp_in_iff.mpr (by decide)) rfl ?_
    refine j_astore (lo' := [(5, _), (4, _), (3, _), (2, _), (0, _), (1, _)]) dX8_areCopiesLike_21 rfl (by decide) rfl ?_
    refine j_aload dX8_areCopiesLike_23 rfl rfl ?_
    refine j_aload_n dX8_areCopiesLike_25 rfl rfl ?_
    refine j_callV (q := (RX4, TX4, 5)) dX8_areCopiesLike_26 kX4_become lX8_344 inX4_become seX4_become rfl rfl (z_frame [35, 36, 37, 38, 39, 10, 11, 12, 13, 14] rfl (by decide) (Nat.le_of_ble_eq_true rfl) (c_X4_become_e hl false _ _ _ _ false _ _ _ U hU)) (Nat.le_of_ble_eq_true rfl) ⟨(Nat.le_of_ble_eq_true rfl), (Nat.le_of_ble_eq_true rfl)⟩ rfl (Nat.le_of_ble_eq_true rfl) rfl rfl (fun _ _ h => h.elim) ?_
    rintro _ _ ⟨_, _, ⟨rfl, f35, g35, ht35, rfl⟩, rfl, rfl⟩
    refine j_ws (L' := z_cw _ _ _ _ _ _ _ _ _ _ _ _ _ _ _ _ _ _ _ _ _ _ _ _ _ _ _ _ _ _ _ _ _ _ _ _ _ _ _ _ _ _ _ _ _ _ _ _ _ _ _ _ _ _ _ _ []) (by decide) rfl rfl ?_
    refine j_aload dX8_areCopiesLike_29 rfl rfl ?_
    refine j_aload_n dX8_areCopiesLike_31 rfl rfl ?_
    refine j_callV (q := (RX4, TX4, 5)) dX8_areCopiesLike_32 kX4_hasPairsOf lX8_230 inX4_hasPairsOf seX4_hasPairsOf rfl rfl (z_frame [35, 36, 37, 38, 39, 10, 11, 12, 13, 14] rfl (by decide) (Nat.le_of_ble_eq_true rfl) (c_X4_hasPairsOf_e hl false _ _ _ _ false _ _ _ U ht35 hU)) (Nat.le_of_ble_eq_true rfl) ⟨(Nat.le_of_ble_eq_true rfl), (Nat.le_of_ble_eq_true rfl)⟩ rfl (Nat.le_of_ble_eq_true rfl) rfl rfl (fun _ _ h => h.elim) ?_
    rintro _ _ ⟨_, _, ⟨rfl, rfl⟩, rfl, rfl⟩
    refine j_ws (L' := z_cw _ _ _ _ _ _ _ _ _ _ _ _ _ _ _ _ _ _ _ _ _ _ _ _ _ _ _ _ _ _ _ _ _ _ _ _ _ _ _ _ _ _ _ _ _ _ _ _ _ _ _ _ _ _ _ _ []) (by decide) rfl rfl ?_
    refine j_if_ne (tgt := 40) dX8_areCopiesLike_35 (by decide) (fun c_35 => ?_) (fun c_35 => ?_)
    · have hb35 := z_bt c_35
      refine j_iinc (lo' := [(4, _), (5, _), (3, _), (2, _), (0, _), (1, _)]) dX8_areCopiesLike_40 rfl rfl (by decide) rfl ?_
      refine j_goto (tgt := 11) dX8_areCopiesLike_43 (by decide) ?_
      refine j_iload dX8_areCopiesLike_11 rfl ?_
      refine j_iload_n dX8_areCopiesLike_13 rfl ?_
      refine j_icmp_ge (tgt := 46) dX8_areCopiesLike_14 (by decide) (fun c_14 => ?_) (fun c_14 => ?_)
      · exact absurd c_14 (by decide)
      · refine j_aload_n dX8_areCopiesLike_17 rfl rfl ?_
        refine j_iload dX8_areCopiesLike_18 rfl ?_
        refine j_aald (v := .ref 41) dX8_areCopiesLike_20 rfl rfl rfl (vp_in_iff.mpr (by decide)) rfl ?_
        refine j_astore (lo' := [(5, _), (4, _), (3, _), (2, _), (0, _), (1, _)]) dX8_areCopiesLike_21 rfl (by decide) rfl ?_
        refine j_aload dX8_areCopiesLike_23 rfl rfl ?_
        refine j_aload_n dX8_areCopiesLike_25 rfl rfl ?_
        refine j_callV (q := (RX4, TX4, 5)) dX8_areCopiesLike_26 kX4_become lX8_344 inX4_become seX4_become rfl rfl (z_frame [41, 42, 43, 44, 45, 10, 11, 12, 13, 14] rfl (by decide) (Nat.le_of_ble_eq_true rfl) (c_X4_become_e hl false _ _ _ _ false _ _ _ U hU)) (Nat.le_of_ble_eq_true rfl) ⟨(Nat.le_of_ble_eq_true rfl), (Nat.le_of_ble_eq_true rfl)⟩ rfl (Nat.le_of_ble_eq_true rfl) rfl rfl (fun _ _ h => h.elim) ?_
        rintro _ _ ⟨_, _, ⟨rfl, f41, g41, ht41, rfl⟩, rfl, rfl⟩
        refine j_ws (L' := z_cw _ _ _ _ _ _ _ _ _ _ _ _ _ _ _ _ _ _ _ _ _ _ _ _ _ _ _ _ _ _ _ _ _ _ _ _ _ _ _ _ _ _ _ _ _ _ _ _ _ _ _ _ _ _ _ _ []) (by decide) rfl rfl ?_
        refine j_aload dX8_areCopiesLike_29 rfl rfl ?_
        refine j_aload_n dX8_areCopiesLike_31 rfl rfl ?_
        refine j_callV (q := (RX4, TX4, 5)) dX8_areCopiesLike_32 kX4_hasPairsOf lX8_230 inX4_hasPairsOf seX4_hasPairsOf rfl rfl (z_frame [41, 42, 43, 44, 45, 10, 11, 12, 13, 14] rfl (by decide) (Nat.le_of_ble_eq_true rfl) (c_X4_hasPairsOf_e hl false _ _ _ _ false _ _ _ U ht41 hU)) (Nat.le_of_ble_eq_true rfl) ⟨(Nat.le_of_ble_eq_true rfl), (Nat.le_of_ble_eq_true rfl)⟩ rfl (Nat.le_of_ble_eq_true rfl) rfl rfl (fun _ _ h => h.elim) ?_
        rintro _ _ ⟨_, _, ⟨rfl, rfl⟩, rfl, rfl⟩
        refine j_ws (L' := z_cw _ _ _ _ _ _ _ _ _ _ _ _ _ _ _ _ _ _ _ _ _ _ _ _ _ _ _ _ _ _ _ _ _ _ _ _ _ _ _ _ _ _ _ _ _ _ _ _ _ _ _ _ _ _ _ _ []) (by decide) rfl rfl ?_
        refine j_if_ne (tgt := 40) dX8_areCopiesLike_35 (by decide) (fun c_35 => ?_) (fun c_35 => ?_)
        · have hb35 := z_bt c_35
          refine j_iinc (lo' := [(4, _), (5, _), (3, _), (2, _), (0, _), (1, _)]) dX8_areCopiesLike_40 rfl rfl (by decide) rfl ?_
          refine j_goto (tgt := 11) dX8_areCopiesLike_43 (by decide) ?_
          refine j_iload dX8_areCopiesLike_11 rfl ?_
          refine j_iload_n dX8_areCopiesLike_13 rfl ?_
          refine j_icmp_ge (tgt := 46) dX8_areCopiesLike_14 (by decide) (fun c_14 => ?_) (fun c_14 => ?_)
          · exact absurd c_14 (by decide)
          · refine j_aload_n dX8_areCopiesLike_17 rfl rfl ?_
            refine j_iload dX8_areCopiesLike_18 rfl ?_
            refine j_aald (v := .ref 46) dX8_areCopiesLike_20 rfl rfl rfl (vp_in_iff.mpr (by decide)) rfl ?_
            refine j_astore (lo' := [(5, _), (4, _), (3, _), (2, _), (0, _), (1, _)]) dX8_areCopiesLike_21 rfl (by decide) rfl ?_
            refine j_aload dX8_areCopiesLike_23 rfl rfl ?_
            refine j_aload_n dX8_areCopiesLike_25 rfl rfl ?_
            refine j_callV (q := (RX4, TX4, 5)) dX8_areCopiesLike_26 kX4_become lX8_344 inX4_become seX4_become rfl rfl (z_frame [46, 47, 48, 49, 50, 10, 11, 12, 13, 14] rfl (by decide) (Nat.le_of_ble_eq_true rfl) (c_X4_become_e hl true _ _ _ _ false _ _ _ U hU)) (Nat.le_of_ble_eq_true rfl) ⟨(Nat.le_of_ble_eq_true rfl), (Nat.le_of_ble_eq_true rfl)⟩ rfl (Nat.le_of_ble_eq_true rfl) rfl rfl (fun _ _ h => h.elim) ?_
            rintro _ _ ⟨_, _, ⟨rfl, f46, g46, ht46, rfl⟩, rfl, rfl⟩
            refine j_ws (L' := z_cw _ _ _ _ _ _ _ _ _ _ _ _ _ _ _ _ _ _ _ _ _ _ _ _ _ _ _ _ _ _ _ _ _ _ _ _ _ _ _ _ _ _ _ _ _ _ _ _ _ _ _ _ _ _ _ _ []) (by decide) rfl rfl ?_
            refine j_aload dX8_areCopiesLike_29 rfl rfl ?_
            refine j_aload_n dX8_areCopiesLike_31 rfl rfl ?_
            refine j_callV (q := (RX4, TX4, 5)) dX8_areCopiesLike_32 kX4_hasPairsOf lX8_230 inX4_hasPairsOf seX4_hasPairsOf rfl rfl (z_frame [46, 47, 48, 49, 50, 10, 11, 12, 13, 14] rfl (by decide) (Nat.le_of_ble_eq_true rfl) (c_X4_hasPairsOf_e hl true _ _ _ _ false _ _ _ U ht46 hU)) (Nat.le_of_ble_eq_true rfl) ⟨(Nat.le_of_ble_eq_true rfl), (Nat.le_of_ble_eq_true rfl)⟩ rfl (Nat.le_of_ble_eq_true rfl) rfl rfl (fun _ _ h => h.elim) ?_
            rintro _ _ ⟨_, _, ⟨rfl, rfl⟩, rfl, rfl⟩
            refine j_ws (L' := z_cw _ _ _ _ _ _ _ _ _ _ _ _ _ _ _ _ _ _ _ _ _ _ _ _ _ _ _ _ _ _ _ _ _ _ _ _ _ _ _ _ _ _ _ _ _ _ _ _ _ _ _ _ _ _ _ _ []) (by decide) rfl rfl ?_
            refine j_if_ne (tgt := 40) dX8_areCopiesLike_35 (by decide) (fun c_35 => ?_) (fun c_35 => ?_)
            · have hb35 := z_bt c_35
              refine j_iinc (lo' := [(4, _), (5, _), (3, _), (2, _), (0, _), (1, _)]) dX8_areCopiesLike_40 rfl rfl (by decide) rfl ?_
              refine j_goto (tgt := 11) dX8_areCopiesLike_43 (by decide) ?_
              refine j_iload dX8_areCopiesLike_11 rfl ?_
              refine j_iload_n dX8_areCopiesLike_13 rfl ?_
              refine j_icmp_ge (tgt := 46) dX8_areCopiesLike_14 (by decide) (fun c_14 => ?_) (fun c_14 => ?_)
              · refine j_iconst (v := 1) dX8_areCopiesLike_46 (by decide) ?_
                refine j_iret dX8_areCopiesLike_47 rfl rfl ?_ (Nat.le_of_ble_eq_true rfl) (Nat.le_of_ble_eq_true rfl)
                exact ⟨rfl, (by first | exact z_cwl | rfl), rfl, _, _, _, _, _, _, _, _, _, _, _, _, sp_m20 ht35.len, sp_m20 ht41.len, sp_m20 ht46.len, rfl⟩
              · exact absurd (by decide) c_14
            · have hb35 := z_bF c_35
              exact absurd (hb35.symm.trans (sp_lik1 (fun j _ => sp_lk_cp hU.1))) (by decide)
        · have hb35 := z_bF c_35
          exact absurd (hb35.symm.trans (sp_lik1 (fun j _ => sp_lk_cp hU.1))) (by decide)
    · have hb35 := z_bF c_35
      exact absurd (hb35.symm.trans (sp_lik1 (fun j _ => sp_lk_cp hU.1))) (by decide)
set_option maxRecDepth 100000 in
set_option maxHeartbeats 16000000 in
theorem c_X8_isCallLike_0_e (hl : l.stackTraces = false) (rf : Int32) (kn : Int32) (ma : Int32) (xa : Bool) (fa : Nat → Int32) (ca : Nat → Int32) (mb : Int32) (xb : Bool) (fb : Nat → Int32) (cb : Nat → Int32) (mt : Int32) (ft : Nat → Int32) (ct : Nat → Int32) (f0 : Nat → Int32) (g0 : Nat → Int32) (c0 : Nat → Int32) (f1 : Nat → Int32) (g1 : Nat → Int32) (c1 : Nat → Int32) (m1 : Int32) (f2 : Nat → Int32) (g2 : Nat → Int32) (c2 : Nat → Int32) (m2 : Int32) (f3 : Nat → Int32) (g3 : Nat → Int32) (c3 : Nat → Int32) (m3 : Int32) (f4 : Nat → Int32) (g4 : Nat → Int32) (c4 : Nat → Int32) (m4 : Int32) (f5 : Nat → Int32) (g5 : Nat → Int32) (c5 : Nat → Int32) (m5 : Int32) (ek0 : Int32) (em0 : Int32) (es0 : Int32) (el0 : Int32) (b0 : Int32) (ef0 : Nat → Int32) (ek1 : Int32) (em1 : Int32) (es1 : Int32) (el1 : Int32) (b1 : Int32) (ef1 : Nat → Int32) (U : List (Nat × Int32)) (p : Int32) (k : Nat) (t : Int32) (hU : z_tba f0 g0 U) (hk : k < 20) : z_CF G l mX8_isCallLike 17 0 0 (z_cw rf kn ma xa fa ca mb xb fb cb mt false ft ct f0 g0 c0 (nI U.length) 0 f1 g1 c1 m1 0 f2 g2 c2 m2 1 f3 g3 c3 m3 0 f4 g4 c4 m4 0 f5 g5 c5 m5 1 ek0 em0 es0 el0 b0 ef0 ek1 em1 es1 el1 b1 ef1 []) [.ref 0, .ref 10, .int p, .int (nI k), .int t] (fun v L => v = some (.int 1) ∧ ∃ (f3' g3' c3' : Nat → Int32) (m3' : Int32) (f4' g4' c4' : Nat → Int32) (m4' : Int32) (f5' g5' c5' : Nat → Int32) (m5' : Int32), z_m20 m3' ∧ z_m20 m4' ∧ z_m20 m5' ∧ L = (z_cw rf kn ma xa fa ca mb xb fb cb mt false ft ct f0 g0 c0 (nI U.length) 0 f1 g1 c1 m1 0 f2 g2 c2 m2 1 f3' g3' c3' m3' 0 f4' g4' c4' m4' 0 f5' g5' c5' m5' 1 ek0 em0 es0 el0 b0 ef0 ek1 em1 es1 el1 b1 ef1 [])) := by
  refine z_body hl (by decide) rfl (Nat.le_of_ble_eq_true rfl) ?_
  show z_J G l mX8_isCallLike (z_SF 17 0 0 (z_cw rf kn ma xa fa ca mb xb fb cb mt false ft ct f0 g0 c0 (nI U.length) 0 f1 g1 c1 m1 0 f2 g2 c2 m2 1 f3 g3 c3 m3 0 f4 g4 c4 m4 0 f5 g5 c5 m5 1 ek0 em0 es0 el0 b0 ef0 ek1 em1 es1 el1 b1 ef1 []) (fun v L => v = some (.int 1) ∧ ∃ (f3' g3' c3' : Nat → Int32) (m3' : Int32) (f4' g4' c4' : Nat → Int32) (m4' : Int32) (f5' g5' c5' : Nat → Int32) (m5' : Int32), z_m20 m3' ∧ z_m20 m4' ∧ z_m20 m5' ∧ L = (z_cw rf kn ma xa fa ca mb xb fb cb mt false ft ct f0 g0 c0 (nI U.length) 0 f1 g1 c1 m1 0 f2 g2 c2 m2 1 f3' g3' c3' m3' 0 f4' g4' c4' m4' 0 f5' g5' c5' m5' 1 ek0 em0 es0 el0 b0 ef0 ek1 em1 es1 el1 b1 ef1 []))) 0 [(0, _), (1, _), (2, _), (3, _), (4, _)] [] _ 0 0
  refine j_iconst (v := 0) dX8_isCallLike_0 (by decide) ?_
  refine j_istore (lo' := [(5, _), (0, _), (1, _), (2, _), (3, _), (4, _)]) dX8_isCallLike_1 (by decide) rfl ?_
  refine j_aload_n dX8_isCallLike_3 rfl rfl ?_
  refine j_getf dX8_isCallLike_4 fX8_43 rfl rfl ?_
  refine j_astore (lo' := [(6, _), (5, _), (0, _), (1, _), (2, _), (3, _), (4, _)]) dX8_isCallLike_7 rfl (by decide) rfl ?_
  refine j_aload dX8_isCallLike_9 rfl rfl ?_
  refine j_alen dX8_isCallLike_11 rfl rfl rfl ?_
  refine j_istore (lo' := [(7, _), (6, _), (5, _), (0, _), (1, _), (2, _), (3, _), (4, _)]) dX8_isCallLike_12 (by decide) rfl ?_
  refine j_iconst (v := 0) dX8_isCallLike_14 (by decide) ?_
  refine j_istore (lo' := [(8, _), (7, _), (6, _), (5, _), (0, _), (1, _), (2, _), (3, _), (4, _)]) dX8_isCallLike_15 (by decide) rfl ?_
  refine j_iload dX8_isCallLike_17 rfl ?_
  refine j_iload dX8_isCallLike_19 rfl ?_
  refine j_icmp_ge (tgt := 160) dX8_isCallLike_21 (by decide) (fun c_21 => ?_) (fun c_21 => ?_)
  · exact absurd c_21 (by decide)
  · refine j_aload dX8_isCallLike_24 rfl rfl ?_
    refine j_iload dX8_isCallLike_26 rfl ?_
    refine j_aald (v := .ref 35) dX8_isCallLike_28 rfl rfl rfl (vp_in_iff.mpr (by decide)) rfl ?_
    refine j_astore (lo' := [(9, _), (8, _), (7, _), (6, _), (5, _), (0, _), (1, _), (2, _), (3, _), (4, _)]) dX8_isCallLike_29 rfl (by decide) rfl ?_
    refine j_aload dX8_isCallLike_31 rfl rfl ?_
    refine j_aload_n dX8_isCallLike_33 rfl rfl ?_
    refine j_callV (q := (RX4, TX4, 5)) dX8_isCallLike_34 kX4_become lX8_344 inX4_become seX4_become rfl rfl (z_frame [35, 36, 37, 38, 39, 10, 11, 12, 13, 14] rfl (by decide) (Nat.le_of_ble_eq_true rfl) (c_X4_become_e hl false _ _ _ _ false _ _ _ U hU)) (Nat.le_of_ble_eq_true rfl) ⟨(Nat.le_of_ble_eq_true rfl), (Nat.le_of_ble_eq_true rfl)⟩ rfl (Nat.le_of_ble_eq_true rfl) rfl rfl (fun _ _ h => h.elim) ?_
    rintro _ _ ⟨_, _, ⟨rfl, f35, g35, ht35, rfl⟩, rfl, rfl⟩
    refine j_ws (L' := z_cw _ _ _ _ _ _ _ _ _ _ _ _ _ _ _ _ _ _ _ _ _ _ _ _ _ _ _ _ _ _ _ _ _ _ _ _ _ _ _ _ _ _ _ _ _ _ _ _ _ _ _ _ _ _ _ _ []) (by decide) rfl rfl ?_
    refine j_iload_n dX8_isCallLike_37 rfl ?_
    rcases z_sw3 p with rfl | rfl | rfl | hp
    · refine j_tsIn (tgt := 64) dX8_isCallLike_38 (by decide) (by decide) rfl (by decide) ?_
      refine j_aload dX8_isCallLike_64 rfl rfl ?_
      refine j_iload_n dX8_isCallLike_66 rfl ?_
      refine j_iload dX8_isCallLike_67 rfl ?_
      refine j_iconst (v := 1) dX8_isCallLike_69 (by decide) ?_
      refine j_callV (q := (RX4, TX4, 5)) dX8_isCallLike_70 kX4_reckon lX8_151 inX4_reckon seX4_reckon rfl rfl (z_frame [35, 36, 37, 38, 39] rfl (by decide) (Nat.le_of_ble_eq_true rfl) (c_X4_reckon_e hl false _ _ _ _ k t 1 ht35 hk so_v1)) (Nat.le_of_ble_eq_true rfl) ⟨(Nat.le_of_ble_eq_true rfl), (Nat.le_of_ble_eq_true rfl)⟩ rfl (Nat.le_of_ble_eq_true rfl) rfl rfl (fun _ _ h => h.elim) ?_
      rintro _ _ ⟨_, _, ⟨rfl, f35, g35, ht35, rfl⟩, rfl, rfl⟩
      refine j_ws (L' := z_cw _ _ _ _ _ _ _ _ _ _ _ _ _ _ _ _ _ _ _ _ _ _ _ _ _ _ _ _ _ _ _ _ _ _ _ _ _ _ _ _ _ _ _ _ _ _ _ _ _ _ _ _ _ _ _ _ []) (by decide) rfl rfl ?_
      refine j_istore (lo' := [(10, _), (9, _), (8, _), (7, _), (6, _), (5, _), (0, _), (1, _), (2, _), (3, _), (4, _)]) dX8_isCallLike_73 (by decide) rfl ?_
      refine j_goto (tgt := 117) dX8_isCallLike_75 (by decide) ?_
      refine j_aload dX8_isCallLike_117 rfl rfl ?_
      refine j_aload_n dX8_isCallLike_119 rfl rfl ?_
      refine j_getf dX8_isCallLike_120 fX8_40 rfl rfl ?_
      refine j_acmp_ne (tgt := 133) dX8_isCallLike_123 (by decide) (fun c_123 => ?_) (fun c_123 => ?_)
      · exact absurd rfl c_123
      · refine j_iload dX8_isCallLike_126 rfl ?_
        refine j_istore (lo' := [(5, _), (10, _), (9, _), (8, _), (7, _), (6, _), (0, _), (1, _), (2, _), (3, _), (4, _)]) dX8_isCallLike_128 (by decide) rfl ?_
        refine j_goto (tgt := 154) dX8_isCallLike_130 (by decide) ?_
        refine j_iinc (lo' := [(8, _), (5, _), (10, _), (9, _), (7, _), (6, _), (0, _), (1, _), (2, _), (3, _), (4, _)]) dX8_isCallLike_154 rfl rfl (by decide) rfl ?_
        refine j_goto (tgt := 17) dX8_isCallLike_157 (by decide) ?_
        refine j_iload dX8_isCallLike_17 rfl ?_
        refine j_iload dX8_isCallLike_19 rfl ?_
        refine j_icmp_ge (tgt := 160) dX8_isCallLike_21 (by decide) (fun c_21 => ?_) (fun c_21 => ?_)
        · exact absurd c_21 (by decide)
        · refine j_aload dX8_isCallLike_24 rfl rfl ?_
          refine j_iload dX8_isCallLike_26 rfl ?_
          refine j_aald (v := .ref 41) dX8_isCallLike_28 rfl rfl rfl (vp_in_iff.mpr (by decide)) rfl ?_
          refine j_astore (lo' := [(9, _), (8, _), (5, _), (10, _), (7, _), (6, _), (0, _), (1, _), (2, _), (3, _), (4, _)]) dX8_isCallLike_29 rfl (by decide) rfl ?_
          refine j_aload dX8_isCallLike_31 rfl rfl ?_
          refine j_aload_n dX8_isCallLike_33 rfl rfl ?_
          refine j_callV (q := (RX4, TX4, 5)) dX8_isCallLike_34 kX4_become lX8_344 inX4_become seX4_become rfl rfl (z_frame [41, 42, 43, 44, 45, 10, 11, 12, 13, 14] rfl (by decide) (Nat.le_of_ble_eq_true rfl) (c_X4_become_e hl false _ _ _ _ false _ _ _ U hU)) (Nat.le_of_ble_eq_true rfl) ⟨(Nat.le_of_ble_eq_true rfl), (Nat.le_of_ble_eq_true rfl)⟩ rfl (Nat.le_of_ble_eq_true rfl) rfl rfl (fun _ _ h => h.elim) ?_
          rintro _ _ ⟨_, _, ⟨rfl, f41, g41, ht41, rfl⟩, rfl, rfl⟩
          refine j_ws (L' := z_cw _ _ _ _ _ _ _ _ _ _ _ _ _ _ _ _ _ _ _ _ _ _ _ _ _ _ _ _ _ _ _ _ _ _ _ _ _ _ _ _ _ _ _ _ _ _ _ _ _ _ _ _ _ _ _ _ []) (by decide) rfl rfl ?_
          refine j_iload_n dX8_isCallLike_37 rfl ?_
          refine j_tsIn (tgt := 64) dX8_isCallLike_38 (by decide) (by decide) rfl (by decide) ?_
          refine j_aload dX8_isCallLike_64 rfl rfl ?_
          refine j_iload_n dX8_isCallLike_66 rfl ?_
          refine j_iload dX8_isCallLike_67 rfl ?_
          refine j_iconst (v := 1) dX8_isCallLike_69 (by decide) ?_
          refine j_callV (q := (RX4, TX4, 5)) dX8_isCallLike_70 kX4_reckon lX8_151 inX4_reckon seX4_reckon rfl rfl (z_frame [41, 42, 43, 44, 45] rfl (by decide) (Nat.le_of_ble_eq_true rfl) (c_X4_reckon_e hl false _ _ _ _ k t 1 ht41 hk so_v1)) (Nat.le_of_ble_eq_true rfl) ⟨(Nat.le_of_ble_eq_true rfl), (Nat.le_of_ble_eq_true rfl)⟩ rfl (Nat.le_of_ble_eq_true rfl) rfl rfl (fun _ _ h => h.elim) ?_
          rintro _ _ ⟨_, _, ⟨rfl, f41, g41, ht41, rfl⟩, rfl, rfl⟩
          refine j_ws (L' := z_cw _ _ _ _ _ _ _ _ _ _ _ _ _ _ _ _ _ _ _ _ _ _ _ _ _ _ _ _ _ _ _ _ _ _ _ _ _ _ _ _ _ _ _ _ _ _ _ _ _ _ _ _ _ _ _ _ []) (by decide) rfl rfl ?_
          refine j_istore (lo' := [(10, _), (9, _), (8, _), (5, _), (7, _), (6, _), (0, _), (1, _), (2, _), (3, _), (4, _)]) dX8_isCallLike_73 (by decide) rfl ?_
          refine j_goto (tgt := 117) dX8_isCallLike_75 (by decide) ?_
          refine j_aload dX8_isCallLike_117 rfl rfl ?_
          refine j_aload_n dX8_isCallLike_119 rfl rfl ?_
          refine j_getf dX8_isCallLike_120 fX8_40 rfl rfl ?_
          refine j_acmp_ne (tgt := 133) dX8_isCallLike_123 (by decide) (fun c_123 => ?_) (fun c_123 => ?_)
          · refine j_iload dX8_isCallLike_133 rfl ?_
            refine j_iload dX8_isCallLike_135 rfl ?_
            refine j_icmp_ne (tgt := 152) dX8_isCallLike_137 (by decide) (fun c_137 => ?_) (fun c_137 => ?_)
            · exact (c_137 (congrArg (fun z => Option.getD z (-1001)) (so_0 (b := false) (b' := false) (k := k) (r := t) hU.1).1)).elim
            · refine j_aload dX8_isCallLike_140 rfl rfl ?_
              refine j_aload_n dX8_isCallLike_142 rfl rfl ?_
              refine j_getf dX8_isCallLike_143 fX8_40 rfl rfl ?_
              refine j_callV (q := (RX4, TX4, 5)) dX8_isCallLike_146 kX4_hasPairsOf lX8_230 inX4_hasPairsOf seX4_hasPairsOf rfl rfl (z_frame [41, 42, 43, 44, 45, 35, 36, 37, 38, 39] rfl (by decide) (Nat.le_of_ble_eq_true rfl) (c_X4_hasPairsOf_e hl false _ _ _ _ false _ _ _ _ ht41 ht35)) (Nat.le_of_ble_eq_true rfl) ⟨(Nat.le_of_ble_eq_true rfl), (Nat.le_of_ble_eq_true rfl)⟩ rfl (Nat.le_of_ble_eq_true rfl) rfl rfl (fun _ _ h => h.elim) ?_
              rintro _ _ ⟨_, _, ⟨rfl, rfl⟩, rfl, rfl⟩
              refine j_ws (L' := z_cw _ _ _ _ _ _ _ _ _ _ _ _ _ _ _ _ _ _ _ _ _ _ _ _ _ _ _ _ _ _ _ _ _ _ _ _ _ _ _ _ _ _ _ _ _ _ _ _ _ _ _ _ _ _ _ _ []) (by decide) rfl rfl ?_
              refine j_if_ne (tgt := 154) dX8_isCallLike_149 (by decide) (fun c_149 => ?_) (fun c_149 => ?_)
              · have hb149 := z_bt c_149
                refine j_iinc (lo' := [(8, _), (10, _), (9, _), (5, _), (7, _), (6, _), (0, _), (1, _), (2, _), (3, _), (4, _)]) dX8_isCallLike_154 rfl rfl (by decide) rfl ?_
                refine j_goto (tgt := 17) dX8_isCallLike_157 (by decide) ?_
                refine j_iload dX8_isCallLike_17 rfl ?_
                refine j_iload dX8_isCallLike_19 rfl ?_
                refine j_icmp_ge (tgt := 160) dX8_isCallLike_21 (by decide) (fun c_21 => ?_) (fun c_21 => ?_)
                · exact absurd c_21 (by decide)
                · refine j_aload dX8_isCallLike_24 rfl rfl ?_
                  refine j_iload dX8_isCallLike_26 rfl ?_
                  refine j_aald (v := .ref 46) dX8_isCallLike_28 rfl rfl rfl (vp_in_iff.mpr (by decide)) rfl ?_
                  refine j_astore (lo' := [(9, _), (8, _), (10, _), (5, _), (7, _), (6, _), (0, _), (1, _), (2, _), (3, _), (4, _)]) dX8_isCallLike_29 rfl (by decide) rfl ?_
                  refine j_aload dX8_isCallLike_31 rfl rfl ?_
                  refine j_aload_n dX8_isCallLike_33 rfl rfl ?_
                  refine j_callV (q := (RX4, TX4, 5)) dX8_isCallLike_34 kX4_become lX8_344 inX4_become seX4_become rfl rfl (z_frame [46, 47, 48, 49, 50, 10, 11, 12, 13, 14] rfl (by decide) (Nat.le_of_ble_eq_true rfl) (c_X4_become_e hl true _ _ _ _ false _ _ _ U hU)) (Nat.le_of_ble_eq_true rfl) ⟨(Nat.le_of_ble_eq_true rfl), (Nat.le_of_ble_eq_true rfl)⟩ rfl (Nat.le_of_ble_eq_true rfl) rfl rfl (fun _ _ h => h.elim) ?_
                  rintro _ _ ⟨_, _, ⟨rfl, f46, g46, ht46, rfl⟩, rfl, rfl⟩
                  refine j_ws (L' := z_cw _ _ _ _ _ _ _ _ _ _ _ _ _ _ _ _ _ _ _ _ _ _ _ _ _ _ _ _ _ _ _ _ _ _ _ _ _ _ _ _ _ _ _ _ _ _ _ _ _ _ _ _ _ _ _ _ []) (by decide) rfl rfl ?_
                  refine j_iload_n dX8_isCallLike_37 rfl ?_
                  refine j_tsIn (tgt := 64) dX8_isCallLike_38 (by decide) (by decide) rfl (by decide) ?_
                  refine j_aload dX8_isCallLike_64 rfl rfl ?_
                  refine j_iload_n dX8_isCallLike_66 rfl ?_
                  refine j_iload dX8_isCallLike_67 rfl ?_
                  refine j_iconst (v := 1) dX8_isCallLike_69 (by decide) ?_
                  refine j_callV (q := (RX4, TX4, 5)) dX8_isCallLike_70 kX4_reckon lX8_151 inX4_reckon seX4_reckon rfl rfl (z_frame [46, 47, 48, 49, 50] rfl (by decide) (Nat.le_of_ble_eq_true rfl) (c_X4_reckon_e hl true _ _ _ _ k t 1 ht46 hk so_v1)) (Nat.le_of_ble_eq_true rfl) ⟨(Nat.le_of_ble_eq_true rfl), (Nat.le_of_ble_eq_true rfl)⟩ rfl (Nat.le_of_ble_eq_true rfl) rfl rfl (fun _ _ h => h.elim) ?_
                  rintro _ _ ⟨_, _, ⟨rfl, f46, g46, ht46, rfl⟩, rfl, rfl⟩
                  refine j_ws (L' := z_cw _ _ _ _ _ _ _ _ _ _ _ _ _ _ _ _ _ _ _ _ _ _ _ _ _ _ _ _ _ _ _ _ _ _ _ _ _ _ _ _ _ _ _ _ _ _ _ _ _ _ _ _ _ _ _ _ []) (by decide) rfl rfl ?_
                  refine j_istore (lo' := [(10, _), (9, _), (8, _), (5, _), (7, _), (6, _), (0, _), (1, _), (2, _), (3, _), (4, _)]) dX8_isCallLike_73 (by decide) rfl ?_
                  refine j_goto (tgt := 117) dX8_isCallLike_75 (by decide) ?_
                  refine j_aload dX8_isCallLike_117 rfl rfl ?_
                  refine j_aload_n dX8_isCallLike_119 rfl rfl ?_
                  refine j_getf dX8_isCallLike_120 fX8_40 rfl rfl ?_
                  refine j_acmp_ne (tgt := 133) dX8_isCallLike_123 (by decide) (fun c_123 => ?_) (fun c_123 => ?_)
                  · refine j_iload dX8_isCallLike_133 rfl ?_
                    refine j_iload dX8_isCallLike_135 rfl ?_
                    refine j_icmp_ne (tgt := 152) dX8_isCallLike_137 (by decide) (fun c_137 => ?_) (fun c_137 => ?_)
                    · exact (c_137 (congrArg (fun z => Option.getD z (-1001)) (so_0 (b := true) (b' := false) (k := k) (r := t) hU.1).1)).elim
                    · refine j_aload dX8_isCallLike_140 rfl rfl ?_
                      refine j_aload_n dX8_isCallLike_142 rfl rfl ?_
                      refine j_getf dX8_isCallLike_143 fX8_40 rfl rfl ?_
                      refine j_callV (q := (RX4, TX4, 5)) dX8_isCallLike_146 kX4_hasPairsOf lX8_230 inX4_hasPairsOf seX4_hasPairsOf rfl rfl (z_frame [46, 47, 48, 49, 50, 35, 36, 37, 38, 39] rfl (by decide) (Nat.le_of_ble_eq_true rfl) (c_X4_hasPairsOf_e hl true _ _ _ _ false _ _ _ _ ht46 ht35)) (Nat.le_of_ble_eq_true rfl) ⟨(Nat.le_of_ble_eq_true rfl), (Nat.le_of_ble_eq_true rfl)⟩ rfl (Nat.le_of_ble_eq_true rfl) rfl rfl (fun _ _ h => h.elim) ?_
                      rintro _ _ ⟨_, _, ⟨rfl, rfl⟩, rfl, rfl⟩
                      refine j_ws (L' := z_cw _ _ _ _ _ _ _ _ _ _ _ _ _ _ _ _ _ _ _ _ _ _ _ _ _ _ _ _ _ _ _ _ _ _ _ _ _ _ _ _ _ _ _ _ _ _ _ _ _ _ _ _ _ _ _ _ []) (by decide) rfl rfl ?_
                      refine j_if_ne (tgt := 154) dX8_isCallLike_149 (by decide) (fun c_149 => ?_) (fun c_149 => ?_)
                      · have hb149 := z_bt c_149
                        refine j_iinc (lo' := [(8, _), (10, _), (9, _), (5, _), (7, _), (6, _), (0, _), (1, _), (2, _), (3, _), (4, _)]) dX8_isCallLike_154 rfl rfl (by decide) rfl ?_
                        refine j_goto (tgt := 17) dX8_isCallLike_157 (by decide) ?_
                        refine j_iload dX8_isCallLike_17 rfl ?_
                        refine j_iload dX8_isCallLike_19 rfl ?_
                        refine j_icmp_ge (tgt := 160) dX8_isCallLike_21 (by decide) (fun c_21 => ?_) (fun c_21 => ?_)
                        · refine j_iconst (v := 1) dX8_isCallLike_160 (by decide) ?_
                          refine j_iret dX8_isCallLike_161 rfl rfl ?_ (Nat.le_of_ble_eq_true rfl) (Nat.le_of_ble_eq_true rfl)
                          exact ⟨rfl, (by first | exact z_cwl | rfl), rfl, _, _, _, _, _, _, _, _, _, _, _, _, sp_m20 ht35.len, sp_m20 ht41.len, sp_m20 ht46.len, rfl⟩
                        · exact absurd (by decide) c_21
                      · have hb149 := z_bF c_149
                        exact absurd (hb149.symm.trans (sp_lik1 (fun j _ => (so_0 (b := true) (b' := false) (k := k) (r := t) hU.1).2 j))) (by decide)
                  · exact absurd c_123 (by decide)
              · have hb149 := z_bF c_149
                exact absurd (hb149.symm.trans (sp_lik1 (fun j _ => (so_0 (b := false) (b' := false) (k := k) (r := t) hU.1).2 j))) (by decide)
          · exact absurd c_123 (by decide)
    · refine j_tsIn (tgt := 78) dX8_isCallLike_38 (by decide) (by decide) rfl (by decide) ?_
      refine j_aload dX8_isCallLike_78 rfl rfl ?_
      refine j_iload_n dX8_isCallLike_80 rfl ?_
      refine j_iload dX8_isCallLike_81 rfl ?_
      refine j_iconst (v := 1) dX8_isCallLike_83 (by decide) ?_
      refine j_callV (q := (RX4, TX4, 5)) dX8_isCallLike_84 kX4_reckonAbsent lX8_144 inX4_reckonAbsent seX4_reckonAbsent rfl rfl (z_frame [35, 36, 37, 38, 39] rfl (by decide) (Nat.le_of_ble_eq_true rfl) (c_X4_reckonAbsent_e hl false _ _ _ _ k t 1 ht35 hk so_v1)) (Nat.le_of_ble_eq_true rfl) ⟨(Nat.le_of_ble_eq_true rfl), (Nat.le_of_ble_eq_true rfl)⟩ rfl (Nat.le_of_ble_eq_true rfl) rfl rfl (fun _ _ h => h.elim) ?_
      rintro _ _ ⟨_, _, ⟨rfl, f35, g35, ht35, rfl⟩, rfl, rfl⟩
      refine j_ws (L' := z_cw _ _ _ _ _ _ _ _ _ _ _ _ _ _ _ _ _ _ _ _ _ _ _ _ _ _ _ _ _ _ _ _ _ _ _ _ _ _ _ _ _ _ _ _ _ _ _ _ _ _ _ _ _ _ _ _ []) (by decide) rfl rfl ?_
      refine j_istore (lo' := [(10, _), (9, _), (8, _), (7, _), (6, _), (5, _), (0, _), (1, _), (2, _), (3, _), (4, _)]) dX8_isCallLike_87 (by decide) rfl ?_
      refine j_goto (tgt := 117) dX8_isCallLike_89 (by decide) ?_
      refine j_aload dX8_isCallLike_117 rfl rfl ?_
      refine j_aload_n dX8_isCallLike_119 rfl rfl ?_
      refine j_getf dX8_isCallLike_120 fX8_40 rfl rfl ?_
      refine j_acmp_ne (tgt := 133) dX8_isCallLike_123 (by decide) (fun c_123 => ?_) (fun c_123 => ?_)
      · exact absurd rfl c_123
      · refine j_iload dX8_isCallLike_126 rfl ?_
        refine j_istore (lo' := [(5, _), (10, _), (9, _), (8, _), (7, _), (6, _), (0, _), (1, _), (2, _), (3, _), (4, _)]) dX8_isCallLike_128 (by decide) rfl ?_
        refine j_goto (tgt := 154) dX8_isCallLike_130 (by decide) ?_
        refine j_iinc (lo' := [(8, _), (5, _), (10, _), (9, _), (7, _), (6, _), (0, _), (1, _), (2, _), (3, _), (4, _)]) dX8_isCallLike_154 rfl rfl (by decide) rfl ?_
        refine j_goto (tgt := 17) dX8_isCallLike_157 (by decide) ?_
        refine j_iload dX8_isCallLike_17 rfl ?_
        refine j_iload dX8_isCallLike_19 rfl ?_
        refine j_icmp_ge (tgt := 160) dX8_isCallLike_21 (by decide) (fun c_21 => ?_) (fun c_21 => ?_)
        · exact absurd c_21 (by decide)
        · refine j_aload dX8_isCallLike_24 rfl rfl ?_
          refine j_iload dX8_isCallLike_26 rfl ?_
          refine j_aald (v := .ref 41) dX8_isCallLike_28 rfl rfl rfl (vp_in_iff.mpr (by decide)) rfl ?_
          refine j_astore (lo' := [(9, _), (8, _), (5, _), (10, _), (7, _), (6, _), (0, _), (1, _), (2, _), (3, _), (4, _)]) dX8_isCallLike_29 rfl (by decide) rfl ?_
          refine j_aload dX8_isCallLike_31 rfl rfl ?_
          refine j_aload_n dX8_isCallLike_33 rfl rfl ?_
          refine j_callV (q := (RX4, TX4, 5)) dX8_isCallLike_34 kX4_become lX8_344 inX4_become seX4_become rfl rfl (z_frame [41, 42, 43, 44, 45, 10, 11, 12, 13, 14] rfl (by decide) (Nat.le_of_ble_eq_true rfl) (c_X4_become_e hl false _ _ _ _ false _ _ _ U hU)) (Nat.le_of_ble_eq_true rfl) ⟨(Nat.le_of_ble_eq_true rfl), (Nat.le_of_ble_eq_true rfl)⟩ rfl (Nat.le_of_ble_eq_true rfl) rfl rfl (fun _ _ h => h.elim) ?_
          rintro _ _ ⟨_, _, ⟨rfl, f41, g41, ht41, rfl⟩, rfl, rfl⟩
          refine j_ws (L' := z_cw _ _ _ _ _ _ _ _ _ _ _ _ _ _ _ _ _ _ _ _ _ _ _ _ _ _ _ _ _ _ _ _ _ _ _ _ _ _ _ _ _ _ _ _ _ _ _ _ _ _ _ _ _ _ _ _ []) (by decide) rfl rfl ?_
          refine j_iload_n dX8_isCallLike_37 rfl ?_
          refine j_tsIn (tgt := 78) dX8_isCallLike_38 (by decide) (by decide) rfl (by decide) ?_
          refine j_aload dX8_isCallLike_78 rfl rfl ?_
          refine j_iload_n dX8_isCallLike_80 rfl ?_
          refine j_iload dX8_isCallLike_81 rfl ?_
          refine j_iconst (v := 1) dX8_isCallLike_83 (by decide) ?_
          refine j_callV (q := (RX4, TX4, 5)) dX8_isCallLike_84 kX4_reckonAbsent lX8_144 inX4_reckonAbsent seX4_reckonAbsent rfl rfl (z_frame [41, 42, 43, 44, 45] rfl (by decide) (Nat.le_of_ble_eq_true rfl) (c_X4_reckonAbsent_e hl false _ _ _ _ k t 1 ht41 hk so_v1)) (Nat.le_of_ble_eq_true rfl) ⟨(Nat.le_of_ble_eq_true rfl), (Nat.le_of_ble_eq_true rfl)⟩ rfl (Nat.le_of_ble_eq_true rfl) rfl rfl (fun _ _ h => h.elim) ?_
          rintro _ _ ⟨_, _, ⟨rfl, f41, g41, ht41, rfl⟩, rfl, rfl⟩
          refine j_ws (L' := z_cw _ _ _ _ _ _ _ _ _ _ _ _ _ _ _ _ _ _ _ _ _ _ _ _ _ _ _ _ _ _ _ _ _ _ _ _ _ _ _ _ _ _ _ _ _ _ _ _ _ _ _ _ _ _ _ _ []) (by decide) rfl rfl ?_
          refine j_istore (lo' := [(10, _), (9, _), (8, _), (5, _), (7, _), (6, _), (0, _), (1, _), (2, _), (3, _), (4, _)]) dX8_isCallLike_87 (by decide) rfl ?_
          refine j_goto (tgt := 117) dX8_isCallLike_89 (by decide) ?_
          refine j_aload dX8_isCallLike_117 rfl rfl ?_
          refine j_aload_n dX8_isCallLike_119 rfl rfl ?_
          refine j_getf dX8_isCallLike_120 fX8_40 rfl rfl ?_
          refine j_acmp_ne (tgt := 133) dX8_isCallLike_123 (by decide) (fun c_123 => ?_) (fun c_123 => ?_)
          · refine j_iload dX8_isCallLike_133 rfl ?_
            refine j_iload dX8_isCallLike_135 rfl ?_
            refine j_icmp_ne (tgt := 152) dX8_isCallLike_137 (by decide) (fun c_137 => ?_) (fun c_137 => ?_)
            · exact (c_137 (congrArg (fun z => Option.getD z (-1001)) (so_1 (b := false) (b' := false) (k := k) (r := t) hU.1).1)).elim
            · refine j_aload dX8_isCallLike_140 rfl rfl ?_
              refine j_aload_n dX8_isCallLike_142 rfl rfl ?_
              refine j_getf dX8_isCallLike_143 fX8_40 rfl rfl ?_
              refine j_callV (q := (RX4, TX4, 5)) dX8_isCallLike_146 kX4_hasPairsOf lX8_230 inX4_hasPairsOf seX4_hasPairsOf rfl rfl (z_frame [41, 42, 43, 44, 45, 35, 36, 37, 38, 39] rfl (by decide) (Nat.le_of_ble_eq_true rfl) (c_X4_hasPairsOf_e hl false _ _ _ _ false _ _ _ _ ht41 ht35)) (Nat.le_of_ble_eq_true rfl) ⟨(Nat.le_of_ble_eq_true rfl), (Nat.le_of_ble_eq_true rfl)⟩ rfl (Nat.le_of_ble_eq_true rfl) rfl rfl (fun _ _ h => h.elim) ?_
              rintro _ _ ⟨_, _, ⟨rfl, rfl⟩, rfl, rfl⟩
              refine j_ws (L' := z_cw _ _ _ _ _ _ _ _ _ _ _ _ _ _ _ _ _ _ _ _ _ _ _ _ _ _ _ _ _ _ _ _ _ _ _ _ _ _ _ _ _ _ _ _ _ _ _ _ _ _ _ _ _ _ _ _ []) (by decide) rfl rfl ?_
              refine j_if_ne (tgt := 154) dX8_isCallLike_149 (by decide) (fun c_149 => ?_) (fun c_149 => ?_)
              · have hb149 := z_bt c_149
                refine j_iinc (lo' := [(8, _), (10, _), (9, _), (5, _), (7, _), (6, _), (0, _), (1, _), (2, _), (3, _), (4, _)]) dX8_isCallLike_154 rfl rfl (by decide) rfl ?_
                refine j_goto (tgt := 17) dX8_isCallLike_157 (by decide) ?_
                refine j_iload dX8_isCallLike_17 rfl ?_
                refine j_iload dX8_isCallLike_19 rfl ?_
                refine j_icmp_ge (tgt := 160) dX8_isCallLike_21 (by decide) (fun c_21 => ?_) (fun c_21 => ?_)
                · exact absurd c_21 (by decide)
                · refine j_aload dX8_isCallLike_24 rfl rfl ?_
                  refine j_iload dX8_isCallLike_26 rfl ?_
                  refine j_aald (v := .ref 46) dX8_isCallLike_28 rfl rfl rfl (vp_in_iff.mpr (by decide)) rfl ?_
                  refine j_astore (lo' := [(9, _), (8, _), (10, _), (5, _), (7, _), (6, _), (0, _), (1, _), (2, _), (3, _), (4, _)]) dX8_isCallLike_29 rfl (by decide) rfl ?_
                  refine j_aload dX8_isCallLike_31 rfl rfl ?_
                  refine j_aload_n dX8_isCallLike_33 rfl rfl ?_
                  refine j_callV (q := (RX4, TX4, 5)) dX8_isCallLike_34 kX4_become lX8_344 inX4_become seX4_become rfl rfl (z_frame [46, 47, 48, 49, 50, 10, 11, 12, 13, 14] rfl (by decide) (Nat.le_of_ble_eq_true rfl) (c_X4_become_e hl true _ _ _ _ false _ _ _ U hU)) (Nat.le_of_ble_eq_true rfl) ⟨(Nat.le_of_ble_eq_true rfl), (Nat.le_of_ble_eq_true rfl)⟩ rfl (Nat.le_of_ble_eq_true rfl) rfl rfl (fun _ _ h => h.elim) ?_
                  rintro _ _ ⟨_, _, ⟨rfl, f46, g46, ht46, rfl⟩, rfl, rfl⟩
                  refine j_ws (L' := z_cw _ _ _ _ _ _ _ _ _ _ _ _ _ _ _ _ _ _ _ _ _ _ _ _ _ _ _ _ _ _ _ _ _ _ _ _ _ _ _ _ _ _ _ _ _ _ _ _ _ _ _ _ _ _ _ _ []) (by decide) rfl rfl ?_
                  refine j_iload_n dX8_isCallLike_37 rfl ?_
                  refine j_tsIn (tgt := 78) dX8_isCallLike_38 (by decide) (by decide) rfl (by decide) ?_
                  refine j_aload dX8_isCallLike_78 rfl rfl ?_
                  refine j_iload_n dX8_isCallLike_80 rfl ?_
                  refine j_iload dX8_isCallLike_81 rfl ?_
                  refine j_iconst (v := 1) dX8_isCallLike_83 (by decide) ?_
                  refine j_callV (q := (RX4, TX4, 5)) dX8_isCallLike_84 kX4_reckonAbsent lX8_144 inX4_reckonAbsent seX4_reckonAbsent rfl rfl (z_frame [46, 47, 48, 49, 50] rfl (by decide) (Nat.le_of_ble_eq_true rfl) (c_X4_reckonAbsent_e hl true _ _ _ _ k t 1 ht46 hk so_v1)) (Nat.le_of_ble_eq_true rfl) ⟨(Nat.le_of_ble_eq_true rfl), (Nat.le_of_ble_eq_true rfl)⟩ rfl (Nat.le_of_ble_eq_true rfl) rfl rfl (fun _ _ h => h.elim) ?_
                  rintro _ _ ⟨_, _, ⟨rfl, f46, g46, ht46, rfl⟩, rfl, rfl⟩
                  refine j_ws (L' := z_cw _ _ _ _ _ _ _ _ _ _ _ _ _ _ _ _ _ _ _ _ _ _ _ _ _ _ _ _ _ _ _ _ _ _ _ _ _ _ _ _ _ _ _ _ _ _ _ _ _ _ _ _ _ _ _ _ []) (by decide) rfl rfl ?_
                  refine j_istore (lo' := [(10, _), (9, _), (8, _), (5, _), (7, _), (6, _), (0, _), (1, _), (2, _), (3, _), (4, _)]) dX8_isCallLike_87 (by decide) rfl ?_
                  refine j_goto (tgt := 117) dX8_isCallLike_89 (by decide) ?_
                  refine j_aload dX8_isCallLike_117 rfl rfl ?_
                  refine j_aload_n dX8_isCallLike_119 rfl rfl ?_
                  refine j_getf dX8_isCallLike_120 fX8_40 rfl rfl ?_
                  refine j_acmp_ne (tgt := 133) dX8_isCallLike_123 (by decide) (fun c_123 => ?_) (fun c_123 => ?_)
                  · refine j_iload dX8_isCallLike_133 rfl ?_
                    refine j_iload dX8_isCallLike_135 rfl ?_
                    refine j_icmp_ne (tgt := 152) dX8_isCallLike_137 (by decide) (fun c_137 => ?_) (fun c_137 => ?_)
                    · exact (c_137 (congrArg (fun z => Option.getD z (-1001)) (so_1 (b := true) (b' := false) (k := k) (r := t) hU.1).1)).elim
                    · refine j_aload dX8_isCallLike_140 rfl rfl ?_
                      refine j_aload_n dX8_isCallLike_142 rfl rfl ?_
                      refine j_getf dX8_isCallLike_143 fX8_40 rfl rfl ?_
                      refine j_callV (q := (RX4, TX4, 5)) dX8_isCallLike_146 kX4_hasPairsOf lX8_230 inX4_hasPairsOf seX4_hasPairsOf rfl rfl (z_frame [46, 47, 48, 49, 50, 35, 36, 37, 38, 39] rfl (by decide) (Nat.le_of_ble_eq_true rfl) (c_X4_hasPairsOf_e hl true _ _ _ _ false _ _ _ _ ht46 ht35)) (Nat.le_of_ble_eq_true rfl) ⟨(Nat.le_of_ble_eq_true rfl), (Nat.le_of_ble_eq_true rfl)⟩ rfl (Nat.le_of_ble_eq_true rfl) rfl rfl (fun _ _ h => h.elim) ?_
                      rintro _ _ ⟨_, _, ⟨rfl, rfl⟩, rfl, rfl⟩
                      refine j_ws (L' := z_cw _ _ _ _ _ _ _ _ _ _ _ _ _ _ _ _ _ _ _ _ _ _ _ _ _ _ _ _ _ _ _ _ _ _ _ _ _ _ _ _ _ _ _ _ _ _ _ _ _ _ _ _ _ _ _ _ []) (by decide) rfl rfl ?_
                      refine j_if_ne (tgt := 154) dX8_isCallLike_149 (by decide) (fun c_149 => ?_) (fun c_149 => ?_)
                      · have hb149 := z_bt c_149
                        refine j_iinc (lo' := [(8, _), (10, _), (9, _), (5, _), (7, _), (6, _), (0, _), (1, _), (2, _), (3, _), (4, _)]) dX8_isCallLike_154 rfl rfl (by decide) rfl ?_
                        refine j_goto (tgt := 17) dX8_isCallLike_157 (by decide) ?_
                        refine j_iload dX8_isCallLike_17 rfl ?_
                        refine j_iload dX8_isCallLike_19 rfl ?_
                        refine j_icmp_ge (tgt := 160) dX8_isCallLike_21 (by decide) (fun c_21 => ?_) (fun c_21 => ?_)
                        · refine j_iconst (v := 1) dX8_isCallLike_160 (by decide) ?_
                          refine j_iret dX8_isCallLike_161 rfl rfl ?_ (Nat.le_of_ble_eq_true rfl) (Nat.le_of_ble_eq_true rfl)
                          exact ⟨rfl, (by first | exact z_cwl | rfl), rfl, _, _, _, _, _, _, _, _, _, _, _, _, sp_m20 ht35.len, sp_m20 ht41.len, sp_m20 ht46.len, rfl⟩
                        · exact absurd (by decide) c_21
                      · have hb149 := z_bF c_149
                        exact absurd (hb149.symm.trans (sp_lik1 (fun j _ => (so_1 (b := true) (b' := false) (k := k) (r := t) hU.1).2 j))) (by decide)
                  · exact absurd c_123 (by decide)
              · have hb149 := z_bF c_149
                exact absurd (hb149.symm.trans (sp_lik1 (fun j _ => (so_1 (b := false) (b' := false) (k := k) (r := t) hU.1).2 j))) (by decide)
          · exact absurd c_123 (by decide)
    · refine j_tsIn (tgt := 92) dX8_isCallLike_38 (by decide) (by decide) rfl (by decide) ?_
      refine j_aload dX8_isCallLike_92 rfl rfl ?_
      refine j_iload_n dX8_isCallLike_94 rfl ?_
      refine j_iload dX8_isCallLike_95 rfl ?_
      refine j_iconst (v := 1) dX8_isCallLike_97 (by decide) ?_
      refine j_callV (q := (RX4, TX4, 5)) dX8_isCallLike_98 kX4_reckonPresent lX8_148 inX4_reckonPresent seX4_reckonPresent rfl rfl (z_frame [35, 36, 37, 38, 39] rfl (by decide) (Nat.le_of_ble_eq_true rfl) (c_X4_reckonPresent_e hl false _ _ _ _ k t 1 ht35 hk so_v1)) (Nat.le_of_ble_eq_true rfl) ⟨(Nat.le_of_ble_eq_true rfl), (Nat.le_of_ble_eq_true rfl)⟩ rfl (Nat.le_of_ble_eq_true rfl) rfl rfl (fun _ _ h => h.elim) ?_
      rintro _ _ ⟨_, _, ⟨rfl, f35, g35, ht35, rfl⟩, rfl, rfl⟩
      refine j_ws (L' := z_cw _ _ _ _ _ _ _ _ _ _ _ _ _ _ _ _ _ _ _ _ _ _ _ _ _ _ _ _ _ _ _ _ _ _ _ _ _ _ _ _ _ _ _ _ _ _ _ _ _ _ _ _ _ _ _ _ []) (by decide) rfl rfl ?_
      refine j_istore (lo' := [(10, _), (9, _), (8, _), (7, _), (6, _), (5, _), (0, _), (1, _), (2, _), (3, _), (4, _)]) dX8_isCallLike_101 (by decide) rfl ?_
      refine j_goto (tgt := 117) dX8_isCallLike_103 (by decide) ?_
      refine j_aload dX8_isCallLike_117 rfl rfl ?_
      refine j_aload_n dX8_isCallLike_119 rfl rfl ?_
      refine j_getf dX8_isCallLike_120 fX8_40 rfl rfl ?_
      refine j_acmp_ne (tgt := 133) dX8_isCallLike_123 (by decide) (fun c_123 => ?_) (fun c_123 => ?_)
      · exact absurd rfl c_123
      · refine j_iload dX8_isCallLike_126 rfl ?_
        refine j_istore (lo' := [(5, _), (10, _), (9, _), (8, _), (7, _), (6, _), (0, _), (1, _), (2, _), (3, _), (4, _)]) dX8_isCallLike_128 (by decide) rfl ?_
        refine j_goto (tgt := 154) dX8_isCallLike_130 (by decide) ?_
        refine j_iinc (lo' := [(8, _), (5, _), (10, _), (9, _), (7, _), (6, _), (0, _), (1, _), (2, _), (3, _), (4, _)]) dX8_isCallLike_154 rfl rfl (by decide) rfl ?_
        refine j_goto (tgt := 17) dX8_isCallLike_157 (by decide) ?_
        refine j_iload dX8_isCallLike_17 rfl ?_
        refine j_iload dX8_isCallLike_19 rfl ?_
        refine j_icmp_ge (tgt := 160) dX8_isCallLike_21 (by decide) (fun c_21 => ?_) (fun c_21 => ?_)
        · exact absurd c_21 (by decide)
        · refine j_aload dX8_isCallLike_24 rfl rfl ?_
          refine j_iload dX8_isCallLike_26 rfl ?_
          refine j_aald (v := .ref 41) dX8_isCallLike_28 rfl rfl rfl (vp_in_iff.mpr (by decide)) rfl ?_
          refine j_astore (lo' := [(9, _), (8, _), (5, _), (10, _), (7, _), (6, _), (0, _), (1, _), (2, _), (3, _), (4, _)]) dX8_isCallLike_29 rfl (by decide) rfl ?_
          refine j_aload dX8_isCallLike_31 rfl rfl ?_
          refine j_aload_n dX8_isCallLike_33 rfl rfl ?_
          refine j_callV (q := (RX4, TX4, 5)) dX8_isCallLike_34 kX4_become lX8_344 inX4_become seX4_become rfl rfl (z_frame [41, 42, 43, 44, 45, 10, 11, 12, 13, 14] rfl (by decide) (Nat.le_of_ble_eq_true rfl) (c_X4_become_e hl false _ _ _ _ false _ _ _ U hU)) (Nat.le_of_ble_eq_true rfl) ⟨(Nat.le_of_ble_eq_true rfl), (Nat.le_of_ble_eq_true rfl)⟩ rfl (Nat.le_of_ble_eq_true rfl) rfl rfl (fun _ _ h => h.elim) ?_
          rintro _ _ ⟨_, _, ⟨rfl, f41, g41, ht41, rfl⟩, rfl, rfl⟩
          refine j_ws (L' := z_cw _ _ _ _ _ _ _ _ _ _ _ _ _ _ _ _ _ _ _ _ _ _ _ _ _ _ _ _ _ _ _ _ _ _ _ _ _ _ _ _ _ _ _ _ _ _ _ _ _ _ _ _ _ _ _ _ []) (by decide) rfl rfl ?_
          refine j_iload_n dX8_isCallLike_37 rfl ?_
          refine j_tsIn (tgt := 92) dX8_isCallLike_38 (by decide) (by decide) rfl (by decide) ?_
          refine j_aload dX8_isCallLike_92 rfl rfl ?_
          refine j_iload_n dX8_isCallLike_94 rfl ?_
          refine j_iload dX8_isCallLike_95 rfl ?_
          refine j_iconst (v := 1) dX8_isCallLike_97 (by decide) ?_
          refine j_callV (q := (RX4, TX4, 5)) dX8_isCallLike_98 kX4_reckonPresent lX8_148 inX4_reckonPresent seX4_reckonPresent rfl rfl (z_frame [41, 42, 43, 44, 45] rfl (by decide) (Nat.le_of_ble_eq_true rfl) (c_X4_reckonPresent_e hl false _ _ _ _ k t 1 ht41 hk so_v1)) (Nat.le_of_ble_eq_true rfl) ⟨(Nat.le_of_ble_eq_true rfl), (Nat.le_of_ble_eq_true rfl)⟩ rfl (Nat.le_of_ble_eq_true rfl) rfl rfl (fun _ _ h => h.elim) ?_
          rintro _ _ ⟨_, _, ⟨rfl, f41, g41, ht41, rfl⟩, rfl, rfl⟩
          refine j_ws (L' := z_cw _ _ _ _ _ _ _ _ _ _ _ _ _ _ _ _ _ _ _ _ _ _ _ _ _ _ _ _ _ _ _ _ _ _ _ _ _ _ _ _ _ _ _ _ _ _ _ _ _ _ _ _ _ _ _ _ []) (by decide) rfl rfl ?_
          refine j_istore (lo' := [(10, _), (9, _), (8, _), (5, _), (7, _), (6, _), (0, _), (1, _), (2, _), (3, _), (4, _)]) dX8_isCallLike_101 (by decide) rfl ?_
          refine j_goto (tgt := 117) dX8_isCallLike_103 (by decide) ?_
          refine j_aload dX8_isCallLike_117 rfl rfl ?_
          refine j_aload_n dX8_isCallLike_119 rfl rfl ?_
          refine j_getf dX8_isCallLike_120 fX8_40 rfl rfl ?_
          refine j_acmp_ne (tgt := 133) dX8_isCallLike_123 (by decide) (fun c_123 => ?_) (fun c_123 => ?_)
          · refine j_iload dX8_isCallLike_133 rfl ?_
            refine j_iload dX8_isCallLike_135 rfl ?_
            refine j_icmp_ne (tgt := 152) dX8_isCallLike_137 (by decide) (fun c_137 => ?_) (fun c_137 => ?_)
            · exact (c_137 (congrArg (fun z => Option.getD z (-1001)) (so_2 (b := false) (b' := false) (k := k) (r := t) hU.1).1)).elim
            · refine j_aload dX8_isCallLike_140 rfl rfl ?_
              refine j_aload_n dX8_isCallLike_142 rfl rfl ?_
              refine j_getf dX8_isCallLike_143 fX8_40 rfl rfl ?_
              refine j_callV (q := (RX4, TX4, 5)) dX8_isCallLike_146 kX4_hasPairsOf lX8_230 inX4_hasPairsOf seX4_hasPairsOf rfl rfl (z_frame [41, 42, 43, 44, 45, 35, 36, 37, 38, 39] rfl (by decide) (Nat.le_of_ble_eq_true rfl) (c_X4_hasPairsOf_e hl false _ _ _ _ false _ _ _ _ ht41 ht35)) (Nat.le_of_ble_eq_true rfl) ⟨(Nat.le_of_ble_eq_true rfl), (Nat.le_of_ble_eq_true rfl)⟩ rfl (Nat.le_of_ble_eq_true rfl) rfl rfl (fun _ _ h => h.elim) ?_
              rintro _ _ ⟨_, _, ⟨rfl, rfl⟩, rfl, rfl⟩
              refine j_ws (L' := z_cw _ _ _ _ _ _ _ _ _ _ _ _ _ _ _ _ _ _ _ _ _ _ _ _ _ _ _ _ _ _ _ _ _ _ _ _ _ _ _ _ _ _ _ _ _ _ _ _ _ _ _ _ _ _ _ _ []) (by decide) rfl rfl ?_
              refine j_if_ne (tgt := 154) dX8_isCallLike_149 (by decide) (fun c_149 => ?_) (fun c_149 => ?_)
              · have hb149 := z_bt c_149
                refine j_iinc (lo' := [(8, _), (10, _), (9, _), (5, _), (7, _), (6, _), (0, _), (1, _), (2, _), (3, _), (4, _)]) dX8_isCallLike_154 rfl rfl (by decide) rfl ?_
                refine j_goto (tgt := 17) dX8_isCallLike_157 (by decide) ?_
                refine j_iload dX8_isCallLike_17 rfl ?_
                refine j_iload dX8_isCallLike_19 rfl ?_
                refine j_icmp_ge (tgt := 160) dX8_isCallLike_21 (by decide) (fun c_21 => ?_) (fun c_21 => ?_)
                · exact absurd c_21 (by decide)
                · refine j_aload dX8_isCallLike_24 rfl rfl ?_
                  refine j_iload dX8_isCallLike_26 rfl ?_
                  refine j_aald (v := .ref 46) dX8_isCallLike_28 rfl rfl rfl (vp_in_iff.mpr (by decide)) rfl ?_
                  refine j_astore (lo' := [(9, _), (8, _), (10, _), (5, _), (7, _), (6, _), (0, _), (1, _), (2, _), (3, _), (4, _)]) dX8_isCallLike_29 rfl (by decide) rfl ?_
                  refine j_aload dX8_isCallLike_31 rfl rfl ?_
                  refine j_aload_n dX8_isCallLike_33 rfl rfl ?_
                  refine j_callV (q := (RX4, TX4, 5)) dX8_isCallLike_34 kX4_become lX8_344 inX4_become seX4_become rfl rfl (z_frame [46, 47, 48, 49, 50, 10, 11, 12, 13, 14] rfl (by decide) (Nat.le_of_ble_eq_true rfl) (c_X4_become_e hl true _ _ _ _ false _ _ _ U hU)) (Nat.le_of_ble_eq_true rfl) ⟨(Nat.le_of_ble_eq_true rfl), (Nat.le_of_ble_eq_true rfl)⟩ rfl (Nat.le_of_ble_eq_true rfl) rfl rfl (fun _ _ h => h.elim) ?_
                  rintro _ _ ⟨_, _, ⟨rfl, f46, g46, ht46, rfl⟩, rfl, rfl⟩
                  refine j_ws (L' := z_cw _ _ _ _ _ _ _ _ _ _ _ _ _ _ _ _ _ _ _ _ _ _ _ _ _ _ _ _ _ _ _ _ _ _ _ _ _ _ _ _ _ _ _ _ _ _ _ _ _ _ _ _ _ _ _ _ []) (by decide) rfl rfl ?_
                  refine j_iload_n dX8_isCallLike_37 rfl ?_
                  refine j_tsIn (tgt := 92) dX8_isCallLike_38 (by decide) (by decide) rfl (by decide) ?_
                  refine j_aload dX8_isCallLike_92 rfl rfl ?_
                  refine j_iload_n dX8_isCallLike_94 rfl ?_
                  refine j_iload dX8_isCallLike_95 rfl ?_
                  refine j_iconst (v := 1) dX8_isCallLike_97 (by decide) ?_
                  refine j_callV (q := (RX4, TX4, 5)) dX8_isCallLike_98 kX4_reckonPresent lX8_148 inX4_reckonPresent seX4_reckonPresent rfl rfl (z_frame [46, 47, 48, 49, 50] rfl (by decide) (Nat.le_of_ble_eq_true rfl) (c_X4_reckonPresent_e hl true _ _ _ _ k t 1 ht46 hk so_v1)) (Nat.le_of_ble_eq_true rfl) ⟨(Nat.le_of_ble_eq_true rfl), (Nat.le_of_ble_eq_true rfl)⟩ rfl (Nat.le_of_ble_eq_true rfl) rfl rfl (fun _ _ h => h.elim) ?_
                  rintro _ _ ⟨_, _, ⟨rfl, f46, g46, ht46, rfl⟩, rfl, rfl⟩
                  refine j_ws (L' := z_cw _ _ _ _ _ _ _ _ _ _ _ _ _ _ _ _ _ _ _ _ _ _ _ _ _ _ _ _ _ _ _ _ _ _ _ _ _ _ _ _ _ _ _ _ _ _ _ _ _ _ _ _ _ _ _ _ []) (by decide) rfl rfl ?_
                  refine j_istore (lo' := [(10, _), (9, _), (8, _), (5, _), (7, _), (6, _), (0, _), (1, _), (2, _), (3, _), (4, _)]) dX8_isCallLike_101 (by decide) rfl ?_
                  refine j_goto (tgt := 117) dX8_isCallLike_103 (by decide) ?_
                  refine j_aload dX8_isCallLike_117 rfl rfl ?_
                  refine j_aload_n dX8_isCallLike_119 rfl rfl ?_
                  refine j_getf dX8_isCallLike_120 fX8_40 rfl rfl ?_
                  refine j_acmp_ne (tgt := 133) dX8_isCallLike_123 (by decide) (fun c_123 => ?_) (fun c_123 => ?_)
                  · refine j_iload dX8_isCallLike_133 rfl ?_
                    refine j_iload dX8_isCallLike_135 rfl ?_
                    refine j_icmp_ne (tgt := 152) dX8_isCallLike_137 (by decide) (fun c_137 => ?_) (fun c_137 => ?_)
                    · exact (c_137 (congrArg (fun z => Option.getD z (-1001)) (so_2 (b := true) (b' := false) (k := k) (r := t) hU.1).1)).elim
                    · refine j_aload dX8_isCallLike_140 rfl rfl ?_
                      refine j_aload_n dX8_isCallLike_142 rfl rfl ?_
                      refine j_getf dX8_isCallLike_143 fX8_40 rfl rfl ?_
                      refine j_callV (q := (RX4, TX4, 5)) dX8_isCallLike_146 kX4_hasPairsOf lX8_230 inX4_hasPairsOf seX4_hasPairsOf rfl rfl (z_frame [46, 47, 48, 49, 50, 35, 36, 37, 38, 39] rfl (by decide) (Nat.le_of_ble_eq_true rfl) (c_X4_hasPairsOf_e hl true _ _ _ _ false _ _ _ _ ht46 ht35)) (Nat.le_of_ble_eq_true rfl) ⟨(Nat.le_of_ble_eq_true rfl), (Nat.le_of_ble_eq_true rfl)⟩ rfl (Nat.le_of_ble_eq_true rfl) rfl rfl (fun _ _ h => h.elim) ?_
                      rintro _ _ ⟨_, _, ⟨rfl, rfl⟩, rfl, rfl⟩
                      refine j_ws (L' := z_cw _ _ _ _ _ _ _ _ _ _ _ _ _ _ _ _ _ _ _ _ _ _ _ _ _ _ _ _ _ _ _ _ _ _ _ _ _ _ _ _ _ _ _ _ _ _ _ _ _ _ _ _ _ _ _ _ []) (by decide) rfl rfl ?_
                      refine j_if_ne (tgt := 154) dX8_isCallLike_149 (by decide) (fun c_149 => ?_) (fun c_149 => ?_)
                      · have hb149 := z_bt c_149
                        refine j_iinc (lo' := [(8, _), (10, _), (9, _), (5, _), (7, _), (6, _), (0, _), (1, _), (2, _), (3, _), (4, _)]) dX8_isCallLike_154 rfl rfl (by decide) rfl ?_
                        refine j_goto (tgt := 17) dX8_isCallLike_157 (by decide) ?_
                        refine j_iload dX8_isCallLike_17 rfl ?_
                        refine j_iload dX8_isCallLike_19 rfl ?_
                        refine j_icmp_ge (tgt := 160) dX8_isCallLike_21 (by decide) (fun c_21 => ?_) (fun c_21 => ?_)
                        · refine j_iconst (v := 1) dX8_isCallLike_160 (by decide) ?_
                          refine j_iret dX8_isCallLike_161 rfl rfl ?_ (Nat.le_of_ble_eq_true rfl) (Nat.le_of_ble_eq_true rfl)
                          exact ⟨rfl, (by first | exact z_cwl | rfl), rfl, _, _, _, _, _, _, _, _, _, _, _, _, sp_m20 ht35.len, sp_m20 ht41.len, sp_m20 ht46.len, rfl⟩
                        · exact absurd (by decide) c_21
                      · have hb149 := z_bF c_149
                        exact absurd (hb149.symm.trans (sp_lik1 (fun j _ => (so_2 (b := true) (b' := false) (k := k) (r := t) hU.1).2 j))) (by decide)
                  · exact absurd c_123 (by decide)
              · have hb149 := z_bF c_149
                exact absurd (hb149.symm.trans (sp_lik1 (fun j _ => (so_2 (b := false) (b' := false) (k := k) (r := t) hU.1).2 j))) (by decide)
          · exact absurd c_123 (by decide)
    · refine j_tsOut (tgt := 106) dX8_isCallLike_38 hp (by decide) ?_
      refine j_aload dX8_isCallLike_106 rfl rfl ?_
      refine j_iload_n dX8_isCallLike_108 rfl ?_
      refine j_iconst (v := 1) dX8_isCallLike_109 (by decide) ?_
      refine j_iload dX8_isCallLike_110 rfl ?_
      refine j_callV (q := (RX4, TX4, 5)) dX8_isCallLike_112 kX4_join lX8_154 inX4_join seX4_join rfl rfl (z_frame [35, 36, 37, 38, 39] rfl (by decide) (Nat.le_of_ble_eq_true rfl) (c_X4_join_e hl false _ _ _ _ k 1 t ht35 hk so_v1)) (Nat.le_of_ble_eq_true rfl) ⟨(Nat.le_of_ble_eq_true rfl), (Nat.le_of_ble_eq_true rfl)⟩ rfl (Nat.le_of_ble_eq_true rfl) rfl rfl (fun _ _ h => h.elim) ?_
      rintro _ _ ⟨_, _, ⟨rfl, f35, g35, ht35, rfl⟩, rfl, rfl⟩
      refine j_ws (L' := z_cw _ _ _ _ _ _ _ _ _ _ _ _ _ _ _ _ _ _ _ _ _ _ _ _ _ _ _ _ _ _ _ _ _ _ _ _ _ _ _ _ _ _ _ _ _ _ _ _ _ _ _ _ _ _ _ _ []) (by decide) rfl rfl ?_
      refine j_istore (lo' := [(10, _), (9, _), (8, _), (7, _), (6, _), (5, _), (0, _), (1, _), (2, _), (3, _), (4, _)]) dX8_isCallLike_115 (by decide) rfl ?_
      refine j_aload dX8_isCallLike_117 rfl rfl ?_
      refine j_aload_n dX8_isCallLike_119 rfl rfl ?_
      refine j_getf dX8_isCallLike_120 fX8_40 rfl rfl ?_
      refine j_acmp_ne (tgt := 133) dX8_isCallLike_123 (by decide) (fun c_123 => ?_) (fun c_123 => ?_)
      · exact absurd rfl c_123
      · refine j_iload dX8_isCallLike_126 rfl ?_
        refine j_istore (lo' := [(5, _), (10, _), (9, _), (8, _), (7, _), (6, _), (0, _), (1, _), (2, _), (3, _), (4, _)]) dX8_isCallLike_128 (by decide) rfl ?_
        refine j_goto (tgt := 154) dX8_isCallLike_130 (by decide) ?_
        refine j_iinc (lo' := [(8, _), (5, _), (10, _), (9, _), (7, _), (6, _), (0, _), (1, _), (2, _), (3, _), (4, _)]) dX8_isCallLike_154 rfl rfl (by decide) rfl ?_
        refine j_goto (tgt := 17) dX8_isCallLike_157 (by decide) ?_
        refine j_iload dX8_isCallLike_17 rfl ?_
        refine j_iload dX8_isCallLike_19 rfl ?_
        refine j_icmp_ge (tgt := 160) dX8_isCallLike_21 (by decide) (fun c_21 => ?_) (fun c_21 => ?_)
        · exact absurd c_21 (by decide)
        · refine j_aload dX8_isCallLike_24 rfl rfl ?_
          refine j_iload dX8_isCallLike_26 rfl ?_
          refine j_aald (v := .ref 41) dX8_isCallLike_28 rfl rfl rfl (vp_in_iff.mpr (by decide)) rfl ?_
          refine j_astore (lo' := [(9, _), (8, _), (5, _), (10, _), (7, _), (6, _), (0, _), (1, _), (2, _), (3, _), (4, _)]) dX8_isCallLike_29 rfl (by decide) rfl ?_
          refine j_aload dX8_isCallLike_31 rfl rfl ?_
          refine j_aload_n dX8_isCallLike_33 rfl rfl ?_
          refine j_callV (q := (RX4, TX4, 5)) dX8_isCallLike_34 kX4_become lX8_344 inX4_become seX4_become rfl rfl (z_frame [41, 42, 43, 44, 45, 10, 11, 12, 13, 14] rfl (by decide) (Nat.le_of_ble_eq_true rfl) (c_X4_become_e hl false _ _ _ _ false _ _ _ U hU)) (Nat.le_of_ble_eq_true rfl) ⟨(Nat.le_of_ble_eq_true rfl), (Nat.le_of_ble_eq_true rfl)⟩ rfl (Nat.le_of_ble_eq_true rfl) rfl rfl (fun _ _ h => h.elim) ?_
          rintro _ _ ⟨_, _, ⟨rfl, f41, g41, ht41, rfl⟩, rfl, rfl⟩
          refine j_ws (L' := z_cw _ _ _ _ _ _ _ _ _ _ _ _ _ _ _ _ _ _ _ _ _ _ _ _ _ _ _ _ _ _ _ _ _ _ _ _ _ _ _ _ _ _ _ _ _ _ _ _ _ _ _ _ _ _ _ _ []) (by decide) rfl rfl ?_
          refine j_iload_n dX8_isCallLike_37 rfl ?_
          refine j_tsOut (tgt := 106) dX8_isCallLike_38 hp (by decide) ?_
          refine j_aload dX8_isCallLike_106 rfl rfl ?_
          refine j_iload_n dX8_isCallLike_108 rfl ?_
          refine j_iconst (v := 1) dX8_isCallLike_109 (by decide) ?_
          refine j_iload dX8_isCallLike_110 rfl ?_
          refine j_callV (q := (RX4, TX4, 5)) dX8_isCallLike_112 kX4_join lX8_154 inX4_join seX4_join rfl rfl (z_frame [41, 42, 43, 44, 45] rfl (by decide) (Nat.le_of_ble_eq_true rfl) (c_X4_join_e hl false _ _ _ _ k 1 t ht41 hk so_v1)) (Nat.le_of_ble_eq_true rfl) ⟨(Nat.le_of_ble_eq_true rfl), (Nat.le_of_ble_eq_true rfl)⟩ rfl (Nat.le_of_ble_eq_true rfl) rfl rfl (fun _ _ h => h.elim) ?_
          rintro _ _ ⟨_, _, ⟨rfl, f41, g41, ht41, rfl⟩, rfl, rfl⟩
          refine j_ws (L' := z_cw _ _ _ _ _ _ _ _ _ _ _ _ _ _ _ _ _ _ _ _ _ _ _ _ _ _ _ _ _ _ _ _ _ _ _ _ _ _ _ _ _ _ _ _ _ _ _ _ _ _ _ _ _ _ _ _ []) (by decide) rfl rfl ?_
          refine j_istore (lo' := [(10, _), (9, _), (8, _), (5, _), (7, _), (6, _), (0, _), (1, _), (2, _), (3, _), (4, _)]) dX8_isCallLike_115 (by decide) rfl ?_
          refine j_aload dX8_isCallLike_117 rfl rfl ?_
          refine j_aload_n dX8_isCallLike_119 rfl rfl ?_
          refine j_getf dX8_isCallLike_120 fX8_40 rfl rfl ?_
          refine j_acmp_ne (tgt := 133) dX8_isCallLike_123 (by decide) (fun c_123 => ?_) (fun c_123 => ?_)
          · refine j_iload dX8_isCallLike_133 rfl ?_
            refine j_iload dX8_isCallLike_135 rfl ?_
            refine j_icmp_ne (tgt := 152) dX8_isCallLike_137 (by decide) (fun c_137 => ?_) (fun c_137 => ?_)
            · exact (c_137 (congrArg (fun z => Option.getD z (-1001)) (so_3 (b := false) (b' := false) (k := k) (r := t) hU.1).1)).elim
            · refine j_aload dX8_isCallLike_140 rfl rfl ?_
              refine j_aload_n dX8_isCallLike_142 rfl rfl ?_
              refine j_getf dX8_isCallLike_143 fX8_40 rfl rfl ?_
              refine j_callV (q := (RX4, TX4, 5)) dX8_isCallLike_146 kX4_hasPairsOf lX8_230 inX4_hasPairsOf seX4_hasPairsOf rfl rfl (z_frame [41, 42, 43, 44, 45, 35, 36, 37, 38, 39] rfl (by decide) (Nat.le_of_ble_eq_true rfl) (c_X4_hasPairsOf_e hl false _ _ _ _ false _ _ _ _ ht41 ht35)) (Nat.le_of_ble_eq_true rfl) ⟨(Nat.le_of_ble_eq_true rfl), (Nat.le_of_ble_eq_true rfl)⟩ rfl (Nat.le_of_ble_eq_true rfl) rfl rfl (fun _ _ h => h.elim) ?_
              rintro _ _ ⟨_, _, ⟨rfl, rfl⟩, rfl, rfl⟩
              refine j_ws (L' := z_cw _ _ _ _ _ _ _ _ _ _ _ _ _ _ _ _ _ _ _ _ _ _ _ _ _ _ _ _ _ _ _ _ _ _ _ _ _ _ _ _ _ _ _ _ _ _ _ _ _ _ _ _ _ _ _ _ []) (by decide) rfl rfl ?_
              refine j_if_ne (tgt := 154) dX8_isCallLike_149 (by decide) (fun c_149 => ?_) (fun c_149 => ?_)
              · have hb149 := z_bt c_149
                refine j_iinc (lo' := [(8, _), (10, _), (9, _), (5, _), (7, _), (6, _), (0, _), (1, _), (2, _), (3, _), (4, _)]) dX8_isCallLike_154 rfl rfl (by decide) rfl ?_
                refine j_goto (tgt := 17) dX8_isCallLike_157 (by decide) ?_
                refine j_iload dX8_isCallLike_17 rfl ?_
                refine j_iload dX8_isCallLike_19 rfl ?_
                refine j_icmp_ge (tgt := 160) dX8_isCallLike_21 (by decide) (fun c_21 => ?_) (fun c_21 => ?_)
                · exact absurd c_21 (by decide)
                · refine j_aload dX8_isCallLike_24 rfl rfl ?_
                  refine j_iload dX8_isCallLike_26 rfl ?_
                  refine j_aald (v := .ref 46) dX8_isCallLike_28 rfl rfl rfl (vp_in_iff.mpr (by decide)) rfl ?_
                  refine j_astore (lo' := [(9, _), (8, _), (10, _), (5, _), (7, _), (6, _), (0, _), (1, _), (2, _), (3, _), (4, _)]) dX8_isCallLike_29 rfl (by decide) rfl ?_
                  refine j_aload dX8_isCallLike_31 rfl rfl ?_
                  refine j_aload_n dX8_isCallLike_33 rfl rfl ?_
                  refine j_callV (q := (RX4, TX4, 5)) dX8_isCallLike_34 kX4_become lX8_344 inX4_become seX4_become rfl rfl (z_frame [46, 47, 48, 49, 50, 10, 11, 12, 13, 14] rfl (by decide) (Nat.le_of_ble_eq_true rfl) (c_X4_become_e hl true _ _ _ _ false _ _ _ U hU)) (Nat.le_of_ble_eq_true rfl) ⟨(Nat.le_of_ble_eq_true rfl), (Nat.le_of_ble_eq_true rfl)⟩ rfl (Nat.le_of_ble_eq_true rfl) rfl rfl (fun _ _ h => h.elim) ?_
                  rintro _ _ ⟨_, _, ⟨rfl, f46, g46, ht46, rfl⟩, rfl, rfl⟩
                  refine j_ws (L' := z_cw _ _ _ _ _ _ _ _ _ _ _ _ _ _ _ _ _ _ _ _ _ _ _ _ _ _ _ _ _ _ _ _ _ _ _ _ _ _ _ _ _ _ _ _ _ _ _ _ _ _ _ _ _ _ _ _ []) (by decide) rfl rfl ?_
                  refine j_iload_n dX8_isCallLike_37 rfl ?_
                  refine j_tsOut (tgt := 106) dX8_isCallLike_38 hp (by decide) ?_
                  refine j_aload dX8_isCallLike_106 rfl rfl ?_
                  refine j_iload_n dX8_isCallLike_108 rfl ?_
                  refine j_iconst (v := 1) dX8_isCallLike_109 (by decide) ?_
                  refine j_iload dX8_isCallLike_110 rfl ?_
                  refine j_callV (q := (RX4, TX4, 5)) dX8_isCallLike_112 kX4_join lX8_154 inX4_join seX4_join rfl rfl (z_frame [46, 47, 48, 49, 50] rfl (by decide) (Nat.le_of_ble_eq_true rfl) (c_X4_join_e hl true _ _ _ _ k 1 t ht46 hk so_v1)) (Nat.le_of_ble_eq_true rfl) ⟨(Nat.le_of_ble_eq_true rfl), (Nat.le_of_ble_eq_true rfl)⟩ rfl (Nat.le_of_ble_eq_true rfl) rfl rfl (fun _ _ h => h.elim) ?_
                  rintro _ _ ⟨_, _, ⟨rfl, f46, g46, ht46, rfl⟩, rfl, rfl⟩
                  refine j_ws (L' := z_cw _ _ _ _ _ _ _ _ _ _ _ _ _ _ _ _ _ _ _ _ _ _ _ _ _ _ _ _ _ _ _ _ _ _ _ _ _ _ _ _ _ _ _ _ _ _ _ _ _ _ _ _ _ _ _ _ []) (by decide) rfl rfl ?_
                  refine j_istore (lo' := [(10, _), (9, _), (8, _), (5, _), (7, _), (6, _), (0, _), (1, _), (2, _), (3, _), (4, _)]) dX8_isCallLike_115 (by decide) rfl ?_
                  refine j_aload dX8_isCallLike_117 rfl rfl ?_
                  refine j_aload_n dX8_isCallLike_119 rfl rfl ?_
                  refine j_getf dX8_isCallLike_120 fX8_40 rfl rfl ?_
                  refine j_acmp_ne (tgt := 133) dX8_isCallLike_123 (by decide) (fun c_123 => ?_) (fun c_123 => ?_)
                  · refine j_iload dX8_isCallLike_133 rfl ?_
                    refine j_iload dX8_isCallLike_135 rfl ?_
                    refine j_icmp_ne (tgt := 152) dX8_isCallLike_137 (by decide) (fun c_137 => ?_) (fun c_137 => ?_)
                    · exact (c_137 (congrArg (fun z => Option.getD z (-1001)) (so_3 (b := true) (b' := false) (k := k) (r := t) hU.1).1)).elim
                    · refine j_aload dX8_isCallLike_140 rfl rfl ?_
                      refine j_aload_n dX8_isCallLike_142 rfl rfl ?_
                      refine j_getf dX8_isCallLike_143 fX8_40 rfl rfl ?_
                      refine j_callV (q := (RX4, TX4, 5)) dX8_isCallLike_146 kX4_hasPairsOf lX8_230 inX4_hasPairsOf seX4_hasPairsOf rfl rfl (z_frame [46, 47, 48, 49, 50, 35, 36, 37, 38, 39] rfl (by decide) (Nat.le_of_ble_eq_true rfl) (c_X4_hasPairsOf_e hl true _ _ _ _ false _ _ _ _ ht46 ht35)) (Nat.le_of_ble_eq_true rfl) ⟨(Nat.le_of_ble_eq_true rfl), (Nat.le_of_ble_eq_true rfl)⟩ rfl (Nat.le_of_ble_eq_true rfl) rfl rfl (fun _ _ h => h.elim) ?_
                      rintro _ _ ⟨_, _, ⟨rfl, rfl⟩, rfl, rfl⟩
                      refine j_ws (L' := z_cw _ _ _ _ _ _ _ _ _ _ _ _ _ _ _ _ _ _ _ _ _ _ _ _ _ _ _ _ _ _ _ _ _ _ _ _ _ _ _ _ _ _ _ _ _ _ _ _ _ _ _ _ _ _ _ _ []) (by decide) rfl rfl ?_
                      refine j_if_ne (tgt := 154) dX8_isCallLike_149 (by decide) (fun c_149 => ?_) (fun c_149 => ?_)
                      · have hb149 := z_bt c_149
                        refine j_iinc (lo' := [(8, _), (10, _), (9, _), (5, _), (7, _), (6, _), (0, _), (1, _), (2, _), (3, _), (4, _)]) dX8_isCallLike_154 rfl rfl (by decide) rfl ?_
                        refine j_goto (tgt := 17) dX8_isCallLike_157 (by decide) ?_
                        refine j_iload dX8_isCallLike_17 rfl ?_
                        refine j_iload dX8_isCallLike_19 rfl ?_
                        refine j_icmp_ge (tgt := 160) dX8_isCallLike_21 (by decide) (fun c_21 => ?_) (fun c_21 => ?_)
                        · refine j_iconst (v := 1) dX8_isCallLike_160 (by decide) ?_
                          refine j_iret dX8_isCallLike_161 rfl rfl ?_ (Nat.le_of_ble_eq_true rfl) (Nat.le_of_ble_eq_true rfl)
                          exact ⟨rfl, (by first | exact z_cwl | rfl), rfl, _, _, _, _, _, _, _, _, _, _, _, _, sp_m20 ht35.len, sp_m20 ht41.len, sp_m20 ht46.len, rfl⟩
                        · exact absurd (by decide) c_21
                      · have hb149 := z_bF c_149
                        exact absurd (hb149.symm.trans (sp_lik1 (fun j _ => (so_3 (b := true) (b' := false) (k := k) (r := t) hU.1).2 j))) (by decide)
                  · exact absurd c_123 (by decide)
              · have hb149 := z_bF c_149
                exact absurd (hb149.symm.trans (sp_lik1 (fun j _ => (so_3 (b := false) (b' := false) (k := k) (r := t) hU.1).2 j))) (by decide)
          · exact absurd c_123 (by decide)
set_option maxRecDepth 100000 in
set_option maxHeartbeats 8000000 in
theorem c_X8_areCallsLike_0_e (hl : l.stackTraces = false) (rf : Int32) (kn : Int32) (ma : Int32) (xa : Bool) (fa : Nat → Int32) (ca : Nat → Int32) (mb : Int32) (xb : Bool) (fb : Nat → Int32) (cb : Nat → Int32) (mt : Int32) (ft : Nat → Int32) (ct : Nat → Int32) (f0 : Nat → Int32) (g0 : Nat → Int32) (c0 : Nat → Int32) (f1 : Nat → Int32) (g1 : Nat → Int32) (c1 : Nat → Int32) (m1 : Int32) (f2 : Nat → Int32) (g2 : Nat → Int32) (c2 : Nat → Int32) (m2 : Int32) (f3 : Nat → Int32) (g3 : Nat → Int32) (c3 : Nat → Int32) (m3 : Int32) (f4 : Nat → Int32) (g4 : Nat → Int32) (c4 : Nat → Int32) (m4 : Int32) (f5 : Nat → Int32) (g5 : Nat → Int32) (c5 : Nat → Int32) (m5 : Int32) (ek0 : Int32) (em0 : Int32) (es0 : Int32) (el0 : Int32) (b0 : Int32) (ef0 : Nat → Int32) (ek1 : Int32) (em1 : Int32) (es1 : Int32) (el1 : Int32) (b1 : Int32) (ef1 : Nat → Int32) (U : List (Nat × Int32)) (hU : z_tba f0 g0 U) (hz3 : z_m20 m3) (hz4 : z_m20 m4) (hz5 : z_m20 m5) : z_CF G l mX8_areCallsLike 18 0 0 (z_cw rf kn ma xa fa ca mb xb fb cb mt false ft ct f0 g0 c0 (nI U.length) 0 f1 g1 c1 m1 0 f2 g2 c2 m2 1 f3 g3 c3 m3 0 f4 g4 c4 m4 0 f5 g5 c5 m5 1 ek0 em0 es0 el0 b0 ef0 ek1 em1 es1 el1 b1 ef1 []) [.ref 0, .ref 10] (fun v L => v = some (.int 1) ∧ ∃ (f3' g3' c3' : Nat → Int32) (m3' : Int32) (f4' g4' c4' : Nat → Int32) (m4' : Int32) (f5' g5' c5' : Nat → Int32) (m5' : Int32), z_m20 m3' ∧ z_m20 m4' ∧ z_m20 m5' ∧ L = (z_cw rf kn ma xa fa ca mb xb fb cb mt false ft ct f0 g0 c0 (nI U.length) 0 f1 g1 c1 m1 0 f2 g2 c2 m2 1 f3' g3' c3' m3' 0 f4' g4' c4' m4' 0 f5' g5' c5' m5' 1 ek0 em0 es0 el0 b0 ef0 ek1 em1 es1 el1 b1 ef1 [])) := by
  refine z_body hl (by decide) rfl (Nat.le_of_ble_eq_true rfl) ?_
  show z_J G l mX8_areCallsLike (z_SF 18 0 0 (z_cw rf kn ma xa fa ca mb xb fb cb mt false ft ct f0 g0 c0 (nI U.length) 0 f1 g1 c1 m1 0 f2 g2 c2 m2 1 f3 g3 c3 m3 0 f4 g4 c4 m4 0 f5 g5 c5 m5 1 ek0 em0 es0 el0 b0 ef0 ek1 em1 es1 el1 b1 ef1 []) (fun v L => v = some (.int 1) ∧ ∃ (f3' g3' c3' : Nat → Int32) (m3' : Int32) (f4' g4' c4' : Nat → Int32) (m4' : Int32) (f5' g5' c5' : Nat → Int32) (m5' : Int32), z_m20 m3' ∧ z_m20 m4' ∧ z_m20 m5' ∧ L = (z_cw rf kn ma xa fa ca mb xb fb cb mt false ft ct f0 g0 c0 (nI U.length) 0 f1 g1 c1 m1 0 f2 g2 c2 m2 1 f3' g3' c3' m3' 0 f4' g4' c4' m4' 0 f5' g5' c5' m5' 1 ek0 em0 es0 el0 b0 ef0 ek1 em1 es1 el1 b1 ef1 []))) 0 [(0, _), (1, _)] [] _ 0 0
  refine j_iconst (v := 0) dX8_areCallsLike_0 (by decide) ?_
  refine j_istore_n (lo' := [(2, _), (0, _), (1, _)]) dX8_areCallsLike_1 (by decide) rfl ?_
  have loop : ∀ (n9 : Nat) (f3' g3' c3' : Nat → Int32) (m3' : Int32) (f4' g4' c4' : Nat → Int32) (m4' : Int32) (f5' g5' c5' : Nat → Int32) (m5' : Int32) (j : Nat), (z_m20 m3') → (z_m20 m4') → (z_m20 m5') → (j ≤ 4) → (4 < j + n9) → z_J G l mX8_areCallsLike (z_SF 18 0 0 (z_cw rf kn ma xa fa ca mb xb fb cb mt false ft ct f0 g0 c0 (nI U.length) 0 f1 g1 c1 m1 0 f2 g2 c2 m2 1 f3 g3 c3 m3 0 f4 g4 c4 m4 0 f5 g5 c5 m5 1 ek0 em0 es0 el0 b0 ef0 ek1 em1 es1 el1 b1 ef1 []) (fun v L => v = some (.int 1) ∧ ∃ (f3' g3' c3' : Nat → Int32) (m3' : Int32) (f4' g4' c4' : Nat → Int32) (m4' : Int32) (f5' g5' c5' : Nat → Int32) (m5' : Int32), z_m20 m3' ∧ z_m20 m4' ∧ z_m20 m5' ∧ L = (z_cw rf kn ma xa fa ca mb xb fb cb mt false ft ct f0 g0 c0 (nI U.length) 0 f1 g1 c1 m1 0 f2 g2 c2 m2 1 f3' g3' c3' m3' 0 f4' g4' c4' m4' 0 f5' g5' c5' m5' 1 ek0 em0 es0 el0 b0 ef0 ek1 em1 es1 el1 b1 ef1 []))) 2 [(0, .ref 0), (1, .ref 10), (2, .int (nI j))] [] ((z_cw rf kn ma xa fa ca mb xb fb cb mt false ft ct f0 g0 c0 (nI U.length) 0 f1 g1 c1 m1 0 f2 g2 c2 m2 1 f3' g3' c3' m3' 0 f4' g4' c4' m4' 0 f5' g5' c5' m5' 1 ek0 em0 es0 el0 b0 ef0 ek1 em1 es1 el1 b1 ef1 []), z_no) 0 0 := by
    intro n9
    induction n9 with
    | zero => intro f3' g3' c3' m3' f4' g4' c4' m4' f5' g5' c5' m5' j q3 q4 q5 hj hf9; exact absurd hf9 (by omega)
    | succ n9 ih =>
      intro f3' g3' c3' m3' f4' g4' c4' m4' f5' g5' c5' m5' j q3 q4 q5 hj hf9
      refine j_iload_n dX8_areCallsLike_2 rfl ?_
      refine j_iconst (v := 3) dX8_areCallsLike_3 (by decide) ?_
      refine j_icmp_gt (tgt := 61) dX8_areCallsLike_4 (by decide) (fun c_4 => ?_) (fun c_4 => ?_)
      · have hb4 : 3 < j := (nI_ltI (a := 3) (b := j) (by omega) (by omega)).mp c_4
        refine j_iconst (v := 1) dX8_areCallsLike_61 (by decide) ?_
        refine j_iret dX8_areCallsLike_62 rfl rfl ?_ (Nat.le_of_ble_eq_true rfl) (Nat.le_of_ble_eq_true rfl)
        exact ⟨rfl, (by first | exact z_cwl | rfl), rfl, _, _, _, _, _, _, _, _, _, _, _, _, (by assumption), (by assumption), (by assumption), rfl⟩
      · have hb4 : ¬ 3 < j := fun z => c_4 ((nI_ltI (a := 3) (b := j) (by omega) (by omega)).mpr z)
        refine j_iconst (v := 0) dX8_areCallsLike_7 (by decide) ?_
        refine j_istore_n (lo' := [(3, _), (0, _), (1, _), (2, _)]) dX8_areCallsLike_8 (by decide) rfl ?_
        have loopi : ∀ (n8 : Nat) (f3' g3' c3' : Nat → Int32) (m3' : Int32) (f4' g4' c4' : Nat → Int32) (m4' : Int32) (f5' g5' c5' : Nat → Int32) (m5' : Int32) (i : Nat), (z_m20 m3') → (z_m20 m4') → (z_m20 m5') → (i ≤ 4) → (4 < i + n8) → z_J G l mX8_areCallsLike (z_SF 18 0 0 (z_cw rf kn ma xa fa ca mb xb fb cb mt false ft ct f0 g0 c0 (nI U.length) 0 f1 g1 c1 m1 0 f2 g2 c2 m2 1 f3 g3 c3 m3 0 f4 g4 c4 m4 0 f5 g5 c5 m5 1 ek0 em0 es0 el0 b0 ef0 ek1 em1 es1 el1 b1 ef1 []) (fun v L => v = some (.int 1) ∧ ∃ (f3' g3' c3' : Nat → Int32) (m3' : Int32) (f4' g4' c4' : Nat → Int32) (m4' : Int32) (f5' g5' c5' : Nat → Int32) (m5' : Int32), z_m20 m3' ∧ z_m20 m4' ∧ z_m20 m5' ∧ L = (z_cw rf kn ma xa fa ca mb xb fb cb mt false ft ct f0 g0 c0 (nI U.length) 0 f1 g1 c1 m1 0 f2 g2 c2 m2 1 f3' g3' c3' m3' 0 f4' g4' c4' m4' 0 f5' g5' c5' m5' 1 ek0 em0 es0 el0 b0 ef0 ek1 em1 es1 el1 b1 ef1 []))) 9 [(0, .ref 0), (1, .ref 10), (2, .int (nI j)), (3, .int (nI i))] [] ((z_cw rf kn ma xa fa ca mb xb fb cb mt false ft ct f0 g0 c0 (nI U.length) 0 f1 g1 c1 m1 0 f2 g2 c2 m2 1 f3' g3' c3' m3' 0 f4' g4' c4' m4' 0 f5' g5' c5' m5' 1 ek0 em0 es0 el0 b0 ef0 ek1 em1 es1 el1 b1 ef1 []), z_no) 0 0 := by
          intro n8
          induction n8 with
          | zero => intro f3' g3' c3' m3' f4' g4' c4' m4' f5' g5' c5' m5' i q3 q4 q5 hi hf8; exact absurd hf8 (by omega)
          | succ n8 ih8 =>
            intro f3' g3' c3' m3' f4' g4' c4' m4' f5' g5' c5' m5' i q3 q4 q5 hi hf8
            refine j_iload_n dX8_areCallsLike_9 rfl ?_
            refine j_iconst (v := 3) dX8_areCallsLike_10 (by decide) ?_
            refine j_icmp_gt (tgt := 55) dX8_areCallsLike_11 (by decide) (fun c_11 => ?_) (fun c_11 => ?_)
            · have hb11 : 3 < i := (nI_ltI (a := 3) (b := i) (by omega) (by omega)).mp c_11
              refine j_iinc (lo' := [(2, _), (0, _), (1, _), (3, _)]) dX8_areCallsLike_55 rfl (z_inc _) (by decide) rfl ?_
              refine j_goto (tgt := 2) dX8_areCallsLike_58 (by decide) ?_
              exact j_lo2 (ih _ _ _ _ _ _ _ _ _ _ _ _ (j + 1) (by assumption) (by assumption) (by assumption) (by omega) (by omega)) (z_q1 rfl (z_q1 rfl (z_q1 rfl z_q0)))
            · have hb11 : ¬ 3 < i := fun z => c_11 ((nI_ltI (a := 3) (b := i) (by omega) (by omega)).mpr z)
              refine j_aload_n dX8_areCallsLike_14 rfl rfl ?_
              refine j_aload_n dX8_areCallsLike_15 rfl rfl ?_
              refine j_iload_n dX8_areCallsLike_16 rfl ?_
              refine j_iload_n dX8_areCallsLike_17 rfl ?_
              refine j_iconst (v := 0) dX8_areCallsLike_18 (by decide) ?_
              refine j_callV (q := (RX8, TX8, 9)) dX8_areCallsLike_19 kX8_isCallLike lX8_346 inX8_isCallLike seX8_isCallLike rfl rfl (z_dirF (c_X8_isCallLike_0_e hl _ _ _ _ _ _ _ _ _ _ _ _ _ _ _ _ _ _ _ _ _ _ _ _ _ _ _ _ _ _ _ _ _ _ _ _ _ _ _ _ _ _ _ _ _ _ _ _ U _ j _ hU (by omega))) (Nat.le_of_ble_eq_true rfl) ⟨(Nat.le_of_ble_eq_true rfl), (Nat.le_of_ble_eq_true rfl)⟩ rfl (Nat.le_of_ble_eq_true rfl) rfl rfl (fun _ _ h => h.elim) ?_
              rintro _ _ ⟨_, ⟨rfl, _, _, _, _, _, _, _, _, _, _, _, _, q3, q4, q5, rfl⟩, rfl⟩
              refine j_if_eq (tgt := 47) dX8_areCallsLike_22 (by decide) (fun c_22 => ?_) (fun c_22 => ?_)
              · exact absurd c_22 (by decide)
              · refine j_aload_n dX8_areCallsLike_25 rfl rfl ?_
                refine j_aload_n dX8_areCallsLike_26 rfl rfl ?_
                refine j_iload_n dX8_areCallsLike_27 rfl ?_
                refine j_iload_n dX8_areCallsLike_28 rfl ?_
                refine j_iconst (v := 2) dX8_areCallsLike_29 (by decide) ?_
                refine j_callV (q := (RX8, TX8, 9)) dX8_areCallsLike_30 kX8_isCallLike lX8_346 inX8_isCallLike seX8_isCallLike rfl rfl (z_dirF (c_X8_isCallLike_0_e hl _ _ _ _ _ _ _ _ _ _ _ _ _ _ _ _ _ _ _ _ _ _ _ _ _ _ _ _ _ _ _ _ _ _ _ _ _ _ _ _ _ _ _ _ _ _ _ _ U _ j _ hU (by omega))) (Nat.le_of_ble_eq_true rfl) ⟨(Nat.le_of_ble_eq_true rfl), (Nat.le_of_ble_eq_true rfl)⟩ rfl (Nat.le_of_ble_eq_true rfl) rfl rfl (fun _ _ h => h.elim) ?_
                rintro _ _ ⟨_, ⟨rfl, _, _, _, _, _, _, _, _, _, _, _, _, q3, q4, q5, rfl⟩, rfl⟩
                refine j_if_eq (tgt := 47) dX8_areCallsLike_33 (by decide) (fun c_33 => ?_) (fun c_33 => ?_)
                · exact absurd c_33 (by decide)
                · refine j_aload_n dX8_areCallsLike_36 rfl rfl ?_
                  refine j_aload_n dX8_areCallsLike_37 rfl rfl ?_
                  refine j_iload_n dX8_areCallsLike_38 rfl ?_
                  refine j_iload_n dX8_areCallsLike_39 rfl ?_
                  refine j_iconst (v := 3) dX8_areCallsLike_40 (by decide) ?_
                  refine j_callV (q := (RX8, TX8, 9)) dX8_areCallsLike_41 kX8_isCallLike lX8_346 inX8_isCallLike seX8_isCallLike rfl rfl (z_dirF (c_X8_isCallLike_0_e hl _ _ _ _ _ _ _ _ _ _ _ _ _ _ _ _ _ _ _ _ _ _ _ _ _ _ _ _ _ _ _ _ _ _ _ _ _ _ _ _ _ _ _ _ _ _ _ _ U _ j _ hU (by omega))) (Nat.le_of_ble_eq_true rfl) ⟨(Nat.le_of_ble_eq_true rfl), (Nat.le_of_ble_eq_true rfl)⟩ rfl (Nat.le_of_ble_eq_true rfl) rfl rfl (fun _ _ h => h.elim) ?_
                  rintro _ _ ⟨_, ⟨rfl, _, _, _, _, _, _, _, _, _, _, _, _, q3, q4, q5, rfl⟩, rfl⟩
                  refine j_if_ne (tgt := 49) dX8_areCallsLike_44 (by decide) (fun c_44 => ?_) (fun c_44 => ?_)
                  · refine j_iinc (lo' := [(3, _), (0, _), (1, _), (2, _)]) dX8_areCallsLike_49 rfl (z_inc _) (by decide) rfl ?_
                    refine j_goto (tgt := 9) dX8_areCallsLike_52 (by decide) ?_
                    exact j_lo2 (ih8 _ _ _ _ _ _ _ _ _ _ _ _ (i + 1) q3 q4 q5 (by omega) (by omega)) (z_q1 rfl (z_q1 rfl (z_q1 rfl (z_q1 rfl z_q0))))
                  · exact absurd c_44 (by decide)
        exact j_lo2 (loopi 5 _ _ _ _ _ _ _ _ _ _ _ _ 0 (by assumption) (by assumption) (by assumption) (by omega) (by omega)) (z_q1 rfl (z_q1 rfl (z_q1 rfl (z_q1 rfl z_q0))))
  exact j_lo2 (loop 5 _ _ _ _ _ _ _ _ _ _ _ _ 0 hz3 hz4 hz5 (by omega) (by omega)) (z_q1 rfl (z_q1 rfl (z_q1 rfl z_q0)))
set_option maxRecDepth 100000 in
set_option maxHeartbeats 8000000 in
theorem c_X8_areCopiesLike_1_e (hl : l.stackTraces = false) (rf : Int32) (kn : Int32) (ma : Int32) (xa : Bool) (fa : Nat → Int32) (ca : Nat → Int32) (mb : Int32) (xb : Bool) (fb : Nat → Int32) (cb : Nat → Int32) (mt : Int32) (ft : Nat → Int32) (ct : Nat → Int32) (f0 : Nat → Int32) (g0 : Nat → Int32) (c0 : Nat → Int32) (m0 : Int32) (f1 : Nat → Int32) (g1 : Nat → Int32) (c1 : Nat → Int32) (f2 : Nat → Int32) (g2 : Nat → Int32) (c2 : Nat → Int32) (m2 : Int32) (f3 : Nat → Int32) (g3 : Nat → Int32) (c3 : Nat → Int32) (m3 : Int32) (f4 : Nat → Int32) (g4 : Nat → Int32) (c4 : Nat → Int32) (m4 : Int32) (f5 : Nat → Int32) (g5 : Nat → Int32) (c5 : Nat → Int32) (m5 : Int32) (ek0 : Int32) (em0 : Int32) (es0 : Int32) (el0 : Int32) (b0 : Int32) (ef0 : Nat → Int32) (ek1 : Int32) (em1 : Int32) (es1 : Int32) (el1 : Int32) (b1 : Int32) (ef1 : Nat → Int32) (U : List (Nat × Int32)) (hU : z_tba f1 g1 U) : z_CF G l mX8_areCopiesLike 15 0 0 (z_cw rf kn ma xa fa ca mb xb fb cb mt false ft ct f0 g0 c0 m0 0 f1 g1 c1 (nI U.length) 0 f2 g2 c2 m2 1 f3 g3 c3 m3 0 f4 g4 c4 m4 0 f5 g5 c5 m5 1 ek0 em0 es0 el0 b0 ef0 ek1 em1 es1 el1 b1 ef1 []) [.ref 0, .ref 16] (fun v L => v = some (.int 1) ∧ ∃ (f3' g3' c3' : Nat → Int32) (m3' : Int32) (f4' g4' c4' : Nat → Int32) (m4' : Int32) (f5' g5' c5' : Nat → Int32) (m5' : Int32), z_m20 m3' ∧ z_m20 m4' ∧ z_m20 m5' ∧ L = (z_cw rf kn ma xa fa ca mb xb fb cb mt false ft ct f0 g0 c0 m0 0 f1 g1 c1 (nI U.length) 0 f2 g2 c2 m2 1 f3' g3' c3' m3' 0 f4' g4' c4' m4' 0 f5' g5' c5' m5' 1 ek0 em0 es0 el0 b0 ef0 ek1 em1 es1 el1 b1 ef1 [])) := by
  refine z_body hl (by decide) rfl (Nat.le_of_ble_eq_true rfl) ?_
  show z_J G l mX8_areCopiesLike (z_SF 15 0 0 (z_cw rf kn ma xa fa ca mb xb fb cb mt false ft ct f0 g0 c0 m0 0 f1 g1 c1 (nI U.length) 0 f2 g2 c2 m2 1 f3 g3 c3 m3 0 f4 g4 c4 m4 0 f5 g5 c5 m5 1 ek0 em0 es0 el0 b0 ef0 ek1 em1 es1 el1 b1 ef1 []) (fun v L => v = some (.int 1) ∧ ∃ (f3' g3' c3' : Nat → Int32) (m3' : Int32) (f4' g4' c4' : Nat → Int32) (m4' : Int32) (f5' g5' c5' : Nat → Int32) (m5' : Int32), z_m20 m3' ∧ z_m20 m4' ∧ z_m20 m5' ∧ L = (z_cw rf kn ma xa fa ca mb xb fb cb mt false ft ct f0 g0 c0 m0 0 f1 g1 c1 (nI U.length) 0 f2 g2 c2 m2 1 f3' g3' c3' m3' 0 f4' g4' c4' m4' 0 f5' g5' c5' m5' 1 ek0 em0 es0 el0 b0 ef0 ek1 em1 es1 el1 b1 ef1 []))) 0 [(0, _), (1, _)] [] _ 0 0
  refine j_aload_n dX8_areCopiesLike_0 rfl rfl ?_
  refine j_getf dX8_areCopiesLike_1 fX8_43 rfl rfl ?_
  refine j_astore_n (lo' := [(2, _), (0, _), (1, _)]) dX8_areCopiesLike_4 rfl (by decide) rfl ?_
  refine j_aload_n dX8_areCopiesLike_5 rfl rfl ?_
  refine j_alen dX8_areCopiesLike_6 rfl rfl rfl ?_
  refine j_istore_n (lo' := [(3, _), (2, _), (0, _), (1, _)]) dX8_areCopiesLike_7 (by decide) rfl ?_
  refine j_iconst (v := 0) dX8_areCopiesLike_8 (by decide) ?_
  refine j_istore (lo' := [(4, _), (3, _), (2, _), (0, _), (1, _)]) dX8_areCopiesLike_9 (by decide) rfl ?_
  refine j_iload dX8_areCopiesLike_11 rfl ?_
  refine j_iload_n dX8_areCopiesLike_13 rfl ?_
  refine j_icmp_ge (tgt := 46) dX8_areCopiesLike_14 (by decide) (fun c_14 => ?_) (fun c_14 => ?_)
  · exact absurd c_14 (by decide)
  · refine j_aload_n dX8_areCopiesLike_17 rfl rfl ?_
    refine j_iload dX8_areCopiesLike_18 rfl ?_
    refine j_aald (v := .ref 35) dX8_areCopiesLike_20 rfl rfl rfl (vp_in_iff.mpr (by decide)) rfl ?_
    refine j_astore (lo' := [(5, _), (4, _), (3, _), (2, _), (0, _), (1, _)]) dX8_areCopiesLike_21 rfl (by decide) rfl ?_
    refine j_aload dX8_areCopiesLike_23 rfl rfl ?_
    refine j_aload_n dX8_areCopiesLike_25 rfl rfl ?_
    refine j_callV (q := (RX4, TX4, 5)) dX8_areCopiesLike_26 kX4_become lX8_344 inX4_become seX4_become rfl rfl (z_frame [35, 36, 37, 38, 39, 16, 17, 18, 19, 20] rfl (by decide) (Nat.le_of_ble_eq_true rfl) (c_X4_become_e hl false _ _ _ _ false _ _ _ U hU)) (Nat.le_of_ble_eq_true rfl) ⟨(Nat.le_of_ble_eq_true rfl), (Nat.le_of_ble_eq_true rfl)⟩ rfl (Nat.le_of_ble_eq_true rfl) rfl rfl (fun _ _ h => h.elim) ?_
    rintro _ _ ⟨_, _, ⟨rfl, f35, g35, ht35, rfl⟩, rfl, rfl⟩
    refine j_ws (L' := z_cw _ _ _ _ _ _ _ _ _ _ _ _ _ _ _ _ _ _ _ _ _ _ _ _ _ _ _ _ _ _ _ _ _ _ _ _ _ _ _ _ _ _ _ _ _ _ _ _ _ _ _ _ _ _ _ _ []) (by decide) rfl rfl ?_
    refine j_aload dX8_areCopiesLike_29 rfl rfl ?_
    refine j_aload_n dX8_areCopiesLike_31 rfl rfl ?_
    refine j_callV (q := (RX4, TX4, 5)) dX8_areCopiesLike_32 kX4_hasPairsOf lX8_230 inX4_hasPairsOf seX4_hasPairsOf rfl rfl (z_frame [35, 36, 37, 38, 39, 16, 17, 18, 19, 20] rfl (by decide) (Nat.le_of_ble_eq_true rfl) (c_X4_hasPairsOf_e hl false _ _ _ _ false _ _ _ U ht35 hU)) (Nat.le_of_ble_eq_true rfl) ⟨(Nat.le_of_ble_eq_true rfl), (Nat.le_of_ble_eq_true rfl)⟩ rfl (Nat.le_of_ble_eq_true rfl) rfl rfl (fun _ _ h => h.elim) ?_
    rintro _ _ ⟨_, _, ⟨rfl, rfl⟩, rfl, rfl⟩
    refine j_ws (L' := z_cw _ _ _ _ _ _ _ _ _ _ _ _ _ _ _ _ _ _ _ _ _ _ _ _ _ _ _ _ _ _ _ _ _ _ _ _ _ _ _ _ _ _ _ _ _ _ _ _ _ _ _ _ _ _ _ _ []) (by decide) rfl rfl ?_
    refine j_if_ne (tgt := 40) dX8_areCopiesLike_35 (by decide) (fun c_35 => ?_) (fun c_35 => ?_)
    · have hb35 := z_bt c_35
      refine j_iinc (lo' := [(4, _), (5, _), (3, _), (2, _), (0, _), (1, _)]) dX8_areCopiesLike_40 rfl rfl (by decide) rfl ?_
      refine j_goto (tgt := 11) dX8_areCopiesLike_43 (by decide) ?_
      refine j_iload dX8_areCopiesLike_11 rfl ?_
      refine j_iload_n dX8_areCopiesLike_13 rfl ?_
      refine j_icmp_ge (tgt := 46) dX8_areCopiesLike_14 (by decide) (fun c_14 => ?_) (fun c_14 => ?_)
      · exact absurd c_14 (by decide)
      · refine j_aload_n dX8_areCopiesLike_17 rfl rfl ?_
        refine j_iload dX8_areCopiesLike_18 rfl ?_
        refine j_aald (v := .ref 41) dX8_areCopiesLike_20 rfl rfl rfl (vp_in_iff.mpr (by decide)) rfl ?_
        refine j_astore (lo' := [(5, _), (4, _), (3, _), (2, _), (0, _), (1, _)]) dX8_areCopiesLike_21 rfl (by decide) rfl ?_
        refine j_aload dX8_areCopiesLike_23 rfl rfl ?_
        refine j_aload_n dX8_areCopiesLike_25 rfl rfl ?_
        refine j_callV (q := (RX4, TX4, 5)) dX8_areCopiesLike_26 kX4_become lX8_344 inX4_become seX4_become rfl rfl (z_frame [41, 42, 43, 44, 45, 16, 17, 18, 19, 20] rfl (by decide) (Nat.le_of_ble_eq_true rfl) (c_X4_become_e hl false _ _ _ _ false _ _ _ U hU)) (Nat.le_of_ble_eq_true rfl) ⟨(Nat.le_of_ble_eq_true rfl), (Nat.le_of_ble_eq_true rfl)⟩ rfl (Nat.le_of_ble_eq_true rfl) rfl rfl (fun _ _ h => h.elim) ?_
        rintro _ _ ⟨_, _, ⟨rfl, f41, g41, ht41, rfl⟩, rfl, rfl⟩
        refine j_ws (L' := z_cw _ _ _ _ _ _ _ _ _ _ _ _ _ _ _ _ _ _ _ _ _ _ _ _ _ _ _ _ _ _ _ _ _ _ _ _ _ _ _ _ _ _ _ _ _ _ _ _ _ _ _ _ _ _ _ _ []) (by decide) rfl rfl ?_
        refine j_aload dX8_areCopiesLike_29 rfl rfl ?_
        refine j_aload_n dX8_areCopiesLike_31 rfl rfl ?_
        refine j_callV (q := (RX4, TX4, 5)) dX8_areCopiesLike_32 kX4_hasPairsOf lX8_230 inX4_hasPairsOf seX4_hasPairsOf rfl rfl (z_frame [41, 42, 43, 44, 45, 16, 17, 18, 19, 20] rfl (by decide) (Nat.le_of_ble_eq_true rfl) (c_X4_hasPairsOf_e hl false _ _ _ _ false _ _ _ U ht41 hU)) (Nat.le_of_ble_eq_true rfl) ⟨(Nat.le_of_ble_eq_true rfl), (Nat.le_of_ble_eq_true rfl)⟩ rfl (Nat.le_of_ble_eq_true rfl) rfl rfl (fun _ _ h => h.elim) ?_
        rintro _ _ ⟨_, _, ⟨rfl, rfl⟩, rfl, rfl⟩
        refine j_ws (L' := z_cw _ _ _ _ _ _ _ _ _ _ _ _ _ _ _ _ _ _ _ _ _ _ _ _ _ _ _ _ _ _ _ _ _ _ _ _ _ _ _ _ _ _ _ _ _ _ _ _ _ _ _ _ _ _ _ _ []) (by decide) rfl rfl ?_
        refine j_if_ne (tgt := 40) dX8_areCopiesLike_35 (by decide) (fun c_35 => ?_) (fun c_35 => ?_)
        · have hb35 := z_bt c_35
          refine j_iinc (lo' := [(4, _), (5, _), (3, _), (2, _), (0, _), (1, _)]) dX8_areCopiesLike_40 rfl rfl (by decide) rfl ?_
          refine j_goto (tgt := 11) dX8_areCopiesLike_43 (by decide) ?_
          refine j_iload dX8_areCopiesLike_11 rfl ?_
          refine j_iload_n dX8_areCopiesLike_13 rfl ?_
          refine j_icmp_ge (tgt := 46) dX8_areCopiesLike_14 (by decide) (fun c_14 => ?_) (fun c_14 => ?_)
          · exact absurd c_14 (by decide)
          · refine j_aload_n dX8_areCopiesLike_17 rfl rfl ?_
            refine j_iload dX8_areCopiesLike_18 rfl ?_
            refine j_aald (v := .ref 46) dX8_areCopiesLike_20 rfl rfl rfl (vp_in_iff.mpr (by decide)) rfl ?_
            refine j_astore (lo' := [(5, _), (4, _), (3, _), (2, _), (0, _), (1, _)]) dX8_areCopiesLike_21 rfl (by decide) rfl ?_
            refine j_aload dX8_areCopiesLike_23 rfl rfl ?_
            refine j_aload_n dX8_areCopiesLike_25 rfl rfl ?_
            refine j_callV (q := (RX4, TX4, 5)) dX8_areCopiesLike_26 kX4_become lX8_344 inX4_become seX4_become rfl rfl (z_frame [46, 47, 48, 49, 50, 16, 17, 18, 19, 20] rfl (by decide) (Nat.le_of_ble_eq_true rfl) (c_X4_become_e hl true _ _ _ _ false _ _ _ U hU)) (Nat.le_of_ble_eq_true rfl) ⟨(Nat.le_of_ble_eq_true rfl), (Nat.le_of_ble_eq_true rfl)⟩ rfl (Nat.le_of_ble_eq_true rfl) rfl rfl (fun _ _ h => h.elim) ?_
            rintro _ _ ⟨_, _, ⟨rfl, f46, g46, ht46, rfl⟩, rfl, rfl⟩
            refine j_ws (L' := z_cw _ _ _ _ _ _ _ _ _ _ _ _ _ _ _ _ _ _ _ _ _ _ _ _ _ _ _ _ _ _ _ _ _ _ _ _ _ _ _ _ _ _ _ _ _ _ _ _ _ _ _ _ _ _ _ _ []) (by decide) rfl rfl ?_
            refine j_aload dX8_areCopiesLike_29 rfl rfl ?_
            refine j_aload_n dX8_areCopiesLike_31 rfl rfl ?_
            refine j_callV (q := (RX4, TX4, 5)) dX8_areCopiesLike_32 kX4_hasPairsOf lX8_230 inX4_hasPairsOf seX4_hasPairsOf rfl rfl (z_frame [46, 47, 48, 49, 50, 16, 17, 18, 19, 20] rfl (by decide) (Nat.le_of_ble_eq_true rfl) (c_X4_hasPairsOf_e hl true _ _ _ _ false _ _ _ U ht46 hU)) (Nat.le_of_ble_eq_true rfl) ⟨(Nat.le_of_ble_eq_true rfl), (Nat.le_of_ble_eq_true rfl)⟩ rfl (Nat.le_of_ble_eq_true rfl) rfl rfl (fun _ _ h => h.elim) ?_
            rintro _ _ ⟨_, _, ⟨rfl, rfl⟩, rfl, rfl⟩
            refine j_ws (L' := z_cw _ _ _ _ _ _ _ _ _ _ _ _ _ _ _ _ _ _ _ _ _ _ _ _ _ _ _ _ _ _ _ _ _ _ _ _ _ _ _ _ _ _ _ _ _ _ _ _ _ _ _ _ _ _ _ _ []) (by decide) rfl rfl ?_
            refine j_if_ne (tgt := 40) dX8_areCopiesLike_35 (by decide) (fun c_35 => ?_) (fun c_35 => ?_)
            · have hb35 := z_bt c_35
              refine j_iinc (lo' := [(4, _), (5, _), (3, _), (2, _), (0, _), (1, _)]) dX8_areCopiesLike_40 rfl rfl (by decide) rfl ?_
              refine j_goto (tgt := 11) dX8_areCopiesLike_43 (by decide) ?_
              refine j_iload dX8_areCopiesLike_11 rfl ?_
              refine j_iload_n dX8_areCopiesLike_13 rfl ?_
              refine j_icmp_ge (tgt := 46) dX8_areCopiesLike_14 (by decide) (fun c_14 => ?_) (fun c_14 => ?_)
              · refine j_iconst (v := 1) dX8_areCopiesLike_46 (by decide) ?_
                refine j_iret dX8_areCopiesLike_47 rfl rfl ?_ (Nat.le_of_ble_eq_true rfl) (Nat.le_of_ble_eq_true rfl)
                exact ⟨rfl, (by first | exact z_cwl | rfl), rfl, _, _, _, _, _, _, _, _, _, _, _, _, sp_m20 ht35.len, sp_m20 ht41.len, sp_m20 ht46.len, rfl⟩
              · exact absurd (by decide) c_14
            · have hb35 := z_bF c_35
              exact absurd (hb35.symm.trans (sp_lik1 (fun j _ => sp_lk_cp hU.1))) (by decide)
        · have hb35 := z_bF c_35
          exact absurd (hb35.symm.trans (sp_lik1 (fun j _ => sp_lk_cp hU.1))) (by decide)
    · have hb35 := z_bF c_35
      exact absurd (hb35.symm.trans (sp_lik1 (fun j _ => sp_lk_cp hU.1))) (by decide)
set_option maxRecDepth 100000 in
set_option maxHeartbeats 16000000 in
theorem c_X8_isCallLike_1_e (hl : l.stackTraces = false) (rf : Int32) (kn : Int32) (ma : Int32) (xa : Bool) (fa : Nat → Int32) (ca : Nat → Int32) (mb : Int32) (xb : Bool) (fb : Nat → Int32) (cb : Nat → Int32) (mt : Int32) (ft : Nat → Int32) (ct : Nat → Int32) (f0 : Nat → Int32) (g0 : Nat → Int32) (c0 : Nat → Int32) (m0 : Int32) (f1 : Nat → Int32) (g1 : Nat → Int32) (c1 : Nat → Int32) (f2 : Nat → Int32) (g2 : Nat → Int32) (c2 : Nat → Int32) (m2 : Int32) (f3 : Nat → Int32) (g3 : Nat → Int32) (c3 : Nat → Int32) (m3 : Int32) (f4 : Nat → Int32) (g4 : Nat → Int32) (c4 : Nat → Int32) (m4 : Int32) (f5 : Nat → Int32) (g5 : Nat → Int32) (c5 : Nat → Int32) (m5 : Int32) (ek0 : Int32) (em0 : Int32) (es0 : Int32) (el0 : Int32) (b0 : Int32) (ef0 : Nat → Int32) (ek1 : Int32) (em1 : Int32) (es1 : Int32) (el1 : Int32) (b1 : Int32) (ef1 : Nat → Int32) (U : List (Nat × Int32)) (p : Int32) (k : Nat) (t : Int32) (hU : z_tba f1 g1 U) (hk : k < 20) : z_CF G l mX8_isCallLike 17 0 0 (z_cw rf kn ma xa fa ca mb xb fb cb mt false ft ct f0 g0 c0 m0 0 f1 g1 c1 (nI U.length) 0 f2 g2 c2 m2 1 f3 g3 c3 m3 0 f4 g4 c4 m4 0 f5 g5 c5 m5 1 ek0 em0 es0 el0 b0 ef0 ek1 em1 es1 el1 b1 ef1 []) [.ref 0, .ref 16, .int p, .int (nI k), .int t] (fun v L => v = some (.int 1) ∧ ∃ (f3' g3' c3' : Nat → Int32) (m3' : Int32) (f4' g4' c4' : Nat → Int32) (m4' : Int32) (f5' g5' c5' : Nat → Int32) (m5' : Int32), z_m20 m3' ∧ z_m20 m4' ∧ z_m20 m5' ∧ L = (z_cw rf kn ma xa fa ca mb xb fb cb mt false ft ct f0 g0 c0 m0 0 f1 g1 c1 (nI U.length) 0 f2 g2 c2 m2 1 f3' g3' c3' m3' 0 f4' g4' c4' m4' 0 f5' g5' c5' m5' 1 ek0 em0 es0 el0 b0 ef0 ek1 em1 es1 el1 b1 ef1 [])) := by
  refine z_body hl (by decide) rfl (Nat.le_of_ble_eq_true rfl) ?_
  show z_J G l mX8_isCallLike (z_SF 17 0 0 (z_cw rf kn ma xa fa ca mb xb fb cb mt false ft ct f0 g0 c0 m0 0 f1 g1 c1 (nI U.length) 0 f2 g2 c2 m2 1 f3 g3 c3 m3 0 f4 g4 c4 m4 0 f5 g5 c5 m5 1 ek0 em0 es0 el0 b0 ef0 ek1 em1 es1 el1 b1 ef1 []) (fun v L => v = some (.int 1) ∧ ∃ (f3' g3' c3' : Nat → Int32) (m3' : Int32) (f4' g4' c4' : Nat → Int32) (m4' : Int32) (f5' g5' c5' : Nat → Int32) (m5' : Int32), z_m20 m3' ∧ z_m20 m4' ∧ z_m20 m5' ∧ L = (z_cw rf kn ma xa fa ca mb xb fb cb mt false ft ct f0 g0 c0 m0 0 f1 g1 c1 (nI U.length) 0 f2 g2 c2 m2 1 f3' g3' c3' m3' 0 f4' g4' c4' m4' 0 f5' g5' c5' m5' 1 ek0 em0 es0 el0 b0 ef0 ek1 em1 es1 el1 b1 ef1 []))) 0 [(0, _), (1, _), (2, _), (3, _), (4, _)] [] _ 0 0
  refine j_iconst (v := 0) dX8_isCallLike_0 (by decide) ?_
  refine j_istore (lo' := [(5, _), (0, _), (1, _), (2, _), (3, _), (4, _)]) dX8_isCallLike_1 (by decide) rfl ?_
  refine j_aload_n dX8_isCallLike_3 rfl rfl ?_
  refine j_getf dX8_isCallLike_4 fX8_43 rfl rfl ?_
  refine j_astore (lo' := [(6, _), (5, _), (0, _), (1, _), (2, _), (3, _), (4, _)]) dX8_isCallLike_7 rfl (by decide) rfl ?_
  refine j_aload dX8_isCallLike_9 rfl rfl ?_
  refine j_alen dX8_isCallLike_11 rfl rfl rfl ?_
  refine j_istore (lo' := [(7, _), (6, _), (5, _), (0, _), (1, _), (2, _), (3, _), (4, _)]) dX8_isCallLike_12 (by decide) rfl ?_
  refine j_iconst (v := 0) dX8_isCallLike_14 (by decide) ?_
  refine j_istore (lo' := [(8, _), (7, _), (6, _), (5, _), (0, _), (1, _), (2, _), (3, _), (4, _)]) dX8_isCallLike_15 (by decide) rfl ?_
  refine j_iload dX8_isCallLike_17 rfl ?_
  refine j_iload dX8_isCallLike_19 rfl ?_
  refine j_icmp_ge (tgt := 160) dX8_isCallLike_21 (by decide) (fun c_21 => ?_) (fun c_21 => ?_)
  · exact absurd c_21 (by decide)
  · refine j_aload dX8_isCallLike_24 rfl rfl ?_
    refine j_iload dX8_isCallLike_26 rfl ?_
    refine j_aald (v := .ref 35) dX8_isCallLike_28 rfl rfl rfl (vp_in_iff.mpr (by decide)) rfl ?_
    refine j_astore (lo' := [(9, _), (8, _), (7, _), (6, _), (5, _), (0, _), (1, _), (2, _), (3, _), (4, _)]) dX8_isCallLike_29 rfl (by decide) rfl ?_
    refine j_aload dX8_isCallLike_31 rfl rfl ?_
    refine j_aload_n dX8_isCallLike_33 rfl rfl ?_
    refine j_callV (q := (RX4, TX4, 5)) dX8_isCallLike_34 kX4_become lX8_344 inX4_become seX4_become rfl rfl (z_frame [35, 36, 37, 38, 39, 16, 17, 18, 19, 20] rfl (by decide) (Nat.le_of_ble_eq_true rfl) (c_X4_become_e hl false _ _ _ _ false _ _ _ U hU)) (Nat.le_of_ble_eq_true rfl) ⟨(Nat.le_of_ble_eq_true rfl), (Nat.le_of_ble_eq_true rfl)⟩ rfl (Nat.le_of_ble_eq_true rfl) rfl rfl (fun _ _ h => h.elim) ?_
    rintro _ _ ⟨_, _, ⟨rfl, f35, g35, ht35, rfl⟩, rfl, rfl⟩
    refine j_ws (L' := z_cw _ _ _ _ _ _ _ _ _ _ _ _ _ _ _ _ _ _ _ _ _ _ _ _ _ _ _ _ _ _ _ _ _ _ _ _ _ _ _ _ _ _ _ _ _ _ _ _ _ _ _ _ _ _ _ _ []) (by decide) rfl rfl ?_
    refine j_iload_n dX8_isCallLike_37 rfl ?_
    rcases z_sw3 p with rfl | rfl | rfl | hp
    · refine j_tsIn (tgt := 64) dX8_isCallLike_38 (by decide) (by decide) rfl (by decide) ?_
      refine j_aload dX8_isCallLike_64 rfl rfl ?_
      refine j_iload_n dX8_isCallLike_66 rfl ?_
      refine j_iload dX8_isCallLike_67 rfl ?_
      refine j_iconst (v := 1) dX8_isCallLike_69 (by decide) ?_
      refine j_callV (q := (RX4, TX4, 5)) dX8_isCallLike_70 kX4_reckon lX8_151 inX4_reckon seX4_reckon rfl rfl (z_frame [35, 36, 37, 38, 39] rfl (by decide) (Nat.le_of_ble_eq_true rfl) (c_X4_reckon_e hl false _ _ _ _ k t 1 ht35 hk so_v1)) (Nat.le_of_ble_eq_true rfl) ⟨(Nat.le_of_ble_eq_true rfl), (Nat.le_of_ble_eq_true rfl)⟩ rfl (Nat.le_of_ble_eq_true rfl) rfl rfl (fun _ _ h => h.elim) ?_
      rintro _ _ ⟨_, _, ⟨rfl, f35, g35, ht35, rfl⟩, rfl, rfl⟩
      refine j_ws (L' := z_cw _ _ _ _ _ _ _ _ _ _ _ _ _ _ _ _ _ _ _ _ _ _ _ _ _ _ _ _ _ _ _ _ _ _ _ _ _ _ _ _ _ _ _ _ _ _ _ _ _ _ _ _ _ _ _ _ []) (by decide) rfl rfl ?_
      refine j_istore (lo' := [(10, _), (9, _), (8, _), (7, _), (6, _), (5, _), (0, _), (1, _), (2, _), (3, _), (4, _)]) dX8_isCallLike_73 (by decide) rfl ?_
      refine j_goto (tgt := 117) dX8_isCallLike_75 (by decide) ?_
      refine j_aload dX8_isCallLike_117 rfl rfl ?_
      refine j_aload_n dX8_isCallLike_119 rfl rfl ?_
      refine j_getf dX8_isCallLike_120 fX8_40 rfl rfl ?_
      refine j_acmp_ne (tgt := 133) dX8_isCallLike_123 (by decide) (fun c_123 => ?_) (fun c_123 => ?_)
      · exact absurd rfl c_123
      · refine j_iload dX8_isCallLike_126 rfl ?_
        refine j_istore (lo' := [(5, _), (10, _), (9, _), (8, _), (7, _), (6, _), (0, _), (1, _), (2, _), (3, _), (4, _)]) dX8_isCallLike_128 (by decide) rfl ?_
        refine j_goto (tgt := 154) dX8_isCallLike_130 (by decide) ?_
        refine j_iinc (lo' := [(8, _), (5, _), (10, _), (9, _), (7, _), (6, _), (0, _), (1, _), (2, _), (3, _), (4, _)]) dX8_isCallLike_154 rfl rfl (by decide) rfl ?_
        refine j_goto (tgt := 17) dX8_isCallLike_157 (by decide) ?_
        refine j_iload dX8_isCallLike_17 rfl ?_
        refine j_iload dX8_isCallLike_19 rfl ?_
        refine j_icmp_ge (tgt := 160) dX8_isCallLike_21 (by decide) (fun c_21 => ?_) (fun c_21 => ?_)
        · exact absurd c_21 (by decide)
        · refine j_aload dX8_isCallLike_24 rfl rfl ?_
          refine j_iload dX8_isCallLike_26 rfl ?_
          refine j_aald (v := .ref 41) dX8_isCallLike_28 rfl rfl rfl (vp_in_iff.mpr (by decide)) rfl ?_
          refine j_astore (lo' := [(9, _), (8, _), (5, _), (10, _), (7, _), (6, _), (0, _), (1, _), (2, _), (3, _), (4, _)]) dX8_isCallLike_29 rfl (by decide) rfl ?_
          refine j_aload dX8_isCallLike_31 rfl rfl ?_
          refine j_aload_n dX8_isCallLike_33 rfl rfl ?_
          refine j_callV (q := (RX4, TX4, 5)) dX8_isCallLike_34 kX4_become lX8_344 inX4_become seX4_become rfl rfl (z_frame [41, 42, 43, 44, 45, 16, 17, 18, 19, 20] rfl (by decide) (Nat.le_of_ble_eq_true rfl) (c_X4_become_e hl false _ _ _ _ false _ _ _ U hU)) (Nat.le_of_ble_eq_true rfl) ⟨(Nat.le_of_ble_eq_true rfl), (Nat.le_of_ble_eq_true rfl)⟩ rfl (Nat.le_of_ble_eq_true rfl) rfl rfl (fun _ _ h => h.elim) ?_
          rintro _ _ ⟨_, _, ⟨rfl, f41, g41, ht41, rfl⟩, rfl, rfl⟩
          refine j_ws (L' := z_cw _ _ _ _ _ _ _ _ _ _ _ _ _ _ _ _ _ _ _ _ _ _ _ _ _ _ _ _ _ _ _ _ _ _ _ _ _ _ _ _ _ _ _ _ _ _ _ _ _ _ _ _ _ _ _ _ []) (by decide) rfl rfl ?_
          refine j_iload_n dX8_isCallLike_37 rfl ?_
          refine j_tsIn (tgt := 64) dX8_isCallLike_38 (by decide) (by decide) rfl (by decide) ?_
          refine j_aload dX8_isCallLike_64 rfl rfl ?_
          refine j_iload_n dX8_isCallLike_66 rfl ?_
          refine j_iload dX8_isCallLike_67 rfl ?_
          refine j_iconst (v := 1) dX8_isCallLike_69 (by decide) ?_
          refine j_callV (q := (RX4, TX4, 5)) dX8_isCallLike_70 kX4_reckon lX8_151 inX4_reckon seX4_reckon rfl rfl (z_frame [41, 42, 43, 44, 45] rfl (by decide) (Nat.le_of_ble_eq_true rfl) (c_X4_reckon_e hl false _ _ _ _ k t 1 ht41 hk so_v1)) (Nat.le_of_ble_eq_true rfl) ⟨(Nat.le_of_ble_eq_true rfl), (Nat.le_of_ble_eq_true rfl)⟩ rfl (Nat.le_of_ble_eq_true rfl) rfl rfl (fun _ _ h => h.elim) ?_
          rintro _ _ ⟨_, _, ⟨rfl, f41, g41, ht41, rfl⟩, rfl, rfl⟩
          refine j_ws (L' := z_cw _ _ _ _ _ _ _ _ _ _ _ _ _ _ _ _ _ _ _ _ _ _ _ _ _ _ _ _ _ _ _ _ _ _ _ _ _ _ _ _ _ _ _ _ _ _ _ _ _ _ _ _ _ _ _ _ []) (by decide) rfl rfl ?_
          refine j_istore (lo' := [(10, _), (9, _), (8, _), (5, _), (7, _), (6, _), (0, _), (1, _), (2, _), (3, _), (4, _)]) dX8_isCallLike_73 (by decide) rfl ?_
          refine j_goto (tgt := 117) dX8_isCallLike_75 (by decide) ?_
          refine j_aload dX8_isCallLike_117 rfl rfl ?_
          refine j_aload_n dX8_isCallLike_119 rfl rfl ?_
          refine j_getf dX8_isCallLike_120 fX8_40 rfl rfl ?_
          refine j_acmp_ne (tgt := 133) dX8_isCallLike_123 (by decide) (fun c_123 => ?_) (fun c_123 => ?_)
          · refine j_iload dX8_isCallLike_133 rfl ?_
            refine j_iload dX8_isCallLike_135 rfl ?_
            refine j_icmp_ne (tgt := 152) dX8_isCallLike_137 (by decide) (fun c_137 => ?_) (fun c_137 => ?_)
            · exact (c_137 (congrArg (fun z => Option.getD z (-1001)) (so_0 (b := false) (b' := false) (k := k) (r := t) hU.1).1)).elim
            · refine j_aload dX8_isCallLike_140 rfl rfl ?_
              refine j_aload_n dX8_isCallLike_142 rfl rfl ?_
              refine j_getf dX8_isCallLike_143 fX8_40 rfl rfl ?_
              refine j_callV (q := (RX4, TX4, 5)) dX8_isCallLike_146 kX4_hasPairsOf lX8_230 inX4_hasPairsOf seX4_hasPairsOf rfl rfl (z_frame [41, 42, 43, 44, 45, 35, 36, 37, 38, 39] rfl (by decide) (Nat.le_of_ble_eq_true rfl) (c_X4_hasPairsOf_e hl false _ _ _ _ false _ _ _ _ ht41 ht35)) (Nat.le_of_ble_eq_true rfl) ⟨(Nat.le_of_ble_eq_true rfl), (Nat.le_of_ble_eq_true rfl)⟩ rfl (Nat.le_of_ble_eq_true rfl) rfl rfl (fun _ _ h => h.elim) ?_
              rintro _ _ ⟨_, _, ⟨rfl, rfl⟩, rfl, rfl⟩
              refine j_ws (L' := z_cw _ _ _ _ _ _ _ _ _ _ _ _ _ _ _ _ _ _ _ _ _ _ _ _ _ _ _ _ _ _ _ _ _ _ _ _ _ _ _ _ _ _ _ _ _ _ _ _ _ _ _ _ _ _ _ _ []) (by decide) rfl rfl ?_
              refine j_if_ne (tgt := 154) dX8_isCallLike_149 (by decide) (fun c_149 => ?_) (fun c_149 => ?_)
              · have hb149 := z_bt c_149
                refine j_iinc (lo' := [(8, _), (10, _), (9, _), (5, _), (7, _), (6, _), (0, _), (1, _), (2, _), (3, _), (4, _)]) dX8_isCallLike_154 rfl rfl (by decide) rfl ?_
                refine j_goto (tgt := 17) dX8_isCallLike_157 (by decide) ?_
                refine j_iload dX8_isCallLike_17 rfl ?_
                refine j_iload dX8_isCallLike_19 rfl ?_
                refine j_icmp_ge (tgt := 160) dX8_isCallLike_21 (by decide) (fun c_21 => ?_) (fun c_21 => ?_)
                · exact absurd c_21 (by decide)
                · refine j_aload dX8_isCallLike_24 rfl rfl ?_
                  refine j_iload dX8_isCallLike_26 rfl ?_
                  refine j_aald (v := .ref 46) dX8_isCallLike_28 rfl rfl rfl (vp_in_iff.mpr (by decide)) rfl ?_
                  refine j_astore (lo' := [(9, _), (8, _), (10, _), (5, _), (7, _), (6, _), (0, _), (1, _), (2, _), (3, _), (4, _)]) dX8_isCallLike_29 rfl (by decide) rfl ?_
                  refine j_aload dX8_isCallLike_31 rfl rfl ?_
                  refine j_aload_n dX8_isCallLike_33 rfl rfl ?_
                  refine j_callV (q := (RX4, TX4, 5)) dX8_isCallLike_34 kX4_become lX8_344 inX4_become seX4_become rfl rfl (z_frame [46, 47, 48, 49, 50, 16, 17, 18, 19, 20] rfl (by decide) (Nat.le_of_ble_eq_true rfl) (c_X4_become_e hl true _ _ _ _ false _ _ _ U hU)) (Nat.le_of_ble_eq_true rfl) ⟨(Nat.le_of_ble_eq_true rfl), (Nat.le_of_ble_eq_true rfl)⟩ rfl (Nat.le_of_ble_eq_true rfl) rfl rfl (fun _ _ h => h.elim) ?_
                  rintro _ _ ⟨_, _, ⟨rfl, f46, g46, ht46, rfl⟩, rfl, rfl⟩
                  refine j_ws (L' := z_cw _ _ _ _ _ _ _ _ _ _ _ _ _ _ _ _ _ _ _ _ _ _ _ _ _ _ _ _ _ _ _ _ _ _ _ _ _ _ _ _ _ _ _ _ _ _ _ _ _ _ _ _ _ _ _ _ []) (by decide) rfl rfl ?_
                  refine j_iload_n dX8_isCallLike_37 rfl ?_
                  refine j_tsIn (tgt := 64) dX8_isCallLike_38 (by decide) (by decide) rfl (by decide) ?_
                  refine j_aload dX8_isCallLike_64 rfl rfl ?_
                  refine j_iload_n dX8_isCallLike_66 rfl ?_
                  refine j_iload dX8_isCallLike_67 rfl ?_
                  refine j_iconst (v := 1) dX8_isCallLike_69 (by decide) ?_
                  refine j_callV (q := (RX4, TX4, 5)) dX8_isCallLike_70 kX4_reckon lX8_151 inX4_reckon seX4_reckon rfl rfl (z_frame [46, 47, 48, 49, 50] rfl (by decide) (Nat.le_of_ble_eq_true rfl) (c_X4_reckon_e hl true _ _ _ _ k t 1 ht46 hk so_v1)) (Nat.le_of_ble_eq_true rfl) ⟨(Nat.le_of_ble_eq_true rfl), (Nat.le_of_ble_eq_true rfl)⟩ rfl (Nat.le_of_ble_eq_true rfl) rfl rfl (fun _ _ h => h.elim) ?_
                  rintro _ _ ⟨_, _, ⟨rfl, f46, g46, ht46, rfl⟩, rfl, rfl⟩
                  refine j_ws (L' := z_cw _ _ _ _ _ _ _ _ _ _ _ _ _ _ _ _ _ _ _ _ _ _ _ _ _ _ _ _ _ _ _ _ _ _ _ _ _ _ _ _ _ _ _ _ _ _ _ _ _ _ _ _ _ _ _ _ []) (by decide) rfl rfl ?_
                  refine j_istore (lo' := [(10, _), (9, _), (8, _), (5, _), (7, _), (6, _), (0, _), (1, _), (2, _), (3, _), (4, _)]) dX8_isCallLike_73 (by decide) rfl ?_
                  refine j_goto (tgt := 117) dX8_isCallLike_75 (by decide) ?_
                  refine j_aload dX8_isCallLike_117 rfl rfl ?_
                  refine j_aload_n dX8_isCallLike_119 rfl rfl ?_
                  refine j_getf dX8_isCallLike_120 fX8_40 rfl rfl ?_
                  refine j_acmp_ne (tgt := 133) dX8_isCallLike_123 (by decide) (fun c_123 => ?_) (fun c_123 => ?_)
                  · refine j_iload dX8_isCallLike_133 rfl ?_
                    refine j_iload dX8_isCallLike_135 rfl ?_
                    refine j_icmp_ne (tgt := 152) dX8_isCallLike_137 (by decide) (fun c_137 => ?_) (fun c_137 => ?_)
                    · exact (c_137 (congrArg (fun z => Option.getD z (-1001)) (so_0 (b := true) (b' := false) (k := k) (r := t) hU.1).1)).elim
                    · refine j_aload dX8_isCallLike_140 rfl rfl ?_
                      refine j_aload_n dX8_isCallLike_142 rfl rfl ?_
                      refine j_getf dX8_isCallLike_143 fX8_40 rfl rfl ?_
                      refine j_callV (q := (RX4, TX4, 5)) dX8_isCallLike_146 kX4_hasPairsOf lX8_230 inX4_hasPairsOf seX4_hasPairsOf rfl rfl (z_frame [46, 47, 48, 49, 50, 35, 36, 37, 38, 39] rfl (by decide) (Nat.le_of_ble_eq_true rfl) (c_X4_hasPairsOf_e hl true _ _ _ _ false _ _ _ _ ht46 ht35)) (Nat.le_of_ble_eq_true rfl) ⟨(Nat.le_of_ble_eq_true rfl), (Nat.le_of_ble_eq_true rfl)⟩ rfl (Nat.le_of_ble_eq_true rfl) rfl rfl (fun _ _ h => h.elim) ?_
                      rintro _ _ ⟨_, _, ⟨rfl, rfl⟩, rfl, rfl⟩
                      refine j_ws (L' := z_cw _ _ _ _ _ _ _ _ _ _ _ _ _ _ _ _ _ _ _ _ _ _ _ _ _ _ _ _ _ _ _ _ _ _ _ _ _ _ _ _ _ _ _ _ _ _ _ _ _ _ _ _ _ _ _ _ []) (by decide) rfl rfl ?_
                      refine j_if_ne (tgt := 154) dX8_isCallLike_149 (by decide) (fun c_149 => ?_) (fun c_149 => ?_)
                      · have hb149 := z_bt c_149
                        refine j_iinc (lo' := [(8, _), (10, _), (9, _), (5, _), (7, _), (6, _), (0, _), (1, _), (2, _), (3, _), (4, _)]) dX8_isCallLike_154 rfl rfl (by decide) rfl ?_
                        refine j_goto (tgt := 17) dX8_isCallLike_157 (by decide) ?_
                        refine j_iload dX8_isCallLike_17 rfl ?_
                        refine j_iload dX8_isCallLike_19 rfl ?_
                        refine j_icmp_ge (tgt := 160) dX8_isCallLike_21 (by decide) (fun c_21 => ?_) (fun c_21 => ?_)
                        · refine j_iconst (v := 1) dX8_isCallLike_160 (by decide) ?_
                          refine j_iret dX8_isCallLike_161 rfl rfl ?_ (Nat.le_of_ble_eq_true rfl) (Nat.le_of_ble_eq_true rfl)
                          exact ⟨rfl, (by first | exact z_cwl | rfl), rfl, _, _, _, _, _, _, _, _, _, _, _, _, sp_m20 ht35.len, sp_m20 ht41.len, sp_m20 ht46.len, rfl⟩
                        · exact absurd (by decide) c_21
                      · have hb149 := z_bF c_149
                        exact absurd (hb149.symm.trans (sp_lik1 (fun j _ => (so_0 (b := true) (b' := false) (k := k) (r := t) hU.1).2 j))) (by decide)
                  · exact absurd c_123 (by decide)
              · have hb149 := z_bF c_149
                exact absurd (hb149.symm.trans (sp_lik1 (fun j _ => (so_0 (b := false) (b' := false) (k := k) (r := t) hU.1).2 j))) (by decide)
          · exact absurd c_123 (by decide)
    · refine j_tsIn (tgt := 78) dX8_isCallLike_38 (by decide) (by decide) rfl (by decide) ?_
      refine j_aload dX8_isCallLike_78 rfl rfl ?_
      refine j_iload_n dX8_isCallLike_80 rfl ?_
      refine j_iload dX8_isCallLike_81 rfl ?_
      refine j_iconst (v := 1) dX8_isCallLike_83 (by decide) ?_
      refine j_callV (q := (RX4, TX4, 5)) dX8_isCallLike_84 kX4_reckonAbsent lX8_144 inX4_reckonAbsent seX4_reckonAbsent rfl rfl (z_frame [35, 36, 37, 38, 39] rfl (by decide) (Nat.le_of_ble_eq_true rfl) (c_X4_reckonAbsent_e hl false _ _ _ _ k t 1 ht35 hk so_v1)) (Nat.le_of_ble_eq_true rfl) ⟨(Nat.le_of_ble_eq_true rfl), (Nat.le_of_ble_eq_true rfl)⟩ rfl (Nat.le_of_ble_eq_true rfl) rfl rfl (fun _ _ h => h.elim) ?_
      rintro _ _ ⟨_, _, ⟨rfl, f35, g35, ht35, rfl⟩, rfl, rfl⟩
      refine j_ws (L' := z_cw _ _ _ _ _ _ _ _ _ _ _ _ _ _ _ _ _ _ _ _ _ _ _ _ _ _ _ _ _ _ _ _ _ _ _ _ _ _ _ _ _ _ _ _ _ _ _ _ _ _ _ _ _ _ _ _ []) (by decide) rfl rfl ?_
      refine j_istore (lo' := [(10, _), (9, _), (8, _), (7, _), (6, _), (5, _), (0, _), (1, _), (2, _), (3, _), (4, _)]) dX8_isCallLike_87 (by decide) rfl ?_
      refine j_goto (tgt := 117) dX8_isCallLike_89 (by decide) ?_
      refine j_aload dX8_isCallLike_117 rfl rfl ?_
      refine j_aload_n dX8_isCallLike_119 rfl rfl ?_
      refine j_getf dX8_isCallLike_120 fX8_40 rfl rfl ?_
      refine j_acmp_ne (tgt := 133) dX8_isCallLike_123 (by decide) (fun c_123 => ?_) (fun c_123 => ?_)
      · exact absurd rfl c_123
      · refine j_iload dX8_isCallLike_126 rfl ?_
        refine j_istore (lo' := [(5, _), (10, _), (9, _), (8, _), (7, _), (6, _), (0, _), (1, _), (2, _), (3, _), (4, _)]) dX8_isCallLike_128 (by decide) rfl ?_
        refine j_goto (tgt := 154) dX8_isCallLike_130 (by decide) ?_
        refine j_iinc (lo' := [(8, _), (5, _), (10, _), (9, _), (7, _), (6, _), (0, _), (1, _), (2, _), (3, _), (4, _)]) dX8_isCallLike_154 rfl rfl (by decide) rfl ?_
        refine j_goto (tgt := 17) dX8_isCallLike_157 (by decide) ?_
        refine j_iload dX8_isCallLike_17 rfl ?_
        refine j_iload dX8_isCallLike_19 rfl ?_
        refine j_icmp_ge (tgt := 160) dX8_isCallLike_21 (by decide) (fun c_21 => ?_) (fun c_21 => ?_)
        · exact absurd c_21 (by decide)
        · refine j_aload dX8_isCallLike_24 rfl rfl ?_
          refine j_iload dX8_isCallLike_26 rfl ?_
          refine j_aald (v := .ref 41) dX8_isCallLike_28 rfl rfl rfl (vp_in_iff.mpr (by decide)) rfl ?_
          refine j_astore (lo' := [(9, _), (8, _), (5, _), (10, _), (7, _), (6, _), (0, _), (1, _), (2, _), (3, _), (4, _)]) dX8_isCallLike_29 rfl (by decide) rfl ?_
          refine j_aload dX8_isCallLike_31 rfl rfl ?_
          refine j_aload_n dX8_isCallLike_33 rfl rfl ?_
          refine j_callV (q := (RX4, TX4, 5)) dX8_isCallLike_34 kX4_become lX8_344 inX4_become seX4_become rfl rfl (z_frame [41, 42, 43, 44, 45, 16, 17, 18, 19, 20] rfl (by decide) (Nat.le_of_ble_eq_true rfl) (c_X4_become_e hl false _ _ _ _ false _ _ _ U hU)) (Nat.le_of_ble_eq_true rfl) ⟨(Nat.le_of_ble_eq_true rfl), (Nat.le_of_ble_eq_true rfl)⟩ rfl (Nat.le_of_ble_eq_true rfl) rfl rfl (fun _ _ h => h.elim) ?_
          rintro _ _ ⟨_, _, ⟨rfl, f41, g41, ht41, rfl⟩, rfl, rfl⟩
          refine j_ws (L' := z_cw _ _ _ _ _ _ _ _ _ _ _ _ _ _ _ _ _ _ _ _ _ _ _ _ _ _ _ _ _ _ _ _ _ _ _ _ _ _ _ _ _ _ _ _ _ _ _ _ _ _ _ _ _ _ _ _ []) (by decide) rfl rfl ?_
          refine j_iload_n dX8_isCallLike_37 rfl ?_
          refine j_tsIn (tgt := 78) dX8_isCallLike_38 (by decide) (by decide) rfl (by decide) ?_
          refine j_aload dX8_isCallLike_78 rfl rfl ?_
          refine j_iload_n dX8_isCallLike_80 rfl ?_
          refine j_iload dX8_isCallLike_81 rfl ?_
          refine j_iconst (v := 1) dX8_isCallLike_83 (by decide) ?_
          refine j_callV (q := (RX4, TX4, 5)) dX8_isCallLike_84 kX4_reckonAbsent lX8_144 inX4_reckonAbsent seX4_reckonAbsent rfl rfl (z_frame [41, 42, 43, 44, 45] rfl (by decide) (Nat.le_of_ble_eq_true rfl) (c_X4_reckonAbsent_e hl false _ _ _ _ k t 1 ht41 hk so_v1)) (Nat.le_of_ble_eq_true rfl) ⟨(Nat.le_of_ble_eq_true rfl), (Nat.le_of_ble_eq_true rfl)⟩ rfl (Nat.le_of_ble_eq_true rfl) rfl rfl (fun _ _ h => h.elim) ?_
          rintro _ _ ⟨_, _, ⟨rfl, f41, g41, ht41, rfl⟩, rfl, rfl⟩
          refine j_ws (L' := z_cw _ _ _ _ _ _ _ _ _ _ _ _ _ _ _ _ _ _ _ _ _ _ _ _ _ _ _ _ _ _ _ _ _ _ _ _ _ _ _ _ _ _ _ _ _ _ _ _ _ _ _ _ _ _ _ _ []) (by decide) rfl rfl ?_
          refine j_istore (lo' := [(10, _), (9, _), (8, _), (5, _), (7, _), (6, _), (0, _), (1, _), (2, _), (3, _), (4, _)]) dX8_isCallLike_87 (by decide) rfl ?_
          refine j_goto (tgt := 117) dX8_isCallLike_89 (by decide) ?_
          refine j_aload dX8_isCallLike_117 rfl rfl ?_
          refine j_aload_n dX8_isCallLike_119 rfl rfl ?_
          refine j_getf dX8_isCallLike_120 fX8_40 rfl rfl ?_
          refine j_acmp_ne (tgt := 133) dX8_isCallLike_123 (by decide) (fun c_123 => ?_) (fun c_123 => ?_)
          · refine j_iload dX8_isCallLike_133 rfl ?_
            refine j_iload dX8_isCallLike_135 rfl ?_
            refine j_icmp_ne (tgt := 152) dX8_isCallLike_137 (by decide) (fun c_137 => ?_) (fun c_137 => ?_)
            · exact (c_137 (congrArg (fun z => Option.getD z (-1001)) (so_1 (b := false) (b' := false) (k := k) (r := t) hU.1).1)).elim
            · refine j_aload dX8_isCallLike_140 rfl rfl ?_
              refine j_aload_n dX8_isCallLike_142 rfl rfl ?_
              refine j_getf dX8_isCallLike_143 fX8_40 rfl rfl ?_
              refine j_callV (q := (RX4, TX4, 5)) dX8_isCallLike_146 kX4_hasPairsOf lX8_230 inX4_hasPairsOf seX4_hasPairsOf rfl rfl (z_frame [41, 42, 43, 44, 45, 35, 36, 37, 38, 39] rfl (by decide) (Nat.le_of_ble_eq_true rfl) (c_X4_hasPairsOf_e hl false _ _ _ _ false _ _ _ _ ht41 ht35)) (Nat.le_of_ble_eq_true rfl) ⟨(Nat.le_of_ble_eq_true rfl), (Nat.le_of_ble_eq_true rfl)⟩ rfl (Nat.le_of_ble_eq_true rfl) rfl rfl (fun _ _ h => h.elim) ?_
              rintro _ _ ⟨_, _, ⟨rfl, rfl⟩, rfl, rfl⟩
              refine j_ws (L' := z_cw _ _ _ _ _ _ _ _ _ _ _ _ _ _ _ _ _ _ _ _ _ _ _ _ _ _ _ _ _ _ _ _ _ _ _ _ _ _ _ _ _ _ _ _ _ _ _ _ _ _ _ _ _ _ _ _ []) (by decide) rfl rfl ?_
              refine j_if_ne (tgt := 154) dX8_isCallLike_149 (by decide) (fun c_149 => ?_) (fun c_149 => ?_)
              · have hb149 := z_bt c_149
                refine j_iinc (lo' := [(8, _), (10, _), (9, _), (5, _), (7, _), (6, _), (0, _), (1, _), (2, _), (3, _), (4, _)]) dX8_isCallLike_154 rfl rfl (by decide) rfl ?_
                refine j_goto (tgt := 17) dX8_isCallLike_157 (by decide) ?_
                refine j_iload dX8_isCallLike_17 rfl ?_
                refine j_iload dX8_isCallLike_19 rfl ?_
                refine j_icmp_ge (tgt := 160) dX8_isCallLike_21 (by decide) (fun c_21 => ?_) (fun c_21 => ?_)
                · exact absurd c_21 (by decide)
                · refine j_aload dX8_isCallLike_24 rfl rfl ?_
                  refine j_iload dX8_isCallLike_26 rfl ?_
                  refine j_aald (v := .ref 46) dX8_isCallLike_28 rfl rfl rfl (vp_in_iff.mpr (by decide)) rfl ?_
                  refine j_astore (lo' := [(9, _), (8, _), (10, _), (5, _), (7, _), (6, _), (0, _), (1, _), (2, _), (3, _), (4, _)]) dX8_isCallLike_29 rfl (by decide) rfl ?_
                  refine j_aload dX8_isCallLike_31 rfl rfl ?_
                  refine j_aload_n dX8_isCallLike_33 rfl rfl ?_
                  refine j_callV (q := (RX4, TX4, 5)) dX8_isCallLike_34 kX4_become lX8_344 inX4_become seX4_become rfl rfl (z_frame [46, 47, 48, 49, 50, 16, 17, 18, 19, 20] rfl (by decide) (Nat.le_of_ble_eq_true rfl) (c_X4_become_e hl true _ _ _ _ false _ _ _ U hU)) (Nat.le_of_ble_eq_true rfl) ⟨(Nat.le_of_ble_eq_true rfl), (Nat.le_of_ble_eq_true rfl)⟩ rfl (Nat.le_of_ble_eq_true rfl) rfl rfl (fun _ _ h => h.elim) ?_
                  rintro _ _ ⟨_, _, ⟨rfl, f46, g46, ht46, rfl⟩, rfl, rfl⟩
                  refine j_ws (L' := z_cw _ _ _ _ _ _ _ _ _ _ _ _ _ _ _ _ _ _ _ _ _ _ _ _ _ _ _ _ _ _ _ _ _ _ _ _ _ _ _ _ _ _ _ _ _ _ _ _ _ _ _ _ _ _ _ _ []) (by decide) rfl rfl ?_
                  refine j_iload_n dX8_isCallLike_37 rfl ?_
                  refine j_tsIn (tgt := 78) dX8_isCallLike_38 (by decide) (by decide) rfl (by decide) ?_
                  refine j_aload dX8_isCallLike_78 rfl rfl ?_
                  refine j_iload_n dX8_isCallLike_80 rfl ?_
                  refine j_iload dX8_isCallLike_81 rfl ?_
                  refine j_iconst (v := 1) dX8_isCallLike_83 (by decide) ?_
                  refine j_callV (q := (RX4, TX4, 5)) dX8_isCallLike_84 kX4_reckonAbsent lX8_144 inX4_reckonAbsent seX4_reckonAbsent rfl rfl (z_frame [46, 47, 48, 49, 50] rfl (by decide) (Nat.le_of_ble_eq_true rfl) (c_X4_reckonAbsent_e hl true _ _ _ _ k t 1 ht46 hk so_v1)) (Nat.le_of_ble_eq_true rfl) ⟨(Nat.le_of_ble_eq_true rfl), (Nat.le_of_ble_eq_true rfl)⟩ rfl (Nat.le_of_ble_eq_true rfl) rfl rfl (fun _ _ h => h.elim) ?_
                  rintro _ _ ⟨_, _, ⟨rfl, f46, g46, ht46, rfl⟩, rfl, rfl⟩
                  refine j_ws (L' := z_cw _ _ _ _ _ _ _ _ _ _ _ _ _ _ _ _ _ _ _ _ _ _ _ _ _ _ _ _ _ _ _ _ _ _ _ _ _ _ _ _ _ _ _ _ _ _ _ _ _ _ _ _ _ _ _ _ []) (by decide) rfl rfl ?_
                  refine j_istore (lo' := [(10, _), (9, _), (8, _), (5, _), (7, _), (6, _), (0, _), (1, _), (2, _), (3, _), (4, _)]) dX8_isCallLike_87 (by decide) rfl ?_
                  refine j_goto (tgt := 117) dX8_isCallLike_89 (by decide) ?_
                  refine j_aload dX8_isCallLike_117 rfl rfl ?_
                  refine j_aload_n dX8_isCallLike_119 rfl rfl ?_
                  refine j_getf dX8_isCallLike_120 fX8_40 rfl rfl ?_
                  refine j_acmp_ne (tgt := 133) dX8_isCallLike_123 (by decide) (fun c_123 => ?_) (fun c_123 => ?_)
                  · refine j_iload dX8_isCallLike_133 rfl ?_
                    refine j_iload dX8_isCallLike_135 rfl ?_
                    refine j_icmp_ne (tgt := 152) dX8_isCallLike_137 (by decide) (fun c_137 => ?_) (fun c_137 => ?_)
                    · exact (c_137 (congrArg (fun z => Option.getD z (-1001)) (so_1 (b := true) (b' := false) (k := k) (r := t) hU.1).1)).elim
                    · refine j_aload dX8_isCallLike_140 rfl rfl ?_
                      refine j_aload_n dX8_isCallLike_142 rfl rfl ?_
                      refine j_getf dX8_isCallLike_143 fX8_40 rfl rfl ?_
                      refine j_callV (q := (RX4, TX4, 5)) dX8_isCallLike_146 kX4_hasPairsOf lX8_230 inX4_hasPairsOf seX4_hasPairsOf rfl rfl (z_frame [46, 47, 48, 49, 50, 35, 36, 37, 38, 39] rfl (by decide) (Nat.le_of_ble_eq_true rfl) (c_X4_hasPairsOf_e hl true _ _ _ _ false _ _ _ _ ht46 ht35)) (Nat.le_of_ble_eq_true rfl) ⟨(Nat.le_of_ble_eq_true rfl), (Nat.le_of_ble_eq_true rfl)⟩ rfl (Nat.le_of_ble_eq_true rfl) rfl rfl (fun _ _ h => h.elim) ?_
                      rintro _ _ ⟨_, _, ⟨rfl, rfl⟩, rfl, rfl⟩
                      refine j_ws (L' := z_cw _ _ _ _ _ _ _ _ _ _ _ _ _ _ _ _ _ _ _ _ _ _ _ _ _ _ _ _ _ _ _ _ _ _ _ _ _ _ _ _ _ _ _ _ _ _ _ _ _ _ _ _ _ _ _ _ []) (by decide) rfl rfl ?_
                      refine j_if_ne (tgt := 154) dX8_isCallLike_149 (by decide) (fun c_149 => ?_) (fun c_149 => ?_)
                      · have hb149 := z_bt c_149
                        refine j_iinc (lo' := [(8, _), (10, _), (9, _), (5, _), (7, _), (6, _), (0, _), (1, _), (2, _), (3, _), (4, _)]) dX8_isCallLike_154 rfl rfl (by decide) rfl ?_
                        refine j_goto (tgt := 17) dX8_isCallLike_157 (by decide) ?_
                        refine j_iload dX8_isCallLike_17 rfl ?_
                        refine j_iload dX8_isCallLike_19 rfl ?_
                        refine j_icmp_ge (tgt := 160) dX8_isCallLike_21 (by decide) (fun c_21 => ?_) (fun c_21 => ?_)
                        · refine j_iconst (v := 1) dX8_isCallLike_160 (by decide) ?_
                          refine j_iret dX8_isCallLike_161 rfl rfl ?_ (Nat.le_of_ble_eq_true rfl) (Nat.le_of_ble_eq_true rfl)
                          exact ⟨rfl, (by first | exact z_cwl | rfl), rfl, _, _, _, _, _, _, _, _, _, _, _, _, sp_m20 ht35.len, sp_m20 ht41.len, sp_m20 ht46.len, rfl⟩
                        · exact absurd (by decide) c_21
                      · have hb149 := z_bF c_149
                        exact absurd (hb149.symm.trans (sp_lik1 (fun j _ => (so_1 (b := true) (b' := false) (k := k) (r := t) hU.1).2 j))) (by decide)
                  · exact absurd c_123 (by decide)
              · have hb149 := z_bF c_149
                exact absurd (hb149.symm.trans (sp_lik1 (fun j _ => (so_1 (b := false) (b' := false) (k := k) (r := t) hU.1).2 j))) (by decide)
          · exact absurd c_123 (by decide)
    · refine j_tsIn (tgt := 92) dX8_isCallLike_38 (by decide) (by decide) rfl (by decide) ?_
      refine j_aload dX8_isCallLike_92 rfl rfl ?_
      refine j_iload_n dX8_isCallLike_94 rfl ?_
      refine j_iload dX8_isCallLike_95 rfl ?_
      refine j_iconst (v := 1) dX8_isCallLike_97 (by decide) ?_
      refine j_callV (q := (RX4, TX4, 5)) dX8_isCallLike_98 kX4_reckonPresent lX8_148 inX4_reckonPresent seX4_reckonPresent rfl rfl (z_frame [35, 36, 37, 38, 39] rfl (by decide) (Nat.le_of_ble_eq_true rfl) (c_X4_reckonPresent_e hl false _ _ _ _ k t 1 ht35 hk so_v1)) (Nat.le_of_ble_eq_true rfl) ⟨(Nat.le_of_ble_eq_true rfl), (Nat.le_of_ble_eq_true rfl)⟩ rfl (Nat.le_of_ble_eq_true rfl) rfl rfl (fun _ _ h => h.elim) ?_
      rintro _ _ ⟨_, _, ⟨rfl, f35, g35, ht35, rfl⟩, rfl, rfl⟩
      refine j_ws (L' := z_cw _ _ _ _ _ _ _ _ _ _ _ _ _ _ _ _ _ _ _ _ _ _ _ _ _ _ _ _ _ _ _ _ _ _ _ _ _ _ _ _ _ _ _ _ _ _ _ _ _ _ _ _ _ _ _ _ []) (by decide) rfl rfl ?_
      refine j_istore (lo' := [(10, _), (9, _), (8, _), (7, _), (6, _), (5, _), (0, _), (1, _), (2, _), (3, _), (4, _)]) dX8_isCallLike_101 (by decide) rfl ?_
      refine j_goto (tgt := 117) dX8_isCallLike_103 (by decide) ?_
      refine j_aload dX8_isCallLike_117 rfl rfl ?_
      refine j_aload_n dX8_isCallLike_119 rfl rfl ?_
      refine j_getf dX8_isCallLike_120 fX8_40 rfl rfl ?_
      refine j_acmp_ne (tgt := 133) dX8_isCallLike_123 (by decide) (fun c_123 => ?_) (fun c_123 => ?_)
      · exact absurd rfl c_123
      · refine j_iload dX8_isCallLike_126 rfl ?_
        refine j_istore (lo' := [(5, _), (10, _), (9, _), (8, _), (7, _), (6, _), (0, _), (1, _), (2, _), (3, _), (4, _)]) dX8_isCallLike_128 (by decide) rfl ?_
        refine j_goto (tgt := 154) dX8_isCallLike_130 (by decide) ?_
        refine j_iinc (lo' := [(8, _), (5, _), (10, _), (9, _), (7, _), (6, _), (0, _), (1, _), (2, _), (3, _), (4, _)]) dX8_isCallLike_154 rfl rfl (by decide) rfl ?_
        refine j_goto (tgt := 17) dX8_isCallLike_157 (by decide) ?_
        refine j_iload dX8_isCallLike_17 rfl ?_
        refine j_iload dX8_isCallLike_19 rfl ?_
        refine j_icmp_ge (tgt := 160) dX8_isCallLike_21 (by decide) (fun c_21 => ?_) (fun c_21 => ?_)
        · exact absurd c_21 (by decide)
        · refine j_aload dX8_isCallLike_24 rfl rfl ?_
          refine j_iload dX8_isCallLike_26 rfl ?_
          refine j_aald (v := .ref 41) dX8_isCallLike_28 rfl rfl rfl (vp_in_iff.mpr (by decide)) rfl ?_
          refine j_astore (lo' := [(9, _), (8, _), (5, _), (10, _), (7, _), (6, _), (0, _), (1, _), (2, _), (3, _), (4, _)]) dX8_isCallLike_29 rfl (by decide) rfl ?_
          refine j_aload dX8_isCallLike_31 rfl rfl ?_
          refine j_aload_n dX8_isCallLike_33 rfl rfl ?_
          refine j_callV (q := (RX4, TX4, 5)) dX8_isCallLike_34 kX4_become lX8_344 inX4_become seX4_become rfl rfl (z_frame [41, 42, 43, 44, 45, 16, 17, 18, 19, 20] rfl (by decide) (Nat.le_of_ble_eq_true rfl) (c_X4_become_e hl false _ _ _ _ false _ _ _ U hU)) (Nat.le_of_ble_eq_true rfl) ⟨(Nat.le_of_ble_eq_true rfl), (Nat.le_of_ble_eq_true rfl)⟩ rfl (Nat.le_of_ble_eq_true rfl) rfl rfl (fun _ _ h => h.elim) ?_
          rintro _ _ ⟨_, _, ⟨rfl, f41, g41, ht41, rfl⟩, rfl, rfl⟩
          refine j_ws (L' := z_cw _ _ _ _ _ _ _ _ _ _ _ _ _ _ _ _ _ _ _ _ _ _ _ _ _ _ _ _ _ _ _ _ _ _ _ _ _ _ _ _ _ _ _ _ _ _ _ _ _ _ _ _ _ _ _ _ []) (by decide) rfl rfl ?_
          refine j_iload_n dX8_isCallLike_37 rfl ?_
          refine j_tsIn (tgt := 92) dX8_isCallLike_38 (by decide) (by decide) rfl (by decide) ?_
          refine j_aload dX8_isCallLike_92 rfl rfl ?_
          refine j_iload_n dX8_isCallLike_94 rfl ?_
          refine j_iload dX8_isCallLike_95 rfl ?_
          refine j_iconst (v := 1) dX8_isCallLike_97 (by decide) ?_
          refine j_callV (q := (RX4, TX4, 5)) dX8_isCallLike_98 kX4_reckonPresent lX8_148 inX4_reckonPresent seX4_reckonPresent rfl rfl (z_frame [41, 42, 43, 44, 45] rfl (by decide) (Nat.le_of_ble_eq_true rfl) (c_X4_reckonPresent_e hl false _ _ _ _ k t 1 ht41 hk so_v1)) (Nat.le_of_ble_eq_true rfl) ⟨(Nat.le_of_ble_eq_true rfl), (Nat.le_of_ble_eq_true rfl)⟩ rfl (Nat.le_of_ble_eq_true rfl) rfl rfl (fun _ _ h => h.elim) ?_
          rintro _ _ ⟨_, _, ⟨rfl, f41, g41, ht41, rfl⟩, rfl, rfl⟩
          refine j_ws (L' := z_cw _ _ _ _ _ _ _ _ _ _ _ _ _ _ _ _ _ _ _ _ _ _ _ _ _ _ _ _ _ _ _ _ _ _ _ _ _ _ _ _ _ _ _ _ _ _ _ _ _ _ _ _ _ _ _ _ []) (by decide) rfl rfl ?_
          refine j_istore (lo' := [(10, _), (9, _), (8, _), (5, _), (7, _), (6, _), (0, _), (1, _), (2, _), (3, _), (4, _)]) dX8_isCallLike_101 (by decide) rfl ?_
          refine j_goto (tgt := 117) dX8_isCallLike_103 (by decide) ?_
          refine j_aload dX8_isCallLike_117 rfl rfl ?_
          refine j_aload_n dX8_isCallLike_119 rfl rfl ?_
          refine j_getf dX8_isCallLike_120 fX8_40 rfl rfl ?_
          refine j_acmp_ne (tgt := 133) dX8_isCallLike_123 (by decide) (fun c_123 => ?_) (fun c_123 => ?_)
          · refine j_iload dX8_isCallLike_133 rfl ?_
            refine j_iload dX8_isCallLike_135 rfl ?_
            refine j_icmp_ne (tgt := 152) dX8_isCallLike_137 (by decide) (fun c_137 => ?_) (fun c_137 => ?_)
            · exact (c_137 (congrArg (fun z => Option.getD z (-1001)) (so_2 (b := false) (b' := false) (k := k) (r := t) hU.1).1)).elim
            · refine j_aload dX8_isCallLike_140 rfl rfl ?_
              refine j_aload_n dX8_isCallLike_142 rfl rfl ?_
              refine j_getf dX8_isCallLike_143 fX8_40 rfl rfl ?_
              refine j_callV (q := (RX4, TX4, 5)) dX8_isCallLike_146 kX4_hasPairsOf lX8_230 inX4_hasPairsOf seX4_hasPairsOf rfl rfl (z_frame [41, 42, 43, 44, 45, 35, 36, 37, 38, 39] rfl (by decide) (Nat.le_of_ble_eq_true rfl) (c_X4_hasPairsOf_e hl false _ _ _ _ false _ _ _ _ ht41 ht35)) (Nat.le_of_ble_eq_true rfl) ⟨(Nat.le_of_ble_eq_true rfl), (Nat.le_of_ble_eq_true rfl)⟩ rfl (Nat.le_of_ble_eq_true rfl) rfl rfl (fun _ _ h => h.elim) ?_
              rintro _ _ ⟨_, _, ⟨rfl, rfl⟩, rfl, rfl⟩
              refine j_ws (L' := z_cw _ _ _ _ _ _ _ _ _ _ _ _ _ _ _ _ _ _ _ _ _ _ _ _ _ _ _ _ _ _ _ _ _ _ _ _ _ _ _ _ _ _ _ _ _ _ _ _ _ _ _ _ _ _ _ _ []) (by decide) rfl rfl ?_
              refine j_if_ne (tgt := 154) dX8_isCallLike_149 (by decide) (fun c_149 => ?_) (fun c_149 => ?_)
              · have hb149 := z_bt c_149
                refine j_iinc (lo' := [(8, _), (10, _), (9, _), (5, _), (7, _), (6, _), (0, _), (1, _), (2, _), (3, _), (4, _)]) dX8_isCallLike_154 rfl rfl (by decide) rfl ?_
                refine j_goto (tgt := 17) dX8_isCallLike_157 (by decide) ?_
                refine j_iload dX8_isCallLike_17 rfl ?_
                refine j_iload dX8_isCallLike_19 rfl ?_
                refine j_icmp_ge (tgt := 160) dX8_isCallLike_21 (by decide) (fun c_21 => ?_) (fun c_21 => ?_)
                · exact absurd c_21 (by decide)
                · refine j_aload dX8_isCallLike_24 rfl rfl ?_
                  refine j_iload dX8_isCallLike_26 rfl ?_
                  refine j_aald (v := .ref 46) dX8_isCallLike_28 rfl rfl rfl (vp_in_iff.mpr (by decide)) rfl ?_
                  refine j_astore (lo' := [(9, _), (8, _), (10, _), (5, _), (7, _), (6, _), (0, _), (1, _), (2, _), (3, _), (4, _)]) dX8_isCallLike_29 rfl (by decide) rfl ?_
                  refine j_aload dX8_isCallLike_31 rfl rfl ?_
                  refine j_aload_n dX8_isCallLike_33 rfl rfl ?_
                  refine j_callV (q := (RX4, TX4, 5)) dX8_isCallLike_34 kX4_become lX8_344 inX4_become seX4_become rfl rfl (z_frame [46, 47, 48, 49, 50, 16, 17, 18, 19, 20] rfl (by decide) (Nat.le_of_ble_eq_true rfl) (c_X4_become_e hl true _ _ _ _ false _ _ _ U hU)) (Nat.le_of_ble_eq_true rfl) ⟨(Nat.le_of_ble_eq_true rfl), (Nat.le_of_ble_eq_true rfl)⟩ rfl (Nat.le_of_ble_eq_true rfl) rfl rfl (fun _ _ h => h.elim) ?_
                  rintro _ _ ⟨_, _, ⟨rfl, f46, g46, ht46, rfl⟩, rfl, rfl⟩
                  refine j_ws (L' := z_cw _ _ _ _ _ _ _ _ _ _ _ _ _ _ _ _ _ _ _ _ _ _ _ _ _ _ _ _ _ _ _ _ _ _ _ _ _ _ _ _ _ _ _ _ _ _ _ _ _ _ _ _ _ _ _ _ []) (by decide) rfl rfl ?_
                  refine j_iload_n dX8_isCallLike_37 rfl ?_
                  refine j_tsIn (tgt := 92) dX8_isCallLike_38 (by decide) (by decide) rfl (by decide) ?_
                  refine j_aload dX8_isCallLike_92 rfl rfl ?_
                  refine j_iload_n dX8_isCallLike_94 rfl ?_
                  refine j_iload dX8_isCallLike_95 rfl ?_
                  refine j_iconst (v := 1) dX8_isCallLike_97 (by decide) ?_
                  refine j_callV (q := (RX4, TX4, 5)) dX8_isCallLike_98 kX4_reckonPresent lX8_148 inX4_reckonPresent seX4_reckonPresent rfl rfl (z_frame [46, 47, 48, 49, 50] rfl (by decide) (Nat.le_of_ble_eq_true rfl) (c_X4_reckonPresent_e hl true _ _ _ _ k t 1 ht46 hk so_v1)) (Nat.le_of_ble_eq_true rfl) ⟨(Nat.le_of_ble_eq_true rfl), (Nat.le_of_ble_eq_true rfl)⟩ rfl (Nat.le_of_ble_eq_true rfl) rfl rfl (fun _ _ h => h.elim) ?_
                  rintro _ _ ⟨_, _, ⟨rfl, f46, g46, ht46, rfl⟩, rfl, rfl⟩
                  refine j_ws (L' := z_cw _ _ _ _ _ _ _ _ _ _ _ _ _ _ _ _ _ _ _ _ _ _ _ _ _ _ _ _ _ _ _ _ _ _ _ _ _ _ _ _ _ _ _ _ _ _ _ _ _ _ _ _ _ _ _ _ []) (by decide) rfl rfl ?_
                  refine j_istore (lo' := [(10, _), (9, _), (8, _), (5, _), (7, _), (6, _), (0, _), (1, _), (2, _), (3, _), (4, _)]) dX8_isCallLike_101 (by decide) rfl ?_
                  refine j_goto (tgt := 117) dX8_isCallLike_103 (by decide) ?_
                  refine j_aload dX8_isCallLike_117 rfl rfl ?_
                  refine j_aload_n dX8_isCallLike_119 rfl rfl ?_
                  refine j_getf dX8_isCallLike_120 fX8_40 rfl rfl ?_
                  refine j_acmp_ne (tgt := 133) dX8_isCallLike_123 (by decide) (fun c_123 => ?_) (fun c_123 => ?_)
                  · refine j_iload dX8_isCallLike_133 rfl ?_
                    refine j_iload dX8_isCallLike_135 rfl ?_
                    refine j_icmp_ne (tgt := 152) dX8_isCallLike_137 (by decide) (fun c_137 => ?_) (fun c_137 => ?_)
                    · exact (c_137 (congrArg (fun z => Option.getD z (-1001)) (so_2 (b := true) (b' := false) (k := k) (r := t) hU.1).1)).elim
                    · refine j_aload dX8_isCallLike_140 rfl rfl ?_
                      refine j_aload_n dX8_isCallLike_142 rfl rfl ?_
                      refine j_getf dX8_isCallLike_143 fX8_40 rfl rfl ?_
                      refine j_callV (q := (RX4, TX4, 5)) dX8_isCallLike_146 kX4_hasPairsOf lX8_230 inX4_hasPairsOf seX4_hasPairsOf rfl rfl (z_frame [46, 47, 48, 49, 50, 35, 36, 37, 38, 39] rfl (by decide) (Nat.le_of_ble_eq_true rfl) (c_X4_hasPairsOf_e hl true _ _ _ _ false _ _ _ _ ht46 ht35)) (Nat.le_of_ble_eq_true rfl) ⟨(Nat.le_of_ble_eq_true rfl), (Nat.le_of_ble_eq_true rfl)⟩ rfl (Nat.le_of_ble_eq_true rfl) rfl rfl (fun _ _ h => h.elim) ?_
                      rintro _ _ ⟨_, _, ⟨rfl, rfl⟩, rfl, rfl⟩
                      refine j_ws (L' := z_cw _ _ _ _ _ _ _ _ _ _ _ _ _ _ _ _ _ _ _ _ _ _ _ _ _ _ _ _ _ _ _ _ _ _ _ _ _ _ _ _ _ _ _ _ _ _ _ _ _ _ _ _ _ _ _ _ []) (by decide) rfl rfl ?_
                      refine j_if_ne (tgt := 154) dX8_isCallLike_149 (by decide) (fun c_149 => ?_) (fun c_149 => ?_)
                      · have hb149 := z_bt c_149
                        refine j_iinc (lo' := [(8, _), (10, _), (9, _), (5, _), (7, _), (6, _), (0, _), (1, _), (2, _), (3, _), (4, _)]) dX8_isCallLike_154 rfl rfl (by decide) rfl ?_
                        refine j_goto (tgt := 17) dX8_isCallLike_157 (by decide) ?_
                        refine j_iload dX8_isCallLike_17 rfl ?_
                        refine j_iload dX8_isCallLike_19 rfl ?_
                        refine j_icmp_ge (tgt := 160) dX8_isCallLike_21 (by decide) (fun c_21 => ?_) (fun c_21 => ?_)
                        · refine j_iconst (v := 1) dX8_isCallLike_160 (by decide) ?_
                          refine j_iret dX8_isCallLike_161 rfl rfl ?_ (Nat.le_of_ble_eq_true rfl) (Nat.le_of_ble_eq_true rfl)
                          exact ⟨rfl, (by first | exact z_cwl | rfl), rfl, _, _, _, _, _, _, _, _, _, _, _, _, sp_m20 ht35.len, sp_m20 ht41.len, sp_m20 ht46.len, rfl⟩
                        · exact absurd (by decide) c_21
                      · have hb149 := z_bF c_149
                        exact absurd (hb149.symm.trans (sp_lik1 (fun j _ => (so_2 (b := true) (b' := false) (k := k) (r := t) hU.1).2 j))) (by decide)
                  · exact absurd c_123 (by decide)
              · have hb149 := z_bF c_149
                exact absurd (hb149.symm.trans (sp_lik1 (fun j _ => (so_2 (b := false) (b' := false) (k := k) (r := t) hU.1).2 j))) (by decide)
          · exact absurd c_123 (by decide)
    · refine j_tsOut (tgt := 106) dX8_isCallLike_38 hp (by decide) ?_
      refine j_aload dX8_isCallLike_106 rfl rfl ?_
      refine j_iload_n dX8_isCallLike_108 rfl ?_
      refine j_iconst (v := 1) dX8_isCallLike_109 (by decide) ?_
      refine j_iload dX8_isCallLike_110 rfl ?_
      refine j_callV (q := (RX4, TX4, 5)) dX8_isCallLike_112 kX4_join lX8_154 inX4_join seX4_join rfl rfl (z_frame [35, 36, 37, 38, 39] rfl (by decide) (Nat.le_of_ble_eq_true rfl) (c_X4_join_e hl false _ _ _ _ k 1 t ht35 hk so_v1)) (Nat.le_of_ble_eq_true rfl) ⟨(Nat.le_of_ble_eq_true rfl), (Nat.le_of_ble_eq_true rfl)⟩ rfl (Nat.le_of_ble_eq_true rfl) rfl rfl (fun _ _ h => h.elim) ?_
      rintro _ _ ⟨_, _, ⟨rfl, f35, g35, ht35, rfl⟩, rfl, rfl⟩
      refine j_ws (L' := z_cw _ _ _ _ _ _ _ _ _ _ _ _ _ _ _ _ _ _ _ _ _ _ _ _ _ _ _ _ _ _ _ _ _ _ _ _ _ _ _ _ _ _ _ _ _ _ _ _ _ _ _ _ _ _ _ _ []) (by decide) rfl rfl ?_
      refine j_istore (lo' := [(10, _), (9, _), (8, _), (7, _), (6, _), (5, _), (0, _), (1, _), (2, _), (3, _), (4, _)]) dX8_isCallLike_115 (by decide) rfl ?_
      refine j_aload dX8_isCallLike_117 rfl rfl ?_
      refine j_aload_n dX8_isCallLike_119 rfl rfl ?_
      refine j_getf dX8_isCallLike_120 fX8_40 rfl rfl ?_
      refine j_acmp_ne (tgt := 133) dX8_isCallLike_123 (by decide) (fun c_123 => ?_) (fun c_123 => ?_)
      · exact absurd rfl c_123
      · refine j_iload dX8_isCallLike_126 rfl ?_
        refine j_istore (lo' := [(5, _), (10, _), (9, _), (8, _), (7, _), (6, _), (0, _), (1, _), (2, _), (3, _), (4, _)]) dX8_isCallLike_128 (by decide) rfl ?_
        refine j_goto (tgt := 154) dX8_isCallLike_130 (by decide) ?_
        refine j_iinc (lo' := [(8, _), (5, _), (10, _), (9, _), (7, _), (6, _), (0, _), (1, _), (2, _), (3, _), (4, _)]) dX8_isCallLike_154 rfl rfl (by decide) rfl ?_
        refine j_goto (tgt := 17) dX8_isCallLike_157 (by decide) ?_
        refine j_iload dX8_isCallLike_17 rfl ?_
        refine j_iload dX8_isCallLike_19 rfl ?_
        refine j_icmp_ge (tgt := 160) dX8_isCallLike_21 (by decide) (fun c_21 => ?_) (fun c_21 => ?_)
        · exact absurd c_21 (by decide)
        · refine j_aload dX8_isCallLike_24 rfl rfl ?_
          refine j_iload dX8_isCallLike_26 rfl ?_
          refine j_aald (v := .ref 41) dX8_isCallLike_28 rfl rfl rfl (vp_in_iff.mpr (by decide)) rfl ?_
          refine j_astore (lo' := [(9, _), (8, _), (5, _), (10, _), (7, _), (6, _), (0, _), (1, _), (2, _), (3, _), (4, _)]) dX8_isCallLike_29 rfl (by decide) rfl ?_
          refine j_aload dX8_isCallLike_31 rfl rfl ?_
          refine j_aload_n dX8_isCallLike_33 rfl rfl ?_
          refine j_callV (q := (RX4, TX4, 5)) dX8_isCallLike_34 kX4_become lX8_344 inX4_become seX4_become rfl rfl (z_frame [41, 42, 43, 44, 45, 16, 17, 18, 19, 20] rfl (by decide) (Nat.le_of_ble_eq_true rfl) (c_X4_become_e hl false _ _ _ _ false _ _ _ U hU)) (Nat.le_of_ble_eq_true rfl) ⟨(Nat.le_of_ble_eq_true rfl), (Nat.le_of_ble_eq_true rfl)⟩ rfl (Nat.le_of_ble_eq_true rfl) rfl rfl (fun _ _ h => h.elim) ?_
          rintro _ _ ⟨_, _, ⟨rfl, f41, g41, ht41, rfl⟩, rfl, rfl⟩
          refine j_ws (L' := z_cw _ _ _ _ _ _ _ _ _ _ _ _ _ _ _ _ _ _ _ _ _ _ _ _ _ _ _ _ _ _ _ _ _ _ _ _ _ _ _ _ _ _ _ _ _ _ _ _ _ _ _ _ _ _ _ _ []) (by decide) rfl rfl ?_
          refine j_iload_n dX8_isCallLike_37 rfl ?_
          refine j_tsOut (tgt := 106) dX8_isCallLike_38 hp (by decide) ?_
          refine j_aload dX8_isCallLike_106 rfl rfl ?_
          refine j_iload_n dX8_isCallLike_108 rfl ?_
          refine j_iconst (v := 1) dX8_isCallLike_109 (by decide) ?_
          refine j_iload dX8_isCallLike_110 rfl ?_
          refine j_callV (q := (RX4, TX4, 5)) dX8_isCallLike_112 kX4_join lX8_154 inX4_join seX4_join rfl rfl (z_frame [41, 42, 43, 44, 45] rfl (by decide) (Nat.le_of_ble_eq_true rfl) (c_X4_join_e hl false _ _ _ _ k 1 t ht41 hk so_v1)) (Nat.le_of_ble_eq_true rfl) ⟨(Nat.le_of_ble_eq_true rfl), (Nat.le_of_ble_eq_true rfl)⟩ rfl (Nat.le_of_ble_eq_true rfl) rfl rfl (fun _ _ h => h.elim) ?_
          rintro _ _ ⟨_, _, ⟨rfl, f41, g41, ht41, rfl⟩, rfl, rfl⟩
          refine j_ws (L' := z_cw _ _ _ _ _ _ _ _ _ _ _ _ _ _ _ _ _ _ _ _ _ _ _ _ _ _ _ _ _ _ _ _ _ _ _ _ _ _ _ _ _ _ _ _ _ _ _ _ _ _ _ _ _ _ _ _ []) (by decide) rfl rfl ?_
          refine j_istore (lo' := [(10, _), (9, _), (8, _), (5, _), (7, _), (6, _), (0, _), (1, _), (2, _), (3, _), (4, _)]) dX8_isCallLike_115 (by decide) rfl ?_
          refine j_aload dX8_isCallLike_117 rfl rfl ?_
          refine j_aload_n dX8_isCallLike_119 rfl rfl ?_
          refine j_getf dX8_isCallLike_120 fX8_40 rfl rfl ?_
          refine j_acmp_ne (tgt := 133) dX8_isCallLike_123 (by decide) (fun c_123 => ?_) (fun c_123 => ?_)
          · refine j_iload dX8_isCallLike_133 rfl ?_
            refine j_iload dX8_isCallLike_135 rfl ?_
            refine j_icmp_ne (tgt := 152) dX8_isCallLike_137 (by decide) (fun c_137 => ?_) (fun c_137 => ?_)
            · exact (c_137 (congrArg (fun z => Option.getD z (-1001)) (so_3 (b := false) (b' := false) (k := k) (r := t) hU.1).1)).elim
            · refine j_aload dX8_isCallLike_140 rfl rfl ?_
              refine j_aload_n dX8_isCallLike_142 rfl rfl ?_
              refine j_getf dX8_isCallLike_143 fX8_40 rfl rfl ?_
              refine j_callV (q := (RX4, TX4, 5)) dX8_isCallLike_146 kX4_hasPairsOf lX8_230 inX4_hasPairsOf seX4_hasPairsOf rfl rfl (z_frame [41, 42, 43, 44, 45, 35, 36, 37, 38, 39] rfl (by decide) (Nat.le_of_ble_eq_true rfl) (c_X4_hasPairsOf_e hl false _ _ _ _ false _ _ _ _ ht41 ht35)) (Nat.le_of_ble_eq_true rfl) ⟨(Nat.le_of_ble_eq_true rfl), (Nat.le_of_ble_eq_true rfl)⟩ rfl (Nat.le_of_ble_eq_true rfl) rfl rfl (fun _ _ h => h.elim) ?_
              rintro _ _ ⟨_, _, ⟨rfl, rfl⟩, rfl, rfl⟩
              refine j_ws (L' := z_cw _ _ _ _ _ _ _ _ _ _ _ _ _ _ _ _ _ _ _ _ _ _ _ _ _ _ _ _ _ _ _ _ _ _ _ _ _ _ _ _ _ _ _ _ _ _ _ _ _ _ _ _ _ _ _ _ []) (by decide) rfl rfl ?_
              refine j_if_ne (tgt := 154) dX8_isCallLike_149 (by decide) (fun c_149 => ?_) (fun c_149 => ?_)
              · have hb149 := z_bt c_149
                refine j_iinc (lo' := [(8, _), (10, _), (9, _), (5, _), (7, _), (6, _), (0, _), (1, _), (2, _), (3, _), (4, _)]) dX8_isCallLike_154 rfl rfl (by decide) rfl ?_
                refine j_goto (tgt := 17) dX8_isCallLike_157 (by decide) ?_
                refine j_iload dX8_isCallLike_17 rfl ?_
                refine j_iload dX8_isCallLike_19 rfl ?_
                refine j_icmp_ge (tgt := 160) dX8_isCallLike_21 (by decide) (fun c_21 => ?_) (fun c_21 => ?_)
                · exact absurd c_21 (by decide)
                · refine j_aload dX8_isCallLike_24 rfl rfl ?_
                  refine j_iload dX8_isCallLike_26 rfl ?_
                  refine j_aald (v := .ref 46) dX8_isCallLike_28 rfl rfl rfl (vp_in_iff.mpr (by decide)) rfl ?_
                  refine j_astore (lo' := [(9, _), (8, _), (10, _), (5, _), (7, _), (6, _), (0, _), (1, _), (2, _), (3, _), (4, _)]) dX8_isCallLike_29 rfl (by decide) rfl ?_
                  refine j_aload dX8_isCallLike_31 rfl rfl ?_
                  refine j_aload_n dX8_isCallLike_33 rfl rfl ?_
                  refine j_callV (q := (RX4, TX4, 5)) dX8_isCallLike_34 kX4_become lX8_344 inX4_become seX4_become rfl rfl (z_frame [46, 47, 48, 49, 50, 16, 17, 18, 19, 20] rfl (by decide) (Nat.le_of_ble_eq_true rfl) (c_X4_become_e hl true _ _ _ _ false _ _ _ U hU)) (Nat.le_of_ble_eq_true rfl) ⟨(Nat.le_of_ble_eq_true rfl), (Nat.le_of_ble_eq_true rfl)⟩ rfl (Nat.le_of_ble_eq_true rfl) rfl rfl (fun _ _ h => h.elim) ?_
                  rintro _ _ ⟨_, _, ⟨rfl, f46, g46, ht46, rfl⟩, rfl, rfl⟩
                  refine j_ws (L' := z_cw _ _ _ _ _ _ _ _ _ _ _ _ _ _ _ _ _ _ _ _ _ _ _ _ _ _ _ _ _ _ _ _ _ _ _ _ _ _ _ _ _ _ _ _ _ _ _ _ _ _ _ _ _ _ _ _ []) (by decide) rfl rfl ?_
                  refine j_iload_n dX8_isCallLike_37 rfl ?_
                  refine j_tsOut (tgt := 106) dX8_isCallLike_38 hp (by decide) ?_
                  refine j_aload dX8_isCallLike_106 rfl rfl ?_
                  refine j_iload_n dX8_isCallLike_108 rfl ?_
                  refine j_iconst (v := 1) dX8_isCallLike_109 (by decide) ?_
                  refine j_iload dX8_isCallLike_110 rfl ?_
                  refine j_callV (q := (RX4, TX4, 5)) dX8_isCallLike_112 kX4_join lX8_154 inX4_join seX4_join rfl rfl (z_frame [46, 47, 48, 49, 50] rfl (by decide) (Nat.le_of_ble_eq_true rfl) (c_X4_join_e hl true _ _ _ _ k 1 t ht46 hk so_v1)) (Nat.le_of_ble_eq_true rfl) ⟨(Nat.le_of_ble_eq_true rfl), (Nat.le_of_ble_eq_true rfl)⟩ rfl (Nat.le_of_ble_eq_true rfl) rfl rfl (fun _ _ h => h.elim) ?_
                  rintro _ _ ⟨_, _, ⟨rfl, f46, g46, ht46, rfl⟩, rfl, rfl⟩
                  refine j_ws (L' := z_cw _ _ _ _ _ _ _ _ _ _ _ _ _ _ _ _ _ _ _ _ _ _ _ _ _ _ _ _ _ _ _ _ _ _ _ _ _ _ _ _ _ _ _ _ _ _ _ _ _ _ _ _ _ _ _ _ []) (by decide) rfl rfl ?_
                  refine j_istore (lo' := [(10, _), (9, _), (8, _), (5, _), (7, _), (6, _), (0, _), (1, _), (2, _), (3, _), (4, _)]) dX8_isCallLike_115 (by decide) rfl ?_
                  refine j_aload dX8_isCallLike_117 rfl rfl ?_
                  refine j_aload_n dX8_isCallLike_119 rfl rfl ?_
                  refine j_getf dX8_isCallLike_120 fX8_40 rfl rfl ?_
                  refine j_acmp_ne (tgt := 133) dX8_isCallLike_123 (by decide) (fun c_123 => ?_) (fun c_123 => ?_)
                  · refine j_iload dX8_isCallLike_133 rfl ?_
                    refine j_iload dX8_isCallLike_135 rfl ?_
                    refine j_icmp_ne (tgt := 152) dX8_isCallLike_137 (by decide) (fun c_137 => ?_) (fun c_137 => ?_)
                    · exact (c_137 (congrArg (fun z => Option.getD z (-1001)) (so_3 (b := true) (b' := false) (k := k) (r := t) hU.1).1)).elim
                    · refine j_aload dX8_isCallLike_140 rfl rfl ?_
                      refine j_aload_n dX8_isCallLike_142 rfl rfl ?_
                      refine j_getf dX8_isCallLike_143 fX8_40 rfl rfl ?_
                      refine j_callV (q := (RX4, TX4, 5)) dX8_isCallLike_146 kX4_hasPairsOf lX8_230 inX4_hasPairsOf seX4_hasPairsOf rfl rfl (z_frame [46, 47, 48, 49, 50, 35, 36, 37, 38, 39] rfl (by decide) (Nat.le_of_ble_eq_true rfl) (c_X4_hasPairsOf_e hl true _ _ _ _ false _ _ _ _ ht46 ht35)) (Nat.le_of_ble_eq_true rfl) ⟨(Nat.le_of_ble_eq_true rfl), (Nat.le_of_ble_eq_true rfl)⟩ rfl (Nat.le_of_ble_eq_true rfl) rfl rfl (fun _ _ h => h.elim) ?_
                      rintro _ _ ⟨_, _, ⟨rfl, rfl⟩, rfl, rfl⟩
                      refine j_ws (L' := z_cw _ _ _ _ _ _ _ _ _ _ _ _ _ _ _ _ _ _ _ _ _ _ _ _ _ _ _ _ _ _ _ _ _ _ _ _ _ _ _ _ _ _ _ _ _ _ _ _ _ _ _ _ _ _ _ _ []) (by decide) rfl rfl ?_
                      refine j_if_ne (tgt := 154) dX8_isCallLike_149 (by decide) (fun c_149 => ?_) (fun c_149 => ?_)
                      · have hb149 := z_bt c_149
                        refine j_iinc (lo' := [(8, _), (10, _), (9, _), (5, _), (7, _), (6, _), (0, _), (1, _), (2, _), (3, _), (4, _)]) dX8_isCallLike_154 rfl rfl (by decide) rfl ?_
                        refine j_goto (tgt := 17) dX8_isCallLike_157 (by decide) ?_
                        refine j_iload dX8_isCallLike_17 rfl ?_
                        refine j_iload dX8_isCallLike_19 rfl ?_
                        refine j_icmp_ge (tgt := 160) dX8_isCallLike_21 (by decide) (fun c_21 => ?_) (fun c_21 => ?_)
                        · refine j_iconst (v := 1) dX8_isCallLike_160 (by decide) ?_
                          refine j_iret dX8_isCallLike_161 rfl rfl ?_ (Nat.le_of_ble_eq_true rfl) (Nat.le_of_ble_eq_true rfl)
                          exact ⟨rfl, (by first | exact z_cwl | rfl), rfl, _, _, _, _, _, _, _, _, _, _, _, _, sp_m20 ht35.len, sp_m20 ht41.len, sp_m20 ht46.len, rfl⟩
                        · exact absurd (by decide) c_21
                      · have hb149 := z_bF c_149
                        exact absurd (hb149.symm.trans (sp_lik1 (fun j _ => (so_3 (b := true) (b' := false) (k := k) (r := t) hU.1).2 j))) (by decide)
                  · exact absurd c_123 (by decide)
              · have hb149 := z_bF c_149
                exact absurd (hb149.symm.trans (sp_lik1 (fun j _ => (so_3 (b := false) (b' := false) (k := k) (r := t) hU.1).2 j))) (by decide)
          · exact absurd c_123 (by decide)
set_option maxRecDepth 100000 in
set_option maxHeartbeats 8000000 in
theorem c_X8_areCallsLike_1_e (hl : l.stackTraces = false) (rf : Int32) (kn : Int32) (ma : Int32) (xa : Bool) (fa : Nat → Int32) (ca : Nat → Int32) (mb : Int32) (xb : Bool) (fb : Nat → Int32) (cb : Nat → Int32) (mt : Int32) (ft : Nat → Int32) (ct : Nat → Int32) (f0 : Nat → Int32) (g0 : Nat → Int32) (c0 : Nat → Int32) (m0 : Int32) (f1 : Nat → Int32) (g1 : Nat → Int32) (c1 : Nat → Int32) (f2 : Nat → Int32) (g2 : Nat → Int32) (c2 : Nat → Int32) (m2 : Int32) (f3 : Nat → Int32) (g3 : Nat → Int32) (c3 : Nat → Int32) (m3 : Int32) (f4 : Nat → Int32) (g4 : Nat → Int32) (c4 : Nat → Int32) (m4 : Int32) (f5 : Nat → Int32) (g5 : Nat → Int32) (c5 : Nat → Int32) (m5 : Int32) (ek0 : Int32) (em0 : Int32) (es0 : Int32) (el0 : Int32) (b0 : Int32) (ef0 : Nat → Int32) (ek1 : Int32) (em1 : Int32) (es1 : Int32) (el1 : Int32) (b1 : Int32) (ef1 : Nat → Int32) (U : List (Nat × Int32)) (hU : z_tba f1 g1 U) (hz3 : z_m20 m3) (hz4 : z_m20 m4) (hz5 : z_m20 m5) : z_CF G l mX8_areCallsLike 18 0 0 (z_cw rf kn ma xa fa ca mb xb fb cb mt false ft ct f0 g0 c0 m0 0 f1 g1 c1 (nI U.length) 0 f2 g2 c2 m2 1 f3 g3 c3 m3 0 f4 g4 c4 m4 0 f5 g5 c5 m5 1 ek0 em0 es0 el0 b0 ef0 ek1 em1 es1 el1 b1 ef1 []) [.ref 0, .ref 16] (fun v L => v = some (.int 1) ∧ ∃ (f3' g3' c3' : Nat → Int32) (m3' : Int32) (f4' g4' c4' : Nat → Int32) (m4' : Int32) (f5' g5' c5' : Nat → Int32) (m5' : Int32), z_m20 m3' ∧ z_m20 m4' ∧ z_m20 m5' ∧ L = (z_cw rf kn ma xa fa ca mb xb fb cb mt false ft ct f0 g0 c0 m0 0 f1 g1 c1 (nI U.length) 0 f2 g2 c2 m2 1 f3' g3' c3' m3' 0 f4' g4' c4' m4' 0 f5' g5' c5' m5' 1 ek0 em0 es0 el0 b0 ef0 ek1 em1 es1 el1 b1 ef1 [])) := by
  refine z_body hl (by decide) rfl (Nat.le_of_ble_eq_true rfl) ?_
  show z_J G l mX8_areCallsLike (z_SF 18 0 0 (z_cw rf kn ma xa fa ca mb xb fb cb mt false ft ct f0 g0 c0 m0 0 f1 g1 c1 (nI U.length) 0 f2 g2 c2 m2 1 f3 g3 c3 m3 0 f4 g4 c4 m4 0 f5 g5 c5 m5 1 ek0 em0 es0 el0 b0 ef0 ek1 em1 es1 el1 b1 ef1 []) (fun v L => v = some (.int 1) ∧ ∃ (f3' g3' c3' : Nat → Int32) (m3' : Int32) (f4' g4' c4' : Nat → Int32) (m4' : Int32) (f5' g5' c5' : Nat → Int32) (m5' : Int32), z_m20 m3' ∧ z_m20 m4' ∧ z_m20 m5' ∧ L = (z_cw rf kn ma xa fa ca mb xb fb cb mt false ft ct f0 g0 c0 m0 0 f1 g1 c1 (nI U.length) 0 f2 g2 c2 m2 1 f3' g3' c3' m3' 0 f4' g4' c4' m4' 0 f5' g5' c5' m5' 1 ek0 em0 es0 el0 b0 ef0 ek1 em1 es1 el1 b1 ef1 []))) 0 [(0, _), (1, _)] [] _ 0 0
  refine j_iconst (v := 0) dX8_areCallsLike_0 (by decide) ?_
  refine j_istore_n (lo' := [(2, _), (0, _), (1, _)]) dX8_areCallsLike_1 (by decide) rfl ?_
  have loop : ∀ (n9 : Nat) (f3' g3' c3' : Nat → Int32) (m3' : Int32) (f4' g4' c4' : Nat → Int32) (m4' : Int32) (f5' g5' c5' : Nat → Int32) (m5' : Int32) (j : Nat), (z_m20 m3') → (z_m20 m4') → (z_m20 m5') → (j ≤ 4) → (4 < j + n9) → z_J G l mX8_areCallsLike (z_SF 18 0 0 (z_cw rf kn ma xa fa ca mb xb fb cb mt false ft ct f0 g0 c0 m0 0 f1 g1 c1 (nI U.length) 0 f2 g2 c2 m2 1 f3 g3 c3 m3 0 f4 g4 c4 m4 0 f5 g5 c5 m5 1 ek0 em0 es0 el0 b0 ef0 ek1 em1 es1 el1 b1 ef1 []) (fun v L => v = some (.int 1) ∧ ∃ (f3' g3' c3' : Nat → Int32) (m3' : Int32) (f4' g4' c4' : Nat → Int32) (m4' : Int32) (f5' g5' c5' : Nat → Int32) (m5' : Int32), z_m20 m3' ∧ z_m20 m4' ∧ z_m20 m5' ∧ L = (z_cw rf kn ma xa fa ca mb xb fb cb mt false ft ct f0 g0 c0 m0 0 f1 g1 c1 (nI U.length) 0 f2 g2 c2 m2 1 f3' g3' c3' m3' 0 f4' g4' c4' m4' 0 f5' g5' c5' m5' 1 ek0 em0 es0 el0 b0 ef0 ek1 em1 es1 el1 b1 ef1 []))) 2 [(0, .ref 0), (1, .ref 16), (2, .int (nI j))] [] ((z_cw rf kn ma xa fa ca mb xb fb cb mt false ft ct f0 g0 c0 m0 0 f1 g1 c1 (nI U.length) 0 f2 g2 c2 m2 1 f3' g3' c3' m3' 0 f4' g4' c4' m4' 0 f5' g5' c5' m5' 1 ek0 em0 es0 el0 b0 ef0 ek1 em1 es1 el1 b1 ef1 []), z_no) 0 0 := by
    intro n9
    induction n9 with
    | zero => intro f3' g3' c3' m3' f4' g4' c4' m4' f5' g5' c5' m5' j q3 q4 q5 hj hf9; exact absurd hf9 (by omega)
    | succ n9 ih =>
      intro f3' g3' c3' m3' f4' g4' c4' m4' f5' g5' c5' m5' j q3 q4 q5 hj hf9
      refine j_iload_n dX8_areCallsLike_2 rfl ?_
      refine j_iconst (v := 3) dX8_areCallsLike_3 (by decide) ?_
      refine j_icmp_gt (tgt := 61) dX8_areCallsLike_4 (by decide) (fun c_4 => ?_) (fun c_4 => ?_)
      · have hb4 : 3 < j := (nI_ltI (a := 3) (b := j) (by omega) (by omega)).mp c_4
        refine j_iconst (v := 1) dX8_areCallsLike_61 (by decide) ?_
        refine j_iret dX8_areCallsLike_62 rfl rfl ?_ (Nat.le_of_ble_eq_true rfl) (Nat.le_of_ble_eq_true rfl)
        exact ⟨rfl, (by first | exact z_cwl | rfl), rfl, _, _, _, _, _, _, _, _, _, _, _, _, (by assumption), (by assumption), (by assumption), rfl⟩
      · have hb4 : ¬ 3 < j := fun z => c_4 ((nI_ltI (a := 3) (b := j) (by omega) (by omega)).mpr z)
        refine j_iconst (v := 0) dX8_areCallsLike_7 (by decide) ?_
        refine j_istore_n (lo' := [(3, _), (0, _), (1, _), (2, _)]) dX8_areCallsLike_8 (by decide) rfl ?_
        have loopi : ∀ (n8 : Nat) (f3' g3' c3' : Nat → Int32) (m3' : Int32) (f4' g4' c4' : Nat → Int32) (m4' : Int32) (f5' g5' c5' : Nat → Int32) (m5' : Int32) (i : Nat), (z_m20 m3') → (z_m20 m4') → (z_m20 m5') → (i ≤ 4) → (4 < i + n8) → z_J G l mX8_areCallsLike (z_SF 18 0 0 (z_cw rf kn ma xa fa ca mb xb fb cb mt false ft ct f0 g0 c0 m0 0 f1 g1 c1 (nI U.length) 0 f2 g2 c2 m2 1 f3 g3 c3 m3 0 f4 g4 c4 m4 0 f5 g5 c5 m5 1 ek0 em0 es0 el0 b0 ef0 ek1 em1 es1 el1 b1 ef1 []) (fun v L => v = some (.int 1) ∧ ∃ (f3' g3' c3' : Nat → Int32) (m3' : Int32) (f4' g4' c4' : Nat → Int32) (m4' : Int32) (f5' g5' c5' : Nat → Int32) (m5' : Int32), z_m20 m3' ∧ z_m20 m4' ∧ z_m20 m5' ∧ L = (z_cw rf kn ma xa fa ca mb xb fb cb mt false ft ct f0 g0 c0 m0 0 f1 g1 c1 (nI U.length) 0 f2 g2 c2 m2 1 f3' g3' c3' m3' 0 f4' g4' c4' m4' 0 f5' g5' c5' m5' 1 ek0 em0 es0 el0 b0 ef0 ek1 em1 es1 el1 b1 ef1 []))) 9 [(0, .ref 0), (1, .ref 16), (2, .int (nI j)), (3, .int (nI i))] [] ((z_cw rf kn ma xa fa ca mb xb fb cb mt false ft ct f0 g0 c0 m0 0 f1 g1 c1 (nI U.length) 0 f2 g2 c2 m2 1 f3' g3' c3' m3' 0 f4' g4' c4' m4' 0 f5' g5' c5' m5' 1 ek0 em0 es0 el0 b0 ef0 ek1 em1 es1 el1 b1 ef1 []), z_no) 0 0 := by
          intro n8
          induction n8 with
          | zero => intro f3' g3' c3' m3' f4' g4' c4' m4' f5' g5' c5' m5' i q3 q4 q5 hi hf8; exact absurd hf8 (by omega)
          | succ n8 ih8 =>
            intro f3' g3' c3' m3' f4' g4' c4' m4' f5' g5' c5' m5' i q3 q4 q5 hi hf8
            refine j_iload_n dX8_areCallsLike_9 rfl ?_
            refine j_iconst (v := 3) dX8_areCallsLike_10 (by decide) ?_
            refine j_icmp_gt (tgt := 55) dX8_areCallsLike_11 (by decide) (fun c_11 => ?_) (fun c_11 => ?_)
            · have hb11 : 3 < i := (nI_ltI (a := 3) (b := i) (by omega) (by omega)).mp c_11
              refine j_iinc (lo' := [(2, _), (0, _), (1, _), (3, _)]) dX8_areCallsLike_55 rfl (z_inc _) (by decide) rfl ?_
              refine j_goto (tgt := 2) dX8_areCallsLike_58 (by decide) ?_
              exact j_lo2 (ih _ _ _ _ _ _ _ _ _ _ _ _ (j + 1) (by assumption) (by assumption) (by assumption) (by omega) (by omega)) (z_q1 rfl (z_q1 rfl (z_q1 rfl z_q0)))
            · have hb11 : ¬ 3 < i := fun z => c_11 ((nI_ltI (a := 3) (b := i) (by omega) (by omega)).mpr z)
              refine j_aload_n dX8_areCallsLike_14 rfl rfl ?_
              refine j_aload_n dX8_areCallsLike_15 rfl rfl ?_
              refine j_iload_n dX8_areCallsLike_16 rfl ?_
              refine j_iload_n dX8_areCallsLike_17 rfl ?_
              refine j_iconst (v := 0) dX8_areCallsLike_18 (by decide) ?_
              refine j_callV (q := (RX8, TX8, 9)) dX8_areCallsLike_19 kX8_isCallLike lX8_346 inX8_isCallLike seX8_isCallLike rfl rfl (z_dirF (c_X8_isCallLike_1_e hl _ _ _ _ _ _ _ _ _ _ _ _ _ _ _ _ _ _ _ _ _ _ _ _ _ _ _ _ _ _ _ _ _ _ _ _ _ _ _ _ _ _ _ _ _ _ _ _ U _ j _ hU (by omega))) (Nat.le_of_ble_eq_true rfl) ⟨(Nat.le_of_ble_eq_true rfl), (Nat.le_of_ble_eq_true rfl)⟩ rfl (Nat.le_of_ble_eq_true rfl) rfl rfl (fun _ _ h => h.elim) ?_
              rintro _ _ ⟨_, ⟨rfl, _, _, _, _, _, _, _, _, _, _, _, _, q3, q4, q5, rfl⟩, rfl⟩
              refine j_if_eq (tgt := 47) dX8_areCallsLike_22 (by decide) (fun c_22 => ?_) (fun c_22 => ?_)
              · exact absurd c_22 (by decide)
              · refine j_aload_n dX8_areCallsLike_25 rfl rfl ?_
                refine j_aload_n dX8_areCallsLike_26 rfl rfl ?_
                refine j_iload_n dX8_areCallsLike_27 rfl ?_
                refine j_iload_n dX8_areCallsLike_28 rfl ?_
                refine j_iconst (v := 2) dX8_areCallsLike_29 (by decide) ?_
                refine j_callV (q := (RX8, TX8, 9)) dX8_areCallsLike_30 kX8_isCallLike lX8_346 inX8_isCallLike seX8_isCallLike rfl rfl (z_dirF (c_X8_isCallLike_1_e hl _ _ _ _ _ _ _ _ _ _ _ _ _ _ _ _ _ _ _ _ _ _ _ _ _ _ _ _ _ _ _ _ _ _ _ _ _ _ _ _ _ _ _ _ _ _ _ _ U _ j _ hU (by omega))) (Nat.le_of_ble_eq_true rfl) ⟨(Nat.le_of_ble_eq_true rfl), (Nat.le_of_ble_eq_true rfl)⟩ rfl (Nat.le_of_ble_eq_true rfl) rfl rfl (fun _ _ h => h.elim) ?_
                rintro _ _ ⟨_, ⟨rfl, _, _, _, _, _, _, _, _, _, _, _, _, q3, q4, q5, rfl⟩, rfl⟩
                refine j_if_eq (tgt := 47) dX8_areCallsLike_33 (by decide) (fun c_33 => ?_) (fun c_33 => ?_)
                · exact absurd c_33 (by decide)
                · refine j_aload_n dX8_areCallsLike_36 rfl rfl ?_
                  refine j_aload_n dX8_areCallsLike_37 rfl rfl ?_
                  refine j_iload_n dX8_areCallsLike_38 rfl ?_
                  refine j_iload_n dX8_areCallsLike_39 rfl ?_
                  refine j_iconst (v := 3) dX8_areCallsLike_40 (by decide) ?_
                  refine j_callV (q := (RX8, TX8, 9)) dX8_areCallsLike_41 kX8_isCallLike lX8_346 inX8_isCallLike seX8_isCallLike rfl rfl (z_dirF (c_X8_isCallLike_1_e hl _ _ _ _ _ _ _ _ _ _ _ _ _ _ _ _ _ _ _ _ _ _ _ _ _ _ _ _ _ _ _ _ _ _ _ _ _ _ _ _ _ _ _ _ _ _ _ _ U _ j _ hU (by omega))) (Nat.le_of_ble_eq_true rfl) ⟨(Nat.le_of_ble_eq_true rfl), (Nat.le_of_ble_eq_true rfl)⟩ rfl (Nat.le_of_ble_eq_true rfl) rfl rfl (fun _ _ h => h.elim) ?_
                  rintro _ _ ⟨_, ⟨rfl, _, _, _, _, _, _, _, _, _, _, _, _, q3, q4, q5, rfl⟩, rfl⟩
                  refine j_if_ne (tgt := 49) dX8_areCallsLike_44 (by decide) (fun c_44 => ?_) (fun c_44 => ?_)
                  · refine j_iinc (lo' := [(3, _), (0, _), (1, _), (2, _)]) dX8_areCallsLike_49 rfl (z_inc _) (by decide) rfl ?_
                    refine j_goto (tgt := 9) dX8_areCallsLike_52 (by decide) ?_
                    exact j_lo2 (ih8 _ _ _ _ _ _ _ _ _ _ _ _ (i + 1) q3 q4 q5 (by omega) (by omega)) (z_q1 rfl (z_q1 rfl (z_q1 rfl (z_q1 rfl z_q0))))
                  · exact absurd c_44 (by decide)
        exact j_lo2 (loopi 5 _ _ _ _ _ _ _ _ _ _ _ _ 0 (by assumption) (by assumption) (by assumption) (by omega) (by omega)) (z_q1 rfl (z_q1 rfl (z_q1 rfl (z_q1 rfl z_q0))))
  exact j_lo2 (loop 5 _ _ _ _ _ _ _ _ _ _ _ _ 0 hz3 hz4 hz5 (by omega) (by omega)) (z_q1 rfl (z_q1 rfl (z_q1 rfl z_q0)))
set_option maxRecDepth 100000 in
set_option maxHeartbeats 8000000 in
theorem c_X8_areCopiesLike_2_e (hl : l.stackTraces = false) (rf : Int32) (kn : Int32) (ma : Int32) (xa : Bool) (fa : Nat → Int32) (ca : Nat → Int32) (mb : Int32) (xb : Bool) (fb : Nat → Int32) (cb : Nat → Int32) (mt : Int32) (ft : Nat → Int32) (ct : Nat → Int32) (f0 : Nat → Int32) (g0 : Nat → Int32) (c0 : Nat → Int32) (m0 : Int32) (f1 : Nat → Int32) (g1 : Nat → Int32) (c1 : Nat → Int32) (m1 : Int32) (f2 : Nat → Int32) (g2 : Nat → Int32) (c2 : Nat → Int32) (f3 : Nat → Int32) (g3 : Nat → Int32) (c3 : Nat → Int32) (m3 : Int32) (f4 : Nat → Int32) (g4 : Nat → Int32) (c4 : Nat → Int32) (m4 : Int32) (f5 : Nat → Int32) (g5 : Nat → Int32) (c5 : Nat → Int32) (m5 : Int32) (ek0 : Int32) (em0 : Int32) (es0 : Int32) (el0 : Int32) (b0 : Int32) (ef0 : Nat → Int32) (ek1 : Int32) (em1 : Int32) (es1 : Int32) (el1 : Int32) (b1 : Int32) (ef1 : Nat → Int32) (U : List (Nat × Int32)) (hU : z_tba f2 g2 U) : z_CF G l mX8_areCopiesLike 15 0 0 (z_cw rf kn ma xa fa ca mb xb fb cb mt false ft ct f0 g0 c0 m0 0 f1 g1 c1 m1 0 f2 g2 c2 (nI U.length) 1 f3 g3 c3 m3 0 f4 g4 c4 m4 0 f5 g5 c5 m5 1 ek0 em0 es0 el0 b0 ef0 ek1 em1 es1 el1 b1 ef1 []) [.ref 0, .ref 21] (fun v L => v = some (.int 1) ∧ ∃ (f3' g3' c3' : Nat → Int32) (m3' : Int32) (f4' g4' c4' : Nat → Int32) (m4' : Int32) (f5' g5' c5' : Nat → Int32) (m5' : Int32), z_m20 m3' ∧ z_m20 m4' ∧ z_m20 m5' ∧ L = (z_cw rf kn ma xa fa ca mb xb fb cb mt false ft ct f0 g0 c0 m0 0 f1 g1 c1 m1 0 f2 g2 c2 (nI U.length) 1 f3' g3' c3' m3' 0 f4' g4' c4' m4' 0 f5' g5' c5' m5' 1 ek0 em0 es0 el0 b0 ef0 ek1 em1 es1 el1 b1 ef1 [])) := by
  refine z_body hl (by decide) rfl (Nat.le_of_ble_eq_true rfl) ?_
  show z_J G l mX8_areCopiesLike (z_SF 15 0 0 (z_cw rf kn ma xa fa ca mb xb fb cb mt false ft ct f0 g0 c0 m0 0 f1 g1 c1 m1 0 f2 g2 c2 (nI U.length) 1 f3 g3 c3 m3 0 f4 g4 c4 m4 0 f5 g5 c5 m5 1 ek0 em0 es0 el0 b0 ef0 ek1 em1 es1 el1 b1 ef1 []) (fun v L => v = some (.int 1) ∧ ∃ (f3' g3' c3' : Nat → Int32) (m3' : Int32) (f4' g4' c4' : Nat → Int32) (m4' : Int32) (f5' g5' c5' : Nat → Int32) (m5' : Int32), z_m20 m3' ∧ z_m20 m4' ∧ z_m20 m5' ∧ L = (z_cw rf kn ma xa fa ca mb xb fb cb mt false ft ct f0 g0 c0 m0 0 f1 g1 c1 m1 0 f2 g2 c2 (nI U.length) 1 f3' g3' c3' m3' 0 f4' g4' c4' m4' 0 f5' g5' c5' m5' 1 ek0 em0 es0 el0 b0 ef0 ek1 em1 es1 el1 b1 ef1 []))) 0 [(0, _), (1, _)] [] _ 0 0
  refine j_aload_n dX8_areCopiesLike_0 rfl rfl ?_
  refine j_getf dX8_areCopiesLike_1 fX8_43 rfl rfl ?_
  refine j_astore_n (lo' := [(2, _), (0, _), (1, _)]) dX8_areCopiesLike_4 rfl (by decide) rfl ?_
  refine j_aload_n dX8_areCopiesLike_5 rfl rfl ?_
  refine j_alen dX8_areCopiesLike_6 rfl rfl rfl ?_
  refine j_istore_n (lo' := [(3, _), (2, _), (0, _), (1, _)]) dX8_areCopiesLike_7 (by decide) rfl ?_
  refine j_iconst (v := 0) dX8_areCopiesLike_8 (by decide) ?_
  refine j_istore (lo' := [(4, _), (3, _), (2, _), (0, _), (1, _)]) dX8_areCopiesLike_9 (by decide) rfl ?_
  refine j_iload dX8_areCopiesLike_11 rfl ?_
  refine j_iload_n dX8_areCopiesLike_13 rfl ?_
  refine j_icmp_ge (tgt := 46) dX8_areCopiesLike_14 (by decide) (fun c_14 => ?_) (fun c_14 => ?_)
  · exact absurd c_14 (by decide)
  · refine j_aload_n dX8_areCopiesLike_17 rfl rfl ?_
    refine j_iload dX8_areCopiesLike_18 rfl ?_
    refine j_aald (v := .ref 35) dX8_areCopiesLike_20 rfl rfl rfl (vp_in_iff.mpr (by decide)) rfl ?_
    refine j_astore (lo' := [(5, _), (4, _), (3, _), (2, _), (0, _), (1, _)]) dX8_areCopiesLike_21 rfl (by decide) rfl ?_
    refine j_aload dX8_areCopiesLike_23 rfl rfl ?_
    refine j_aload_n dX8_areCopiesLike_25 rfl rfl ?_
    refine j_callV (q := (RX4, TX4, 5)) dX8_areCopiesLike_26 kX4_become lX8_344 inX4_become seX4_become rfl rfl (z_frame [35, 36, 37, 38, 39, 21, 22, 23, 24, 25] rfl (by decide) (Nat.le_of_ble_eq_true rfl) (c_X4_become_e hl false _ _ _ _ true _ _ _ U hU)) (Nat.le_of_ble_eq_true rfl) ⟨(Nat.le_of_ble_eq_true rfl), (Nat.le_of_ble_eq_true rfl)⟩ rfl (Nat.le_of_ble_eq_true rfl) rfl rfl (fun _ _ h => h.elim) ?_
    rintro _ _ ⟨_, _, ⟨rfl, f35, g35, ht35, rfl⟩, rfl, rfl⟩
    refine j_ws (L' := z_cw _ _ _ _ _ _ _ _ _ _ _ _ _ _ _ _ _ _ _ _ _ _ _ _ _ _ _ _ _ _ _ _ _ _ _ _ _ _ _ _ _ _ _ _ _ _ _ _ _ _ _ _ _ _ _ _ []) (by decide) rfl rfl ?_
    refine j_aload dX8_areCopiesLike_29 rfl rfl ?_
    refine j_aload_n dX8_areCopiesLike_31 rfl rfl ?_
    refine j_callV (q := (RX4, TX4, 5)) dX8_areCopiesLike_32 kX4_hasPairsOf lX8_230 inX4_hasPairsOf seX4_hasPairsOf rfl rfl (z_frame [35, 36, 37, 38, 39, 21, 22, 23, 24, 25] rfl (by decide) (Nat.le_of_ble_eq_true rfl) (c_X4_hasPairsOf_e hl false _ _ _ _ true _ _ _ U ht35 hU)) (Nat.le_of_ble_eq_true rfl) ⟨(Nat.le_of_ble_eq_true rfl), (Nat.le_of_ble_eq_true rfl)⟩ rfl (Nat.le_of_ble_eq_true rfl) rfl rfl (fun _ _ h => h.elim) ?_
    rintro _ _ ⟨_, _, ⟨rfl, rfl⟩, rfl, rfl⟩
    refine j_ws (L' := z_cw _ _ _ _ _ _ _ _ _ _ _ _ _ _ _ _ _ _ _ _ _ _ _ _ _ _ _ _ _ _ _ _ _ _ _ _ _ _ _ _ _ _ _ _ _ _ _ _ _ _ _ _ _ _ _ _ []) (by decide) rfl rfl ?_
    refine j_if_ne (tgt := 40) dX8_areCopiesLike_35 (by decide) (fun c_35 => ?_) (fun c_35 => ?_)
    · have hb35 := z_bt c_35
      refine j_iinc (lo' := [(4, _), (5, _), (3, _), (2, _), (0, _), (1, _)]) dX8_areCopiesLike_40 rfl rfl (by decide) rfl ?_
      refine j_goto (tgt := 11) dX8_areCopiesLike_43 (by decide) ?_
      refine j_iload dX8_areCopiesLike_11 rfl ?_
      refine j_iload_n dX8_areCopiesLike_13 rfl ?_
      refine j_icmp_ge (tgt := 46) dX8_areCopiesLike_14 (by decide) (fun c_14 => ?_) (fun c_14 => ?_)
      · exact absurd c_14 (by decide)
      · refine j_aload_n dX8_areCopiesLike_17 rfl rfl ?_
        refine j_iload dX8_areCopiesLike_18 rfl ?_
        refine j_aald (v := .ref 41) dX8_areCopiesLike_20 rfl rfl rfl (vp_in_iff.mpr (by decide)) rfl ?_
        refine j_astore (lo' := [(5, _), (4, _), (3, _), (2, _), (0, _), (1, _)]) dX8_areCopiesLike_21 rfl (by decide) rfl ?_
        refine j_aload dX8_areCopiesLike_23 rfl rfl ?_
        refine j_aload_n dX8_areCopiesLike_25 rfl rfl ?_
        refine j_callV (q := (RX4, TX4, 5)) dX8_areCopiesLike_26 kX4_become lX8_344 inX4_become seX4_become rfl rfl (z_frame [41, 42, 43, 44, 45, 21, 22, 23, 24, 25] rfl (by decide) (Nat.le_of_ble_eq_true rfl) (c_X4_become_e hl false _ _ _ _ true _ _ _ U hU)) (Nat.le_of_ble_eq_true rfl) ⟨(Nat.le_of_ble_eq_true rfl), (Nat.le_of_ble_eq_true rfl)⟩ rfl (Nat.le_of_ble_eq_true rfl) rfl rfl (fun _ _ h => h.elim) ?_
        rintro _ _ ⟨_, _, ⟨rfl, f41, g41, ht41, rfl⟩, rfl, rfl⟩
        refine j_ws (L' := z_cw _ _ _ _ _ _ _ _ _ _ _ _ _ _ _ _ _ _ _ _ _ _ _ _ _ _ _ _ _ _ _ _ _ _ _ _ _ _ _ _ _ _ _ _ _ _ _ _ _ _ _ _ _ _ _ _ []) (by decide) rfl rfl ?_
        refine j_aload dX8_areCopiesLike_29 rfl rfl ?_
        refine j_aload_n dX8_areCopiesLike_31 rfl rfl ?_
        refine j_callV (q := (RX4, TX4, 5)) dX8_areCopiesLike_32 kX4_hasPairsOf lX8_230 inX4_hasPairsOf seX4_hasPairsOf rfl rfl (z_frame [41, 42, 43, 44, 45, 21, 22, 23, 24, 25] rfl (by decide) (Nat.le_of_ble_eq_true rfl) (c_X4_hasPairsOf_e hl false _ _ _ _ true _ _ _ U ht41 hU)) (Nat.le_of_ble_eq_true rfl) ⟨(Nat.le_of_ble_eq_true rfl), (Nat.le_of_ble_eq_true rfl)⟩ rfl (Nat.le_of_ble_eq_true rfl) rfl rfl (fun _ _ h => h.elim) ?_
        rintro _ _ ⟨_, _, ⟨rfl, rfl⟩, rfl, rfl⟩
        refine j_ws (L' := z_cw _ _ _ _ _ _ _ _ _ _ _ _ _ _ _ _ _ _ _ _ _ _ _ _ _ _ _ _ _ _ _ _ _ _ _ _ _ _ _ _ _ _ _ _ _ _ _ _ _ _ _ _ _ _ _ _ []) (by decide) rfl rfl ?_
        refine j_if_ne (tgt := 40) dX8_areCopiesLike_35 (by decide) (fun c_35 => ?_) (fun c_35 => ?_)
        · have hb35 := z_bt c_35
          refine j_iinc (lo' := [(4, _), (5, _), (3, _), (2, _), (0, _), (1, _)]) dX8_areCopiesLike_40 rfl rfl (by decide) rfl ?_
          refine j_goto (tgt := 11) dX8_areCopiesLike_43 (by decide) ?_
          refine j_iload dX8_areCopiesLike_11 rfl ?_
          refine j_iload_n dX8_areCopiesLike_13 rfl ?_
          refine j_icmp_ge (tgt := 46) dX8_areCopiesLike_14 (by decide) (fun c_14 => ?_) (fun c_14 => ?_)
          · exact absurd c_14 (by decide)
          · refine j_aload_n dX8_areCopiesLike_17 rfl rfl ?_
            refine j_iload dX8_areCopiesLike_18 rfl ?_
            refine j_aald (v := .ref 46) dX8_areCopiesLike_20 rfl rfl rfl (vp_in_iff.mpr (by decide)) rfl ?_
            refine j_astore (lo' := [(5, _), (4, _), (3, _), (2, _), (0, _), (1, _)]) dX8_areCopiesLike_21 rfl (by decide) rfl ?_
            refine j_aload dX8_areCopiesLike_23 rfl rfl ?_
            refine j_aload_n dX8_areCopiesLike_25 rfl rfl ?_
            refine j_callV (q := (RX4, TX4, 5)) dX8_areCopiesLike_26 kX4_become lX8_344 inX4_become seX4_become rfl rfl (z_frame [46, 47, 48, 49, 50, 21, 22, 23, 24, 25] rfl (by decide) (Nat.le_of_ble_eq_true rfl) (c_X4_become_e hl true _ _ _ _ true _ _ _ U hU)) (Nat.le_of_ble_eq_true rfl) ⟨(Nat.le_of_ble_eq_true rfl), (Nat.le_of_ble_eq_true rfl)⟩ rfl (Nat.le_of_ble_eq_true rfl) rfl rfl (fun _ _ h => h.elim) ?_
            rintro _ _ ⟨_, _, ⟨rfl, f46, g46, ht46, rfl⟩, rfl, rfl⟩
            refine j_ws (L' := z_cw _ _ _ _ _ _ _ _ _ _ _ _ _ _ _ _ _ _ _ _ _ _ _ _ _ _ _ _ _ _ _ _ _ _ _ _ _ _ _ _ _ _ _ _ _ _ _ _ _ _ _ _ _ _ _ _ []) (by decide) rfl rfl ?_
            refine j_aload dX8_areCopiesLike_29 rfl rfl ?_
            refine j_aload_n dX8_areCopiesLike_31 rfl rfl ?_
            refine j_callV (q := (RX4, TX4, 5)) dX8_areCopiesLike_32 kX4_hasPairsOf lX8_230 inX4_hasPairsOf seX4_hasPairsOf rfl rfl (z_frame [46, 47, 48, 49, 50, 21, 22, 23, 24, 25] rfl (by decide) (Nat.le_of_ble_eq_true rfl) (c_X4_hasPairsOf_e hl true _ _ _ _ true _ _ _ U ht46 hU)) (Nat.le_of_ble_eq_true rfl) ⟨(Nat.le_of_ble_eq_true rfl), (Nat.le_of_ble_eq_true rfl)⟩ rfl (Nat.le_of_ble_eq_true rfl) rfl rfl (fun _ _ h => h.elim) ?_
            rintro _ _ ⟨_, _, ⟨rfl, rfl⟩, rfl, rfl⟩
            refine j_ws (L' := z_cw _ _ _ _ _ _ _ _ _ _ _ _ _ _ _ _ _ _ _ _ _ _ _ _ _ _ _ _ _ _ _ _ _ _ _ _ _ _ _ _ _ _ _ _ _ _ _ _ _ _ _ _ _ _ _ _ []) (by decide) rfl rfl ?_
            refine j_if_ne (tgt := 40) dX8_areCopiesLike_35 (by decide) (fun c_35 => ?_) (fun c_35 => ?_)
            · have hb35 := z_bt c_35
              refine j_iinc (lo' := [(4, _), (5, _), (3, _), (2, _), (0, _), (1, _)]) dX8_areCopiesLike_40 rfl rfl (by decide) rfl ?_
              refine j_goto (tgt := 11) dX8_areCopiesLike_43 (by decide) ?_
              refine j_iload dX8_areCopiesLike_11 rfl ?_
              refine j_iload_n dX8_areCopiesLike_13 rfl ?_
              refine j_icmp_ge (tgt := 46) dX8_areCopiesLike_14 (by decide) (fun c_14 => ?_) (fun c_14 => ?_)
              · refine j_iconst (v := 1) dX8_areCopiesLike_46 (by decide) ?_
                refine j_iret dX8_areCopiesLike_47 rfl rfl ?_ (Nat.le_of_ble_eq_true rfl) (Nat.le_of_ble_eq_true rfl)
                exact ⟨rfl, (by first | exact z_cwl | rfl), rfl, _, _, _, _, _, _, _, _, _, _, _, _, sp_m20 ht35.len, sp_m20 ht41.len, sp_m20 ht46.len, rfl⟩
              · exact absurd (by decide) c_14
            · have hb35 := z_bF c_35
              exact absurd (hb35.symm.trans (sp_lik1 (fun j _ => sp_lk_cp hU.1))) (by decide)
        · have hb35 := z_bF c_35
          exact absurd (hb35.symm.trans (sp_lik1 (fun j _ => sp_lk_cp hU.1))) (by decide)
    · have hb35 := z_bF c_35
      exact absurd (hb35.symm.trans (sp_lik1 (fun j _ => sp_lk_cp hU.1))) (by decide)
set_option maxRecDepth 100000 in
set_option maxHeartbeats 16000000 in
theorem c_X8_isCallLike_2_e (hl : l.stackTraces = false) (rf : Int32) (kn : Int32) (ma : Int32) (xa : Bool) (fa : Nat → Int32) (ca : Nat → Int32) (mb : Int32) (xb : Bool) (fb : Nat → Int32) (cb : Nat → Int32) (mt : Int32) (ft : Nat → Int32) (ct : Nat → Int32) (f0 : Nat → Int32) (g0 : Nat → Int32) (c0 : Nat → Int32) (m0 : Int32) (f1 : Nat → Int32) (g1 : Nat → Int32) (c1 : Nat → Int32) (m1 : Int32) (f2 : Nat → Int32) (g2 : Nat → Int32) (c2 : Nat → Int32) (f3 : Nat → Int32) (g3 : Nat → Int32) (c3 : Nat → Int32) (m3 : Int32) (f4 : Nat → Int32) (g4 : Nat → Int32) (c4 : Nat → Int32) (m4 : Int32) (f5 : Nat → Int32) (g5 : Nat → Int32) (c5 : Nat → Int32) (m5 : Int32) (ek0 : Int32) (em0 : Int32) (es0 : Int32) (el0 : Int32) (b0 : Int32) (ef0 : Nat → Int32) (ek1 : Int32) (em1 : Int32) (es1 : Int32) (el1 : Int32) (b1 : Int32) (ef1 : Nat → Int32) (U : List (Nat × Int32)) (p : Int32) (k : Nat) (t : Int32) (hU : z_tba f2 g2 U) (hk : k < 20) : z_CF G l mX8_isCallLike 17 0 0 (z_cw rf kn ma xa fa ca mb xb fb cb mt false ft ct f0 g0 c0 m0 0 f1 g1 c1 m1 0 f2 g2 c2 (nI U.length) 1 f3 g3 c3 m3 0 f4 g4 c4 m4 0 f5 g5 c5 m5 1 ek0 em0 es0 el0 b0 ef0 ek1 em1 es1 el1 b1 ef1 []) [.ref 0, .ref 21, .int p, .int (nI k), .int t] (fun v L => v = some (.int 1) ∧ ∃ (f3' g3' c3' : Nat → Int32) (m3' : Int32) (f4' g4' c4' : Nat → Int32) (m4' : Int32) (f5' g5' c5' : Nat → Int32) (m5' : Int32), z_m20 m3' ∧ z_m20 m4' ∧ z_m20 m5' ∧ L = (z_cw rf kn ma xa fa ca mb xb fb cb mt false ft ct f0 g0 c0 m0 0 f1 g1 c1 m1 0 f2 g2 c2 (nI U.length) 1 f3' g3' c3' m3' 0 f4' g4' c4' m4' 0 f5' g5' c5' m5' 1 ek0 em0 es0 el0 b0 ef0 ek1 em1 es1 el1 b1 ef1 [])) := by
  refine z_body hl (by decide) rfl (Nat.le_of_ble_eq_true rfl) ?_
  show z_J G l mX8_isCallLike (z_SF 17 0 0 (z_cw rf kn ma xa fa ca mb xb fb cb mt false ft ct f0 g0 c0 m0 0 f1 g1 c1 m1 0 f2 g2 c2 (nI U.length) 1 f3 g3 c3 m3 0 f4 g4 c4 m4 0 f5 g5 c5 m5 1 ek0 em0 es0 el0 b0 ef0 ek1 em1 es1 el1 b1 ef1 []) (fun v L => v = some (.int 1) ∧ ∃ (f3' g3' c3' : Nat → Int32) (m3' : Int32) (f4' g4' c4' : Nat → Int32) (m4' : Int32) (f5' g5' c5' : Nat → Int32) (m5' : Int32), z_m20 m3' ∧ z_m20 m4' ∧ z_m20 m5' ∧ L = (z_cw rf kn ma xa fa ca mb xb fb cb mt false ft ct f0 g0 c0 m0 0 f1 g1 c1 m1 0 f2 g2 c2 (nI U.length) 1 f3' g3' c3' m3' 0 f4' g4' c4' m4' 0 f5' g5' c5' m5' 1 ek0 em0 es0 el0 b0 ef0 ek1 em1 es1 el1 b1 ef1 []))) 0 [(0, _), (1, _), (2, _), (3, _), (4, _)] [] _ 0 0
  refine j_iconst (v := 0) dX8_isCallLike_0 (by decide) ?_
  refine j_istore (lo' := [(5, _), (0, _), (1, _), (2, _), (3, _), (4, _)]) dX8_isCallLike_1 (by decide) rfl ?_
  refine j_aload_n dX8_isCallLike_3 rfl rfl ?_
  refine j_getf dX8_isCallLike_4 fX8_43 rfl rfl ?_
  refine j_astore (lo' := [(6, _), (5, _), (0, _), (1, _), (2, _), (3, _), (4, _)]) dX8_isCallLike_7 rfl (by decide) rfl ?_
  refine j_aload dX8_isCallLike_9 rfl rfl ?_
  refine j_alen dX8_isCallLike_11 rfl rfl rfl ?_
  refine j_istore (lo' := [(7, _), (6, _), (5, _), (0, _), (1, _), (2, _), (3, _), (4, _)]) dX8_isCallLike_12 (by decide) rfl ?_
  refine j_iconst (v := 0) dX8_isCallLike_14 (by decide) ?_
  refine j_istore (lo' := [(8, _), (7, _), (6, _), (5, _), (0, _), (1, _), (2, _), (3, _), (4, _)]) dX8_isCallLike_15 (by decide) rfl ?_
  refine j_iload dX8_isCallLike_17 rfl ?_
  refine j_iload dX8_isCallLike_19 rfl ?_
  refine j_icmp_ge (tgt := 160) dX8_isCallLike_21 (by decide) (fun c_21 => ?_) (fun c_21 => ?_)
  · exact absurd c_21 (by decide)
  · refine j_aload dX8_isCallLike_24 rfl rfl ?_
    refine j_iload dX8_isCallLike_26 rfl ?_
    refine j_aald (v := .ref 35) dX8_isCallLike_28 rfl rfl rfl (vp_in_iff.mpr (by decide)) rfl ?_
    refine j_astore (lo' := [(9, _), (8, _), (7, _), (6, _), (5, _), (0, _), (1, _), (2, _), (3, _), (4, _)]) dX8_isCallLike_29 rfl (by decide) rfl ?_
    refine j_aload dX8_isCallLike_31 rfl rfl ?_
    refine j_aload_n dX8_isCallLike_33 rfl rfl ?_
    refine j_callV (q := (RX4, TX4, 5)) dX8_isCallLike_34 kX4_become lX8_344 inX4_become seX4_become rfl rfl (z_frame [35, 36, 37, 38, 39, 21, 22, 23, 24, 25] rfl (by decide) (Nat.le_of_ble_eq_true rfl) (c_X4_become_e hl false _ _ _ _ true _ _ _ U hU)) (Nat.le_of_ble_eq_true rfl) ⟨(Nat.le_of_ble_eq_true rfl), (Nat.le_of_ble_eq_true rfl)⟩ rfl (Nat.le_of_ble_eq_true rfl) rfl rfl (fun _ _ h => h.elim) ?_
    rintro _ _ ⟨_, _, ⟨rfl, f35, g35, ht35, rfl⟩, rfl, rfl⟩
    refine j_ws (L' := z_cw _ _ _ _ _ _ _ _ _ _ _ _ _ _ _ _ _ _ _ _ _ _ _ _ _ _ _ _ _ _ _ _ _ _ _ _ _ _ _ _ _ _ _ _ _ _ _ _ _ _ _ _ _ _ _ _ []) (by decide) rfl rfl ?_
    refine j_iload_n dX8_isCallLike_37 rfl ?_
    rcases z_sw3 p with rfl | rfl | rfl | hp
    · refine j_tsIn (tgt := 64) dX8_isCallLike_38 (by decide) (by decide) rfl (by decide) ?_
      refine j_aload dX8_isCallLike_64 rfl rfl ?_
      refine j_iload_n dX8_isCallLike_66 rfl ?_
      refine j_iload dX8_isCallLike_67 rfl ?_
      refine j_iconst (v := 1) dX8_isCallLike_69 (by decide) ?_
      refine j_callV (q := (RX4, TX4, 5)) dX8_isCallLike_70 kX4_reckon lX8_151 inX4_reckon seX4_reckon rfl rfl (z_frame [35, 36, 37, 38, 39] rfl (by decide) (Nat.le_of_ble_eq_true rfl) (c_X4_reckon_e hl false _ _ _ _ k t 1 ht35 hk so_v1)) (Nat.le_of_ble_eq_true rfl) ⟨(Nat.le_of_ble_eq_true rfl), (Nat.le_of_ble_eq_true rfl)⟩ rfl (Nat.le_of_ble_eq_true rfl) rfl rfl (fun _ _ h => h.elim) ?_
      rintro _ _ ⟨_, _, ⟨rfl, f35, g35, ht35, rfl⟩, rfl, rfl⟩
      refine j_ws (L' := z_cw _ _ _ _ _ _ _ _ _ _ _ _ _ _ _ _ _ _ _ _ _ _ _ _ _ _ _ _ _ _ _ _ _ _ _ _ _ _ _ _ _ _ _ _ _ _ _ _ _ _ _ _ _ _ _ _ []) (by decide) rfl rfl ?_
      refine j_istore (lo' := [(10, _), (9, _), (8, _), (7, _), (6, _), (5, _), (0, _), (1, _), (2, _), (3, _), (4, _)]) dX8_isCallLike_73 (by decide) rfl ?_
      refine j_goto (tgt := 117) dX8_isCallLike_75 (by decide) ?_
      refine j_aload dX8_isCallLike_117 rfl rfl ?_
      refine j_aload_n dX8_isCallLike_119 rfl rfl ?_
      refine j_getf dX8_isCallLike_120 fX8_40 rfl rfl ?_
      refine j_acmp_ne (tgt := 133) dX8_isCallLike_123 (by decide) (fun c_123 => ?_) (fun c_123 => ?_)
      · exact absurd rfl c_123
      · refine j_iload dX8_isCallLike_126 rfl ?_
        refine j_istore (lo' := [(5, _), (10, _), (9, _), (8, _), (7, _), (6, _), (0, _), (1, _), (2, _), (3, _), (4, _)]) dX8_isCallLike_128 (by decide) rfl ?_
        refine j_goto (tgt := 154) dX8_isCallLike_130 (by decide) ?_
        refine j_iinc (lo' := [(8, _), (5, _), (10, _), (9, _), (7, _), (6, _), (0, _), (1, _), (2, _), (3, _), (4, _)]) dX8_isCallLike_154 rfl rfl (by decide) rfl ?_
        refine j_goto (tgt := 17) dX8_isCallLike_157 (by decide) ?_
        refine j_iload dX8_isCallLike_17 rfl ?_
        refine j_iload dX8_isCallLike_19 rfl ?_
        refine j_icmp_ge (tgt := 160) dX8_isCallLike_21 (by decide) (fun c_21 => ?_) (fun c_21 => ?_)
        · exact absurd c_21 (by decide)
        · refine j_aload dX8_isCallLike_24 rfl rfl ?_
          refine j_iload dX8_isCallLike_26 rfl ?_
          refine j_aald (v := .ref 41) dX8_isCallLike_28 rfl rfl rfl (vp_in_iff.mpr (by decide)) rfl ?_
          refine j_astore (lo' := [(9, _), (8, _), (5, _), (10, _), (7, _), (6, _), (0, _), (1, _), (2, _), (3, _), (4, _)]) dX8_isCallLike_29 rfl (by decide) rfl ?_
          refine j_aload dX8_isCallLike_31 rfl rfl ?_
          refine j_aload_n dX8_isCallLike_33 rfl rfl ?_
          refine j_callV (q := (RX4, TX4, 5)) dX8_isCallLike_34 kX4_become lX8_344 inX4_become seX4_become rfl rfl (z_frame [41, 42, 43, 44, 45, 21, 22, 23, 24, 25] rfl (by decide) (Nat.le_of_ble_eq_true rfl) (c_X4_become_e hl false _ _ _ _ true _ _ _ U hU)) (Nat.le_of_ble_eq_true rfl) ⟨(Nat.le_of_ble_eq_true rfl), (Nat.le_of_ble_eq_true rfl)⟩ rfl (Nat.le_of_ble_eq_true rfl) rfl rfl (fun _ _ h => h.elim) ?_
          rintro _ _ ⟨_, _, ⟨rfl, f41, g41, ht41, rfl⟩, rfl, rfl⟩
          refine j_ws (L' := z_cw _ _ _ _ _ _ _ _ _ _ _ _ _ _ _ _ _ _ _ _ _ _ _ _ _ _ _ _ _ _ _ _ _ _ _ _ _ _ _ _ _ _ _ _ _ _ _ _ _ _ _ _ _ _ _ _ []) (by decide) rfl rfl ?_
          refine j_iload_n dX8_isCallLike_37 rfl ?_
          refine j_tsIn (tgt := 64) dX8_isCallLike_38 (by decide) (by decide) rfl (by decide) ?_
          refine j_aload dX8_isCallLike_64 rfl rfl ?_
          refine j_iload_n dX8_isCallLike_66 rfl ?_
          refine j_iload dX8_isCallLike_67 rfl ?_
          refine j_iconst (v := 1) dX8_isCallLike_69 (by decide) ?_
          refine j_callV (q := (RX4, TX4, 5)) dX8_isCallLike_70 kX4_reckon lX8_151 inX4_reckon seX4_reckon rfl rfl (z_frame [41, 42, 43, 44, 45] rfl (by decide) (Nat.le_of_ble_eq_true rfl) (c_X4_reckon_e hl false _ _ _ _ k t 1 ht41 hk so_v1)) (Nat.le_of_ble_eq_true rfl) ⟨(Nat.le_of_ble_eq_true rfl), (Nat.le_of_ble_eq_true rfl)⟩ rfl (Nat.le_of_ble_eq_true rfl) rfl rfl (fun _ _ h => h.elim) ?_
          rintro _ _ ⟨_, _, ⟨rfl, f41, g41, ht41, rfl⟩, rfl, rfl⟩
          refine j_ws (L' := z_cw _ _ _ _ _ _ _ _ _ _ _ _ _ _ _ _ _ _ _ _ _ _ _ _ _ _ _ _ _ _ _ _ _ _ _ _ _ _ _ _ _ _ _ _ _ _ _ _ _ _ _ _ _ _ _ _ []) (by decide) rfl rfl ?_
          refine j_istore (lo' := [(10, _), (9, _), (8, _), (5, _), (7, _), (6, _), (0, _), (1, _), (2, _), (3, _), (4, _)]) dX8_isCallLike_73 (by decide) rfl ?_
          refine j_goto (tgt := 117) dX8_isCallLike_75 (by decide) ?_
          refine j_aload dX8_isCallLike_117 rfl rfl ?_
          refine j_aload_n dX8_isCallLike_119 rfl rfl ?_
          refine j_getf dX8_isCallLike_120 fX8_40 rfl rfl ?_
          refine j_acmp_ne (tgt := 133) dX8_isCallLike_123 (by decide) (fun c_123 => ?_) (fun c_123 => ?_)
          · refine j_iload dX8_isCallLike_133 rfl ?_
            refine j_iload dX8_isCallLike_135 rfl ?_
            refine j_icmp_ne (tgt := 152) dX8_isCallLike_137 (by decide) (fun c_137 => ?_) (fun c_137 => ?_)
            · exact (c_137 (congrArg (fun z => Option.getD z (-1001)) (so_0 (b := false) (b' := false) (k := k) (r := t) hU.1).1)).elim
            · refine j_aload dX8_isCallLike_140 rfl rfl ?_
              refine j_aload_n dX8_isCallLike_142 rfl rfl ?_
              refine j_getf dX8_isCallLike_143 fX8_40 rfl rfl ?_
              refine j_callV (q := (RX4, TX4, 5)) dX8_isCallLike_146 kX4_hasPairsOf lX8_230 inX4_hasPairsOf seX4_hasPairsOf rfl rfl (z_frame [41, 42, 43, 44, 45, 35, 36, 37, 38, 39] rfl (by decide) (Nat.le_of_ble_eq_true rfl) (c_X4_hasPairsOf_e hl false _ _ _ _ false _ _ _ _ ht41 ht35)) (Nat.le_of_ble_eq_true rfl) ⟨(Nat.le_of_ble_eq_true rfl), (Nat.le_of_ble_eq_true rfl)⟩ rfl (Nat.le_of_ble_eq_true rfl) rfl rfl (fun _ _ h => h.elim) ?_
              rintro _ _ ⟨_, _, ⟨rfl, rfl⟩, rfl, rfl⟩
              refine j_ws (L' := z_cw _ _ _ _ _ _ _ _ _ _ _ _ _ _ _ _ _ _ _ _ _ _ _ _ _ _ _ _ _ _ _ _ _ _ _ _ _ _ _ _ _ _ _ _ _ _ _ _ _ _ _ _ _ _ _ _ []) (by decide) rfl rfl ?_
              refine j_if_ne (tgt := 154) dX8_isCallLike_149 (by decide) (fun c_149 => ?_) (fun c_149 => ?_)
              · have hb149 := z_bt c_149
                refine j_iinc (lo' := [(8, _), (10, _), (9, _), (5, _), (7, _), (6, _), (0, _), (1, _), (2, _), (3, _), (4, _)]) dX8_isCallLike_154 rfl rfl (by decide) rfl ?_
                refine j_goto (tgt := 17) dX8_isCallLike_157 (by decide) ?_
                refine j_iload dX8_isCallLike_17 rfl ?_
                refine j_iload dX8_isCallLike_19 rfl ?_
                refine j_icmp_ge (tgt := 160) dX8_isCallLike_21 (by decide) (fun c_21 => ?_) (fun c_21 => ?_)
                · exact absurd c_21 (by decide)
                · refine j_aload dX8_isCallLike_24 rfl rfl ?_
                  refine j_iload dX8_isCallLike_26 rfl ?_
                  refine j_aald (v := .ref 46) dX8_isCallLike_28 rfl rfl rfl (vp_in_iff.mpr (by decide)) rfl ?_
                  refine j_astore (lo' := [(9, _), (8, _), (10, _), (5, _), (7, _), (6, _), (0, _), (1, _), (2, _), (3, _), (4, _)]) dX8_isCallLike_29 rfl (by decide) rfl ?_
                  refine j_aload dX8_isCallLike_31 rfl rfl ?_
                  refine j_aload_n dX8_isCallLike_33 rfl rfl ?_
                  refine j_callV (q := (RX4, TX4, 5)) dX8_isCallLike_34 kX4_become lX8_344 inX4_become seX4_become rfl rfl (z_frame [46, 47, 48, 49, 50, 21, 22, 23, 24, 25] rfl (by decide) (Nat.le_of_ble_eq_true rfl) (c_X4_become_e hl true _ _ _ _ true _ _ _ U hU)) (Nat.le_of_ble_eq_true rfl) ⟨(Nat.le_of_ble_eq_true rfl), (Nat.le_of_ble_eq_true rfl)⟩ rfl (Nat.le_of_ble_eq_true rfl) rfl rfl (fun _ _ h => h.elim) ?_
                  rintro _ _ ⟨_, _, ⟨rfl, f46, g46, ht46, rfl⟩, rfl, rfl⟩
                  refine j_ws (L' := z_cw _ _ _ _ _ _ _ _ _ _ _ _ _ _ _ _ _ _ _ _ _ _ _ _ _ _ _ _ _ _ _ _ _ _ _ _ _ _ _ _ _ _ _ _ _ _ _ _ _ _ _ _ _ _ _ _ []) (by decide) rfl rfl ?_
                  refine j_iload_n dX8_isCallLike_37 rfl ?_
                  refine j_tsIn (tgt := 64) dX8_isCallLike_38 (by decide) (by decide) rfl (by decide) ?_
                  refine j_aload dX8_isCallLike_64 rfl rfl ?_
                  refine j_iload_n dX8_isCallLike_66 rfl ?_
                  refine j_iload dX8_isCallLike_67 rfl ?_
                  refine j_iconst (v := 1) dX8_isCallLike_69 (by decide) ?_
                  refine j_callV (q := (RX4, TX4, 5)) dX8_isCallLike_70 kX4_reckon lX8_151 inX4_reckon seX4_reckon rfl rfl (z_frame [46, 47, 48, 49, 50] rfl (by decide) (Nat.le_of_ble_eq_true rfl) (c_X4_reckon_e hl true _ _ _ _ k t 1 ht46 hk so_v1)) (Nat.le_of_ble_eq_true rfl) ⟨(Nat.le_of_ble_eq_true rfl), (Nat.le_of_ble_eq_true rfl)⟩ rfl (Nat.le_of_ble_eq_true rfl) rfl rfl (fun _ _ h => h.elim) ?_
                  rintro _ _ ⟨_, _, ⟨rfl, f46, g46, ht46, rfl⟩, rfl, rfl⟩
                  refine j_ws (L' := z_cw _ _ _ _ _ _ _ _ _ _ _ _ _ _ _ _ _ _ _ _ _ _ _ _ _ _ _ _ _ _ _ _ _ _ _ _ _ _ _ _ _ _ _ _ _ _ _ _ _ _ _ _ _ _ _ _ []) (by decide) rfl rfl ?_
                  refine j_istore (lo' := [(10, _), (9, _), (8, _), (5, _), (7, _), (6, _), (0, _), (1, _), (2, _), (3, _), (4, _)]) dX8_isCallLike_73 (by decide) rfl ?_
                  refine j_goto (tgt := 117) dX8_isCallLike_75 (by decide) ?_
                  refine j_aload dX8_isCallLike_117 rfl rfl ?_
                  refine j_aload_n dX8_isCallLike_119 rfl rfl ?_
                  refine j_getf dX8_isCallLike_120 fX8_40 rfl rfl ?_
                  refine j_acmp_ne (tgt := 133) dX8_isCallLike_123 (by decide) (fun c_123 => ?_) (fun c_123 => ?_)
                  · refine j_iload dX8_isCallLike_133 rfl ?_
                    refine j_iload dX8_isCallLike_135 rfl ?_
                    refine j_icmp_ne (tgt := 152) dX8_isCallLike_137 (by decide) (fun c_137 => ?_) (fun c_137 => ?_)
                    · exact (c_137 (congrArg (fun z => Option.getD z (-1001)) (so_0 (b := true) (b' := false) (k := k) (r := t) hU.1).1)).elim
                    · refine j_aload dX8_isCallLike_140 rfl rfl ?_
                      refine j_aload_n dX8_isCallLike_142 rfl rfl ?_
                      refine j_getf dX8_isCallLike_143 fX8_40 rfl rfl ?_
                      refine j_callV (q := (RX4, TX4, 5)) dX8_isCallLike_146 kX4_hasPairsOf lX8_230 inX4_hasPairsOf seX4_hasPairsOf rfl rfl (z_frame [46, 47, 48, 49, 50, 35, 36, 37, 38, 39] rfl (by decide) (Nat.le_of_ble_eq_true rfl) (c_X4_hasPairsOf_e hl true _ _ _ _ false _ _ _ _ ht46 ht35)) (Nat.le_of_ble_eq_true rfl) ⟨(Nat.le_of_ble_eq_true rfl), (Nat.le_of_ble_eq_true rfl)⟩ rfl (Nat.le_of_ble_eq_true rfl) rfl rfl (fun _ _ h => h.elim) ?_
                      rintro _ _ ⟨_, _, ⟨rfl, rfl⟩, rfl, rfl⟩
                      refine j_ws (L' := z_cw _ _ _ _ _ _ _ _ _ _ _ _ _ _ _ _ _ _ _ _ _ _ _ _ _ _ _ _ _ _ _ _ _ _ _ _ _ _ _ _ _ _ _ _ _ _ _ _ _ _ _ _ _ _ _ _ []) (by decide) rfl rfl ?_
                      refine j_if_ne (tgt := 154) dX8_isCallLike_149 (by decide) (fun c_149 => ?_) (fun c_149 => ?_)
                      · have hb149 := z_bt c_149
                        refine j_iinc (lo' := [(8, _), (10, _), (9, _), (5, _), (7, _), (6, _), (0, _), (1, _), (2, _), (3, _), (4, _)]) dX8_isCallLike_154 rfl rfl (by decide) rfl ?_
                        refine j_goto (tgt := 17) dX8_isCallLike_157 (by decide) ?_
                        refine j_iload dX8_isCallLike_17 rfl ?_
                        refine j_iload dX8_isCallLike_19 rfl ?_
                        refine j_icmp_ge (tgt := 160) dX8_isCallLike_21 (by decide) (fun c_21 => ?_) (fun c_21 => ?_)
                        · refine j_iconst (v := 1) dX8_isCallLike_160 (by decide) ?_
                          refine j_iret dX8_isCallLike_161 rfl rfl ?_ (Nat.le_of_ble_eq_true rfl) (Nat.le_of_ble_eq_true rfl)
                          exact ⟨rfl, (by first | exact z_cwl | rfl), rfl, _, _, _, _, _, _, _, _, _, _, _, _, sp_m20 ht35.len, sp_m20 ht41.len, sp_m20 ht46.len, rfl⟩
                        · exact absurd (by decide) c_21
                      · have hb149 := z_bF c_149
                        exact absurd (hb149.symm.trans (sp_lik1 (fun j _ => (so_0 (b := true) (b' := false) (k := k) (r := t) hU.1).2 j))) (by decide)
                  · exact absurd c_123 (by decide)
              · have hb149 := z_bF c_149
                exact absurd (hb149.symm.trans (sp_lik1 (fun j _ => (so_0 (b := false) (b' := false) (k := k) (r := t) hU.1).2 j))) (by decide)
          · exact absurd c_123 (by decide)
    · refine j_tsIn (tgt := 78) dX8_isCallLike_38 (by decide) (by decide) rfl (by decide) ?_
      refine j_aload dX8_isCallLike_78 rfl rfl ?_
      refine j_iload_n dX8_isCallLike_80 rfl ?_
      refine j_iload dX8_isCallLike_81 rfl ?_
      refine j_iconst (v := 1) dX8_isCallLike_83 (by decide) ?_
      refine j_callV (q := (RX4, TX4, 5)) dX8_isCallLike_84 kX4_reckonAbsent lX8_144 inX4_reckonAbsent seX4_reckonAbsent rfl rfl (z_frame [35, 36, 37, 38, 39] rfl (by decide) (Nat.le_of_ble_eq_true rfl) (c_X4_reckonAbsent_e hl false _ _ _ _ k t 1 ht35 hk so_v1)) (Nat.le_of_ble_eq_true rfl) ⟨(Nat.le_of_ble_eq_true rfl), (Nat.le_of_ble_eq_true rfl)⟩ rfl (Nat.le_of_ble_eq_true rfl) rfl rfl (fun _ _ h => h.elim) ?_
      rintro _ _ ⟨_, _, ⟨rfl, f35, g35, ht35, rfl⟩, rfl, rfl⟩
      refine j_ws (L' := z_cw _ _ _ _ _ _ _ _ _ _ _ _ _ _ _ _ _ _ _ _ _ _ _ _ _ _ _ _ _ _ _ _ _ _ _ _ _ _ _ _ _ _ _ _ _ _ _ _ _ _ _ _ _ _ _ _ []) (by decide) rfl rfl ?_
      refine j_istore (lo' := [(10, _), (9, _), (8, _), (7, _), (6, _), (5, _), (0, _), (1, _), (2, _), (3, _), (4, _)]) dX8_isCallLike_87 (by decide) rfl ?_
      refine j_goto (tgt := 117) dX8_isCallLike_89 (by decide) ?_
      refine j_aload dX8_isCallLike_117 rfl rfl ?_
      refine j_aload_n dX8_isCallLike_119 rfl rfl ?_
      refine j_getf dX8_isCallLike_120 fX8_40 rfl rfl ?_
      refine j_acmp_ne (tgt := 133) dX8_isCallLike_123 (by decide) (fun c_123 => ?_) (fun c_123 => ?_)
      · exact absurd rfl c_123
      · refine j_iload dX8_isCallLike_126 rfl ?_
        refine j_istore (lo' := [(5, _), (10, _), (9, _), (8, _), (7, _), (6, _), (0, _), (1, _), (2, _), (3, _), (4, _)]) dX8_isCallLike_128 (by decide) rfl ?_
        refine j_goto (tgt := 154) dX8_isCallLike_130 (by decide) ?_
        refine j_iinc (lo' := [(8, _), (5, _), (10, _), (9, _), (7, _), (6, _), (0, _), (1, _), (2, _), (3, _), (4, _)]) dX8_isCallLike_154 rfl rfl (by decide) rfl ?_
        refine j_goto (tgt := 17) dX8_isCallLike_157 (by decide) ?_
        refine j_iload dX8_isCallLike_17 rfl ?_
        refine j_iload dX8_isCallLike_19 rfl ?_
        refine j_icmp_ge (tgt := 160) dX8_isCallLike_21 (by decide) (fun c_21 => ?_) (fun c_21 => ?_)
        · exact absurd c_21 (by decide)
        · refine j_aload dX8_isCallLike_24 rfl rfl ?_
          refine j_iload dX8_isCallLike_26 rfl ?_
          refine j_aald (v := .ref 41) dX8_isCallLike_28 rfl rfl rfl (vp_in_iff.mpr (by decide)) rfl ?_
          refine j_astore (lo' := [(9, _), (8, _), (5, _), (10, _), (7, _), (6, _), (0, _), (1, _), (2, _), (3, _), (4, _)]) dX8_isCallLike_29 rfl (by decide) rfl ?_
          refine j_aload dX8_isCallLike_31 rfl rfl ?_
          refine j_aload_n dX8_isCallLike_33 rfl rfl ?_
          refine j_callV (q := (RX4, TX4, 5)) dX8_isCallLike_34 kX4_become lX8_344 inX4_become seX4_become rfl rfl (z_frame [41, 42, 43, 44, 45, 21, 22, 23, 24, 25] rfl (by decide) (Nat.le_of_ble_eq_true rfl) (c_X4_become_e hl false _ _ _ _ true _ _ _ U hU)) (Nat.le_of_ble_eq_true rfl) ⟨(Nat.le_of_ble_eq_true rfl), (Nat.le_of_ble_eq_true rfl)⟩ rfl (Nat.le_of_ble_eq_true rfl) rfl rfl (fun _ _ h => h.elim) ?_
          rintro _ _ ⟨_, _, ⟨rfl, f41, g41, ht41, rfl⟩, rfl, rfl⟩
          refine j_ws (L' := z_cw _ _ _ _ _ _ _ _ _ _ _ _ _ _ _ _ _ _ _ _ _ _ _ _ _ _ _ _ _ _ _ _ _ _ _ _ _ _ _ _ _ _ _ _ _ _ _ _ _ _ _ _ _ _ _ _ []) (by decide) rfl rfl ?_
          refine j_iload_n dX8_isCallLike_37 rfl ?_
          refine j_tsIn (tgt := 78) dX8_isCallLike_38 (by decide) (by decide) rfl (by decide) ?_
          refine j_aload dX8_isCallLike_78 rfl rfl ?_
          refine j_iload_n dX8_isCallLike_80 rfl ?_
          refine j_iload dX8_isCallLike_81 rfl ?_
          refine j_iconst (v := 1) dX8_isCallLike_83 (by decide) ?_
          refine j_callV (q := (RX4, TX4, 5)) dX8_isCallLike_84 kX4_reckonAbsent lX8_144 inX4_reckonAbsent seX4_reckonAbsent rfl rfl (z_frame [41, 42, 43, 44, 45] rfl (by decide) (Nat.le_of_ble_eq_true rfl) (c_X4_reckonAbsent_e hl false _ _ _ _ k t 1 ht41 hk so_v1)) (Nat.le_of_ble_eq_true rfl) ⟨(Nat.le_of_ble_eq_true rfl), (Nat.le_of_ble_eq_true rfl)⟩ rfl (Nat.le_of_ble_eq_true rfl) rfl rfl (fun _ _ h => h.elim) ?_
          rintro _ _ ⟨_, _, ⟨rfl, f41, g41, ht41, rfl⟩, rfl, rfl⟩
          refine j_ws (L' := z_cw _ _ _ _ _ _ _ _ _ _ _ _ _ _ _ _ _ _ _ _ _ _ _ _ _ _ _ _ _ _ _ _ _ _ _ _ _ _ _ _ _ _ _ _ _ _ _ _ _ _ _ _ _ _ _ _ []) (by decide) rfl rfl ?_
          refine j_istore (lo' := [(10, _), (9, _), (8, _), (5, _), (7, _), (6, _), (0, _), (1, _), (2, _), (3, _), (4, _)]) dX8_isCallLike_87 (by decide) rfl ?_
          refine j_goto (tgt := 117) dX8_isCallLike_89 (by decide) ?_
          refine j_aload dX8_isCallLike_117 rfl rfl ?_
          refine j_aload_n dX8_isCallLike_119 rfl rfl ?_
          refine j_getf dX8_isCallLike_120 fX8_40 rfl rfl ?_
          refine j_acmp_ne (tgt := 133) dX8_isCallLike_123 (by decide) (fun c_123 => ?_) (fun c_123 => ?_)
          · refine j_iload dX8_isCallLike_133 rfl ?_
            refine j_iload dX8_isCallLike_135 rfl ?_
            refine j_icmp_ne (tgt := 152) dX8_isCallLike_137 (by decide) (fun c_137 => ?_) (fun c_137 => ?_)
            · exact (c_137 (congrArg (fun z => Option.getD z (-1001)) (so_1 (b := false) (b' := false) (k := k) (r := t) hU.1).1)).elim
            · refine j_aload dX8_isCallLike_140 rfl rfl ?_
              refine j_aload_n dX8_isCallLike_142 rfl rfl ?_
              refine j_getf dX8_isCallLike_143 fX8_40 rfl rfl ?_
              refine j_callV (q := (RX4, TX4, 5)) dX8_isCallLike_146 kX4_hasPairsOf lX8_230 inX4_hasPairsOf seX4_hasPairsOf rfl rfl (z_frame [41, 42, 43, 44, 45, 35, 36, 37, 38, 39] rfl (by decide) (Nat.le_of_ble_eq_true rfl) (c_X4_hasPairsOf_e hl false _ _ _ _ false _ _ _ _ ht41 ht35)) (Nat.le_of_ble_eq_true rfl) ⟨(Nat.le_of_ble_eq_true rfl), (Nat.le_of_ble_eq_true rfl)⟩ rfl (Nat.le_of_ble_eq_true rfl) rfl rfl (fun _ _ h => h.elim) ?_
              rintro _ _ ⟨_, _, ⟨rfl, rfl⟩, rfl, rfl⟩
              refine j_ws (L' := z_cw _ _ _ _ _ _ _ _ _ _ _ _ _ _ _ _ _ _ _ _ _ _ _ _ _ _ _ _ _ _ _ _ _ _ _ _ _ _ _ _ _ _ _ _ _ _ _ _ _ _ _ _ _ _ _ _ []) (by decide) rfl rfl ?_
              refine j_if_ne (tgt := 154) dX8_isCallLike_149 (by decide) (fun c_149 => ?_) (fun c_149 => ?_)
              · have hb149 := z_bt c_149
                refine j_iinc (lo' := [(8, _), (10, _), (9, _), (5, _), (7, _), (6, _), (0, _), (1, _), (2, _), (3, _), (4, _)]) dX8_isCallLike_154 rfl rfl (by decide) rfl ?_
                refine j_goto (tgt := 17) dX8_isCallLike_157 (by decide) ?_
                refine j_iload dX8_isCallLike_17 rfl ?_
                refine j_iload dX8_isCallLike_19 rfl ?_
                refine j_icmp_ge (tgt := 160) dX8_isCallLike_21 (by decide) (fun c_21 => ?_) (fun c_21 => ?_)
                · exact absurd c_21 (by decide)
                · refine j_aload dX8_isCallLike_24 rfl rfl ?_
                  refine j_iload dX8_isCallLike_26 rfl ?_
                  refine j_aald (v := .ref 46) dX8_isCallLike_28 rfl rfl rfl (vp_in_iff.mpr (by decide)) rfl ?_
                  refine j_astore (lo' := [(9, _), (8, _), (10, _), (5, _), (7, _), (6, _), (0, _), (1, _), (2, _), (3, _), (4, _)]) dX8_isCallLike_29 rfl (by decide) rfl ?_
                  refine j_aload dX8_isCallLike_31 rfl rfl ?_
                  refine j_aload_n dX8_isCallLike_33 rfl rfl ?_
                  refine j_callV (q := (RX4, TX4, 5)) dX8_isCallLike_34 kX4_become lX8_344 inX4_become seX4_become rfl rfl (z_frame [46, 47, 48, 49, 50, 21, 22, 23, 24, 25] rfl (by decide) (Nat.le_of_ble_eq_true rfl) (c_X4_become_e hl true _ _ _ _ true _ _ _ U hU)) (Nat.le_of_ble_eq_true rfl) ⟨(Nat.le_of_ble_eq_true rfl), (Nat.le_of_ble_eq_true rfl)⟩ rfl (Nat.le_of_ble_eq_true rfl) rfl rfl (fun _ _ h => h.elim) ?_
                  rintro _ _ ⟨_, _, ⟨rfl, f46, g46, ht46, rfl⟩, rfl, rfl⟩
                  refine j_ws (L' := z_cw _ _ _ _ _ _ _ _ _ _ _ _ _ _ _ _ _ _ _ _ _ _ _ _ _ _ _ _ _ _ _ _ _ _ _ _ _ _ _ _ _ _ _ _ _ _ _ _ _ _ _ _ _ _ _ _ []) (by decide) rfl rfl ?_
                  refine j_iload_n dX8_isCallLike_37 rfl ?_
                  refine j_tsIn (tgt := 78) dX8_isCallLike_38 (by decide) (by decide) rfl (by decide) ?_
                  refine j_aload dX8_isCallLike_78 rfl rfl ?_
                  refine j_iload_n dX8_isCallLike_80 rfl ?_
                  refine j_iload dX8_isCallLike_81 rfl ?_
                  refine j_iconst (v := 1) dX8_isCallLike_83 (by decide) ?_
                  refine j_callV (q := (RX4, TX4, 5)) dX8_isCallLike_84 kX4_reckonAbsent lX8_144 inX4_reckonAbsent seX4_reckonAbsent rfl rfl (z_frame [46, 47, 48, 49, 50] rfl (by decide) (Nat.le_of_ble_eq_true rfl) (c_X4_reckonAbsent_e hl true _ _ _ _ k t 1 ht46 hk so_v1)) (Nat.le_of_ble_eq_true rfl) ⟨(Nat.le_of_ble_eq_true rfl), (Nat.le_of_ble_eq_true rfl)⟩ rfl (Nat.le_of_ble_eq_true rfl) rfl rfl (fun _ _ h => h.elim) ?_
                  rintro _ _ ⟨_, _, ⟨rfl, f46, g46, ht46, rfl⟩, rfl, rfl⟩
                  refine j_ws (L' := z_cw _ _ _ _ _ _ _ _ _ _ _ _ _ _ _ _ _ _ _ _ _ _ _ _ _ _ _ _ _ _ _ _ _ _ _ _ _ _ _ _ _ _ _ _ _ _ _ _ _ _ _ _ _ _ _ _ []) (by decide) rfl rfl ?_
                  refine j_istore (lo' := [(10, _), (9, _), (8, _), (5, _), (7, _), (6, _), (0, _), (1, _), (2, _), (3, _), (4, _)]) dX8_isCallLike_87 (by decide) rfl ?_
                  refine j_goto (tgt := 117) dX8_isCallLike_89 (by decide) ?_
                  refine j_aload dX8_isCallLike_117 rfl rfl ?_
                  refine j_aload_n dX8_isCallLike_119 rfl rfl ?_
                  refine j_getf dX8_isCallLike_120 fX8_40 rfl rfl ?_
                  refine j_acmp_ne (tgt := 133) dX8_isCallLike_123 (by decide) (fun c_123 => ?_) (fun c_123 => ?_)
                  · refine j_iload dX8_isCallLike_133 rfl ?_
                    refine j_iload dX8_isCallLike_135 rfl ?_
                    refine j_icmp_ne (tgt := 152) dX8_isCallLike_137 (by decide) (fun c_137 => ?_) (fun c_137 => ?_)
                    · exact (c_137 (congrArg (fun z => Option.getD z (-1001)) (so_1 (b := true) (b' := false) (k := k) (r := t) hU.1).1)).elim
                    · refine j_aload dX8_isCallLike_140 rfl rfl ?_
                      refine j_aload_n dX8_isCallLike_142 rfl rfl ?_
                      refine j_getf dX8_isCallLike_143 fX8_40 rfl rfl ?_
                      refine j_callV (q := (RX4, TX4, 5)) dX8_isCallLike_146 kX4_hasPairsOf lX8_230 inX4_hasPairsOf seX4_hasPairsOf rfl rfl (z_frame [46, 47, 48, 49, 50, 35, 36, 37, 38, 39] rfl (by decide) (Nat.le_of_ble_eq_true rfl) (c_X4_hasPairsOf_e hl true _ _ _ _ false _ _ _ _ ht46 ht35)) (Nat.le_of_ble_eq_true rfl) ⟨(Nat.le_of_ble_eq_true rfl), (Nat.le_of_ble_eq_true rfl)⟩ rfl (Nat.le_of_ble_eq_true rfl) rfl rfl (fun _ _ h => h.elim) ?_
                      rintro _ _ ⟨_, _, ⟨rfl, rfl⟩, rfl, rfl⟩
                      refine j_ws (L' := z_cw _ _ _ _ _ _ _ _ _ _ _ _ _ _ _ _ _ _ _ _ _ _ _ _ _ _ _ _ _ _ _ _ _ _ _ _ _ _ _ _ _ _ _ _ _ _ _ _ _ _ _ _ _ _ _ _ []) (by decide) rfl rfl ?_
                      refine j_if_ne (tgt := 154) dX8_isCallLike_149 (by decide) (fun c_149 => ?_) (fun c_149 => ?_)
                      · have hb149 := z_bt c_149
                        refine j_iinc (lo' := [(8, _), (10, _), (9, _), (5, _), (7, _), (6, _), (0, _), (1, _), (2, _), (3, _), (4, _)]) dX8_isCallLike_154 rfl rfl (by decide) rfl ?_
                        refine j_goto (tgt := 17) dX8_isCallLike_157 (by decide) ?_
                        refine j_iload dX8_isCallLike_17 rfl ?_
                        refine j_iload dX8_isCallLike_19 rfl ?_
                        refine j_icmp_ge (tgt := 160) dX8_isCallLike_21 (by decide) (fun c_21 => ?_) (fun c_21 => ?_)
                        · refine j_iconst (v := 1) dX8_isCallLike_160 (by decide) ?_
                          refine j_iret dX8_isCallLike_161 rfl rfl ?_ (Nat.le_of_ble_eq_true rfl) (Nat.le_of_ble_eq_true rfl)
                          exact ⟨rfl, (by first | exact z_cwl | rfl), rfl, _, _, _, _, _, _, _, _, _, _, _, _, sp_m20 ht35.len, sp_m20 ht41.len, sp_m20 ht46.len, rfl⟩
                        · exact absurd (by decide) c_21
                      · have hb149 := z_bF c_149
                        exact absurd (hb149.symm.trans (sp_lik1 (fun j _ => (so_1 (b := true) (b' := false) (k := k) (r := t) hU.1).2 j))) (by decide)
                  · exact absurd c_123 (by decide)
              · have hb149 := z_bF c_149
                exact absurd (hb149.symm.trans (sp_lik1 (fun j _ => (so_1 (b := false) (b' := false) (k := k) (r := t) hU.1).2 j))) (by decide)
          · exact absurd c_123 (by decide)
    · refine j_tsIn (tgt := 92) dX8_isCallLike_38 (by decide) (by decide) rfl (by decide) ?_
      refine j_aload dX8_isCallLike_92 rfl rfl ?_
      refine j_iload_n dX8_isCallLike_94 rfl ?_
      refine j_iload dX8_isCallLike_95 rfl ?_
      refine j_iconst (v := 1) dX8_isCallLike_97 (by decide) ?_
      refine j_callV (q := (RX4, TX4, 5)) dX8_isCallLike_98 kX4_reckonPresent lX8_148 inX4_reckonPresent seX4_reckonPresent rfl rfl (z_frame [35, 36, 37, 38, 39] rfl (by decide) (Nat.le_of_ble_eq_true rfl) (c_X4_reckonPresent_e hl false _ _ _ _ k t 1 ht35 hk so_v1)) (Nat.le_of_ble_eq_true rfl) ⟨(Nat.le_of_ble_eq_true rfl), (Nat.le_of_ble_eq_true rfl)⟩ rfl (Nat.le_of_ble_eq_true rfl) rfl rfl (fun _ _ h => h.elim) ?_
      rintro _ _ ⟨_, _, ⟨rfl, f35, g35, ht35, rfl⟩, rfl, rfl⟩
      refine j_ws (L' := z_cw _ _ _ _ _ _ _ _ _ _ _ _ _ _ _ _ _ _ _ _ _ _ _ _ _ _ _ _ _ _ _ _ _ _ _ _ _ _ _ _ _ _ _ _ _ _ _ _ _ _ _ _ _ _ _ _ []) (by decide) rfl rfl ?_
      refine j_istore (lo' := [(10, _), (9, _), (8, _), (7, _), (6, _), (5, _), (0, _), (1, _), (2, _), (3, _), (4, _)]) dX8_isCallLike_101 (by decide) rfl ?_
      refine j_goto (tgt := 117) dX8_isCallLike_103 (by decide) ?_
      refine j_aload dX8_isCallLike_117 rfl rfl ?_
      refine j_aload_n dX8_isCallLike_119 rfl rfl ?_
      refine j_getf dX8_isCallLike_120 fX8_40 rfl rfl ?_
      refine j_acmp_ne (tgt := 133) dX8_isCallLike_123 (by decide) (fun c_123 => ?_) (fun c_123 => ?_)
      · exact absurd rfl c_123
      · refine j_iload dX8_isCallLike_126 rfl ?_
        refine j_istore (lo' := [(5, _), (10, _), (9, _), (8, _), (7, _), (6, _), (0, _), (1, _), (2, _), (3, _), (4, _)]) dX8_isCallLike_128 (by decide) rfl ?_
        refine j_goto (tgt := 154) dX8_isCallLike_130 (by decide) ?_
        refine j_iinc (lo' := [(8, _), (5, _), (10, _), (9, _), (7, _), (6, _), (0, _), (1, _), (2, _), (3, _), (4, _)]) dX8_isCallLike_154 rfl rfl (by decide) rfl ?_
        refine j_goto (tgt := 17) dX8_isCallLike_157 (by decide) ?_
        refine j_iload dX8_isCallLike_17 rfl ?_
        refine j_iload dX8_isCallLike_19 rfl ?_
        refine j_icmp_ge (tgt := 160) dX8_isCallLike_21 (by decide) (fun c_21 => ?_) (fun c_21 => ?_)
        · exact absurd c_21 (by decide)
        · refine j_aload dX8_isCallLike_24 rfl rfl ?_
          refine j_iload dX8_isCallLike_26 rfl ?_
          refine j_aald (v := .ref 41) dX8_isCallLike_28 rfl rfl rfl (vp_in_iff.mpr (by decide)) rfl ?_
          refine j_astore (lo' := [(9, _), (8, _), (5, _), (10, _), (7, _), (6, _), (0, _), (1, _), (2, _), (3, _), (4, _)]) dX8_isCallLike_29 rfl (by decide) rfl ?_
          refine j_aload dX8_isCallLike_31 rfl rfl ?_
          refine j_aload_n dX8_isCallLike_33 rfl rfl ?_
          refine j_callV (q := (RX4, TX4, 5)) dX8_isCallLike_34 kX4_become lX8_344 inX4_become seX4_become rfl rfl (z_frame [41, 42, 43, 44, 45, 21, 22, 23, 24, 25] rfl (by decide) (Nat.le_of_ble_eq_true rfl) (c_X4_become_e hl false _ _ _ _ true _ _ _ U hU)) (Nat.le_of_ble_eq_true rfl) ⟨(Nat.le_of_ble_eq_true rfl), (Nat.le_of_ble_eq_true rfl)⟩ rfl (Nat.le_of_ble_eq_true rfl) rfl rfl (fun _ _ h => h.elim) ?_
          rintro _ _ ⟨_, _, ⟨rfl, f41, g41, ht41, rfl⟩, rfl, rfl⟩
          refine j_ws (L' := z_cw _ _ _ _ _ _ _ _ _ _ _ _ _ _ _ _ _ _ _ _ _ _ _ _ _ _ _ _ _ _ _ _ _ _ _ _ _ _ _ _ _ _ _ _ _ _ _ _ _ _ _ _ _ _ _ _ []) (by decide) rfl rfl ?_
          refine j_iload_n dX8_isCallLike_37 rfl ?_
          refine j_tsIn (tgt := 92) dX8_isCallLike_38 (by decide) (by decide) rfl (by decide) ?_
          refine j_aload dX8_isCallLike_92 rfl rfl ?_
          refine j_iload_n dX8_isCallLike_94 rfl ?_
          refine j_iload dX8_isCallLike_95 rfl ?_
          refine j_iconst (v := 1) dX8_isCallLike_97 (by decide) ?_
          refine j_callV (q := (RX4, TX4, 5)) dX8_isCallLike_98 kX4_reckonPresent lX8_148 inX4_reckonPresent seX4_reckonPresent rfl rfl (z_frame [41, 42, 43, 44, 45] rfl (by decide) (Nat.le_of_ble_eq_true rfl) (c_X4_reckonPresent_e hl false _ _ _ _ k t 1 ht41 hk so_v1)) (Nat.le_of_ble_eq_true rfl) ⟨(Nat.le_of_ble_eq_true rfl), (Nat.le_of_ble_eq_true rfl)⟩ rfl (Nat.le_of_ble_eq_true rfl) rfl rfl (fun _ _ h => h.elim) ?_
          rintro _ _ ⟨_, _, ⟨rfl, f41, g41, ht41, rfl⟩, rfl, rfl⟩
          refine j_ws (L' := z_cw _ _ _ _ _ _ _ _ _ _ _ _ _ _ _ _ _ _ _ _ _ _ _ _ _ _ _ _ _ _ _ _ _ _ _ _ _ _ _ _ _ _ _ _ _ _ _ _ _ _ _ _ _ _ _ _ []) (by decide) rfl rfl ?_
          refine j_istore (lo' := [(10, _), (9, _), (8, _), (5, _), (7, _), (6, _), (0, _), (1, _), (2, _), (3, _), (4, _)]) dX8_isCallLike_101 (by decide) rfl ?_
          refine j_goto (tgt := 117) dX8_isCallLike_103 (by decide) ?_
          refine j_aload dX8_isCallLike_117 rfl rfl ?_
          refine j_aload_n dX8_isCallLike_119 rfl rfl ?_
          refine j_getf dX8_isCallLike_120 fX8_40 rfl rfl ?_
          refine j_acmp_ne (tgt := 133) dX8_isCallLike_123 (by decide) (fun c_123 => ?_) (fun c_123 => ?_)
          · refine j_iload dX8_isCallLike_133 rfl ?_
            refine j_iload dX8_isCallLike_135 rfl ?_
            refine j_icmp_ne (tgt := 152) dX8_isCallLike_137 (by decide) (fun c_137 => ?_) (fun c_137 => ?_)
            · exact (c_137 (congrArg (fun z => Option.getD z (-1001)) (so_2 (b := false) (b' := false) (k := k) (r := t) hU.1).1)).elim
            · refine j_aload dX8_isCallLike_140 rfl rfl ?_
              refine j_aload_n dX8_isCallLike_142 rfl rfl ?_
              refine j_getf dX8_isCallLike_143 fX8_40 rfl rfl ?_
              refine j_callV (q := (RX4, TX4, 5)) dX8_isCallLike_146 kX4_hasPairsOf lX8_230 inX4_hasPairsOf seX4_hasPairsOf rfl rfl (z_frame [41, 42, 43, 44, 45, 35, 36, 37, 38, 39] rfl (by decide) (Nat.le_of_ble_eq_true rfl) (c_X4_hasPairsOf_e hl false _ _ _ _ false _ _ _ _ ht41 ht35)) (Nat.le_of_ble_eq_true rfl) ⟨(Nat.le_of_ble_eq_true rfl), (Nat.le_of_ble_eq_true rfl)⟩ rfl (Nat.le_of_ble_eq_true rfl) rfl rfl (fun _ _ h => h.elim) ?_
              rintro _ _ ⟨_, _, ⟨rfl, rfl⟩, rfl, rfl⟩
              refine j_ws (L' := z_cw _ _ _ _ _ _ _ _ _ _ _ _ _ _ _ _ _ _ _ _ _ _ _ _ _ _ _ _ _ _ _ _ _ _ _ _ _ _ _ _ _ _ _ _ _ _ _ _ _ _ _ _ _ _ _ _ []) (by decide) rfl rfl ?_
              refine j_if_ne (tgt := 154) dX8_isCallLike_149 (by decide) (fun c_149 => ?_) (fun c_149 => ?_)
              · have hb149 := z_bt c_149
                refine j_iinc (lo' := [(8, _), (10, _), (9, _), (5, _), (7, _), (6, _), (0, _), (1, _), (2, _), (3, _), (4, _)]) dX8_isCallLike_154 rfl rfl (by decide) rfl ?_
                refine j_goto (tgt := 17) dX8_isCallLike_157 (by decide) ?_
                refine j_iload dX8_isCallLike_17 rfl ?_
                refine j_iload dX8_isCallLike_19 rfl ?_
                refine j_icmp_ge (tgt := 160) dX8_isCallLike_21 (by decide) (fun c_21 => ?_) (fun c_21 => ?_)
                · exact absurd c_21 (by decide)
                · refine j_aload dX8_isCallLike_24 rfl rfl ?_
                  refine j_iload dX8_isCallLike_26 rfl ?_
                  refine j_aald (v := .ref 46) dX8_isCallLike_28 rfl rfl rfl (vp_in_iff.mpr (by decide)) rfl ?_
                  refine j_astore (lo' := [(9, _), (8, _), (10, _), (5, _), (7, _), (6, _), (0, _), (1, _), (2, _), (3, _), (4, _)]) dX8_isCallLike_29 rfl (by decide) rfl ?_
                  refine j_aload dX8_isCallLike_31 rfl rfl ?_
                  refine j_aload_n dX8_isCallLike_33 rfl rfl ?_
                  refine j_callV (q := (RX4, TX4, 5)) dX8_isCallLike_34 kX4_become lX8_344 inX4_become seX4_become rfl rfl (z_frame [46, 47, 48, 49, 50, 21, 22, 23, 24, 25] rfl (by decide) (Nat.le_of_ble_eq_true rfl) (c_X4_become_e hl true _ _ _ _ true _ _ _ U hU)) (Nat.le_of_ble_eq_true rfl) ⟨(Nat.le_of_ble_eq_true rfl), (Nat.le_of_ble_eq_true rfl)⟩ rfl (Nat.le_of_ble_eq_true rfl) rfl rfl (fun _ _ h => h.elim) ?_
                  rintro _ _ ⟨_, _, ⟨rfl, f46, g46, ht46, rfl⟩, rfl, rfl⟩
                  refine j_ws (L' := z_cw _ _ _ _ _ _ _ _ _ _ _ _ _ _ _ _ _ _ _ _ _ _ _ _ _ _ _ _ _ _ _ _ _ _ _ _ _ _ _ _ _ _ _ _ _ _ _ _ _ _ _ _ _ _ _ _ []) (by decide) rfl rfl ?_
                  refine j_iload_n dX8_isCallLike_37 rfl ?_
                  refine j_tsIn (tgt := 92) dX8_isCallLike_38 (by decide) (by decide) rfl (by decide) ?_
                  refine j_aload dX8_isCallLike_92 rfl rfl ?_
                  refine j_iload_n dX8_isCallLike_94 rfl ?_
                  refine j_iload dX8_isCallLike_95 rfl ?_
                  refine j_iconst (v := 1) dX8_isCallLike_97 (by decide) ?_
                  refine j_callV (q := (RX4, TX4, 5)) dX8_isCallLike_98 kX4_reckonPresent lX8_148 inX4_reckonPresent seX4_reckonPresent rfl rfl (z_frame [46, 47, 48, 49, 50] rfl (by decide) (Nat.le_of_ble_eq_true rfl) (c_X4_reckonPresent_e hl true _ _ _ _ k t 1 ht46 hk so_v1)) (Nat.le_of_ble_eq_true rfl) ⟨(Nat.le_of_ble_eq_true rfl), (Nat.le_of_ble_eq_true rfl)⟩ rfl (Nat.le_of_ble_eq_true rfl) rfl rfl (fun _ _ h => h.elim) ?_
                  rintro _ _ ⟨_, _, ⟨rfl, f46, g46, ht46, rfl⟩, rfl, rfl⟩
                  refine j_ws (L' := z_cw _ _ _ _ _ _ _ _ _ _ _ _ _ _ _ _ _ _ _ _ _ _ _ _ _ _ _ _ _ _ _ _ _ _ _ _ _ _ _ _ _ _ _ _ _ _ _ _ _ _ _ _ _ _ _ _ []) (by decide) rfl rfl ?_
                  refine j_istore (lo' := [(10, _), (9, _), (8, _), (5, _), (7, _), (6, _), (0, _), (1, _), (2, _), (3, _), (4, _)]) dX8_isCallLike_101 (by decide) rfl ?_
                  refine j_goto (tgt := 117) dX8_isCallLike_103 (by decide) ?_
                  refine j_aload dX8_isCallLike_117 rfl rfl ?_
                  refine j_aload_n dX8_isCallLike_119 rfl rfl ?_
                  refine j_getf dX8_isCallLike_120 fX8_40 rfl rfl ?_
                  refine j_acmp_ne (tgt := 133) dX8_isCallLike_123 (by decide) (fun c_123 => ?_) (fun c_123 => ?_)
                  · refine j_iload dX8_isCallLike_133 rfl ?_
                    refine j_iload dX8_isCallLike_135 rfl ?_
                    refine j_icmp_ne (tgt := 152) dX8_isCallLike_137 (by decide) (fun c_137 => ?_) (fun c_137 => ?_)
                    · exact (c_137 (congrArg (fun z => Option.getD z (-1001)) (so_2 (b := true) (b' := false) (k := k) (r := t) hU.1).1)).elim
                    · refine j_aload dX8_isCallLike_140 rfl rfl ?_
                      refine j_aload_n dX8_isCallLike_142 rfl rfl ?_
                      refine j_getf dX8_isCallLike_143 fX8_40 rfl rfl ?_
                      refine j_callV (q := (RX4, TX4, 5)) dX8_isCallLike_146 kX4_hasPairsOf lX8_230 inX4_hasPairsOf seX4_hasPairsOf rfl rfl (z_frame [46, 47, 48, 49, 50, 35, 36, 37, 38, 39] rfl (by decide) (Nat.le_of_ble_eq_true rfl) (c_X4_hasPairsOf_e hl true _ _ _ _ false _ _ _ _ ht46 ht35)) (Nat.le_of_ble_eq_true rfl) ⟨(Nat.le_of_ble_eq_true rfl), (Nat.le_of_ble_eq_true rfl)⟩ rfl (Nat.le_of_ble_eq_true rfl) rfl rfl (fun _ _ h => h.elim) ?_
                      rintro _ _ ⟨_, _, ⟨rfl, rfl⟩, rfl, rfl⟩
                      refine j_ws (L' := z_cw _ _ _ _ _ _ _ _ _ _ _ _ _ _ _ _ _ _ _ _ _ _ _ _ _ _ _ _ _ _ _ _ _ _ _ _ _ _ _ _ _ _ _ _ _ _ _ _ _ _ _ _ _ _ _ _ []) (by decide) rfl rfl ?_
                      refine j_if_ne (tgt := 154) dX8_isCallLike_149 (by decide) (fun c_149 => ?_) (fun c_149 => ?_)
                      · have hb149 := z_bt c_149
                        refine j_iinc (lo' := [(8, _), (10, _), (9, _), (5, _), (7, _), (6, _), (0, _), (1, _), (2, _), (3, _), (4, _)]) dX8_isCallLike_154 rfl rfl (by decide) rfl ?_
                        refine j_goto (tgt := 17) dX8_isCallLike_157 (by decide) ?_
                        refine j_iload dX8_isCallLike_17 rfl ?_
                        refine j_iload dX8_isCallLike_19 rfl ?_
                        refine j_icmp_ge (tgt := 160) dX8_isCallLike_21 (by decide) (fun c_21 => ?_) (fun c_21 => ?_)
                        · refine j_iconst (v := 1) dX8_isCallLike_160 (by decide) ?_
                          refine j_iret dX8_isCallLike_161 rfl rfl ?_ (Nat.le_of_ble_eq_true rfl) (Nat.le_of_ble_eq_true rfl)
                          exact ⟨rfl, (by first | exact z_cwl | rfl), rfl, _, _, _, _, _, _, _, _, _, _, _, _, sp_m20 ht35.len, sp_m20 ht41.len, sp_m20 ht46.len, rfl⟩
                        · exact absurd (by decide) c_21
                      · have hb149 := z_bF c_149
                        exact absurd (hb149.symm.trans (sp_lik1 (fun j _ => (so_2 (b := true) (b' := false) (k := k) (r := t) hU.1).2 j))) (by decide)
                  · exact absurd c_123 (by decide)
              · have hb149 := z_bF c_149
                exact absurd (hb149.symm.trans (sp_lik1 (fun j _ => (so_2 (b := false) (b' := false) (k := k) (r := t) hU.1).2 j))) (by decide)
          · exact absurd c_123 (by decide)
    · refine j_tsOut (tgt := 106) dX8_isCallLike_38 hp (by decide) ?_
      refine j_aload dX8_isCallLike_106 rfl rfl ?_
      refine j_iload_n dX8_isCallLike_108 rfl ?_
      refine j_iconst (v := 1) dX8_isCallLike_109 (by decide) ?_
      refine j_iload dX8_isCallLike_110 rfl ?_
      refine j_callV (q := (RX4, TX4, 5)) dX8_isCallLike_112 kX4_join lX8_154 inX4_join seX4_join rfl rfl (z_frame [35, 36, 37, 38, 39] rfl (by decide) (Nat.le_of_ble_eq_true rfl) (c_X4_join_e hl false _ _ _ _ k 1 t ht35 hk so_v1)) (Nat.le_of_ble_eq_true rfl) ⟨(Nat.le_of_ble_eq_true rfl), (Nat.le_of_ble_eq_true rfl)⟩ rfl (Nat.le_of_ble_eq_true rfl) rfl rfl (fun _ _ h => h.elim) ?_
      rintro _ _ ⟨_, _, ⟨rfl, f35, g35, ht35, rfl⟩, rfl, rfl⟩
      refine j_ws (L' := z_cw _ _ _ _ _ _ _ _ _ _ _ _ _ _ _ _ _ _ _ _ _ _ _ _ _ _ _ _ _ _ _ _ _ _ _ _ _ _ _ _ _ _ _ _ _ _ _ _ _ _ _ _ _ _ _ _ []) (by decide) rfl rfl ?_
      refine j_istore (lo' := [(10, _), (9, _), (8, _), (7, _), (6, _), (5, _), (0, _), (1, _), (2, _), (3, _), (4, _)]) dX8_isCallLike_115 (by decide) rfl ?_
      refine j_aload dX8_isCallLike_117 rfl rfl ?_
      refine j_aload_n dX8_isCallLike_119 rfl rfl ?_
      refine j_getf dX8_isCallLike_120 fX8_40 rfl rfl ?_
      refine j_acmp_ne (tgt := 133) dX8_isCallLike_123 (by decide) (fun c_123 => ?_) (fun c_123 => ?_)
      · exact absurd rfl c_123
      · refine j_iload dX8_isCallLike_126 rfl ?_
        refine j_istore (lo' := [(5, _), (10, _), (9, _), (8, _), (7, _), (6, _), (0, _), (1, _), (2, _), (3, _), (4, _)]) dX8_isCallLike_128 (by decide) rfl ?_
        refine j_goto (tgt := 154) dX8_isCallLike_130 (by decide) ?_
        refine j_iinc (lo' := [(8, _), (5, _), (10, _), (9, _), (7, _), (6, _), (0, _), (1, _), (2, _), (3, _), (4, _)]) dX8_isCallLike_154 rfl rfl (by decide) rfl ?_
        refine j_goto (tgt := 17) dX8_isCallLike_157 (by decide) ?_
        refine j_iload dX8_isCallLike_17 rfl ?_
        refine j_iload dX8_isCallLike_19 rfl ?_
        refine j_icmp_ge (tgt := 160) dX8_isCallLike_21 (by decide) (fun c_21 => ?_) (fun c_21 => ?_)
        · exact absurd c_21 (by decide)
        · refine j_aload dX8_isCallLike_24 rfl rfl ?_
          refine j_iload dX8_isCallLike_26 rfl ?_
          refine j_aald (v := .ref 41) dX8_isCallLike_28 rfl rfl rfl (vp_in_iff.mpr (by decide)) rfl ?_
          refine j_astore (lo' := [(9, _), (8, _), (5, _), (10, _), (7, _), (6, _), (0, _), (1, _), (2, _), (3, _), (4, _)]) dX8_isCallLike_29 rfl (by decide) rfl ?_
          refine j_aload dX8_isCallLike_31 rfl rfl ?_
          refine j_aload_n dX8_isCallLike_33 rfl rfl ?_
          refine j_callV (q := (RX4, TX4, 5)) dX8_isCallLike_34 kX4_become lX8_344 inX4_become seX4_become rfl rfl (z_frame [41, 42, 43, 44, 45, 21, 22, 23, 24, 25] rfl (by decide) (Nat.le_of_ble_eq_true rfl) (c_X4_become_e hl false _ _ _ _ true _ _ _ U hU)) (Nat.le_of_ble_eq_true rfl) ⟨(Nat.le_of_ble_eq_true rfl), (Nat.le_of_ble_eq_true rfl)⟩ rfl (Nat.le_of_ble_eq_true rfl) rfl rfl (fun _ _ h => h.elim) ?_
          rintro _ _ ⟨_, _, ⟨rfl, f41, g41, ht41, rfl⟩, rfl, rfl⟩
          refine j_ws (L' := z_cw _ _ _ _ _ _ _ _ _ _ _ _ _ _ _ _ _ _ _ _ _ _ _ _ _ _ _ _ _ _ _ _ _ _ _ _ _ _ _ _ _ _ _ _ _ _ _ _ _ _ _ _ _ _ _ _ []) (by decide) rfl rfl ?_
          refine j_iload_n dX8_isCallLike_37 rfl ?_
          refine j_tsOut (tgt := 106) dX8_isCallLike_38 hp (by decide) ?_
          refine j_aload dX8_isCallLike_106 rfl rfl ?_
          refine j_iload_n dX8_isCallLike_108 rfl ?_
          refine j_iconst (v := 1) dX8_isCallLike_109 (by decide) ?_
          refine j_iload dX8_isCallLike_110 rfl ?_
          refine j_callV (q := (RX4, TX4, 5)) dX8_isCallLike_112 kX4_join lX8_154 inX4_join seX4_join rfl rfl (z_frame [41, 42, 43, 44, 45] rfl (by decide) (Nat.le_of_ble_eq_true rfl) (c_X4_join_e hl false _ _ _ _ k 1 t ht41 hk so_v1)) (Nat.le_of_ble_eq_true rfl) ⟨(Nat.le_of_ble_eq_true rfl), (Nat.le_of_ble_eq_true rfl)⟩ rfl (Nat.le_of_ble_eq_true rfl) rfl rfl (fun _ _ h => h.elim) ?_
          rintro _ _ ⟨_, _, ⟨rfl, f41, g41, ht41, rfl⟩, rfl, rfl⟩
          refine j_ws (L' := z_cw _ _ _ _ _ _ _ _ _ _ _ _ _ _ _ _ _ _ _ _ _ _ _ _ _ _ _ _ _ _ _ _ _ _ _ _ _ _ _ _ _ _ _ _ _ _ _ _ _ _ _ _ _ _ _ _ []) (by decide) rfl rfl ?_
          refine j_istore (lo' := [(10, _), (9, _), (8, _), (5, _), (7, _), (6, _), (0, _), (1, _), (2, _), (3, _), (4, _)]) dX8_isCallLike_115 (by decide) rfl ?_
          refine j_aload dX8_isCallLike_117 rfl rfl ?_
          refine j_aload_n dX8_isCallLike_119 rfl rfl ?_
          refine j_getf dX8_isCallLike_120 fX8_40 rfl rfl ?_
          refine j_acmp_ne (tgt := 133) dX8_isCallLike_123 (by decide) (fun c_123 => ?_) (fun c_123 => ?_)
          · refine j_iload dX8_isCallLike_133 rfl ?_
            refine j_iload dX8_isCallLike_135 rfl ?_
            refine j_icmp_ne (tgt := 152) dX8_isCallLike_137 (by decide) (fun c_137 => ?_) (fun c_137 => ?_)
            · exact (c_137 (congrArg (fun z => Option.getD z (-1001)) (so_3 (b := false) (b' := false) (k := k) (r := t) hU.1).1)).elim
            · refine j_aload dX8_isCallLike_140 rfl rfl ?_
              refine j_aload_n dX8_isCallLike_142 rfl rfl ?_
              refine j_getf dX8_isCallLike_143 fX8_40 rfl rfl ?_
              refine j_callV (q := (RX4, TX4, 5)) dX8_isCallLike_146 kX4_hasPairsOf lX8_230 inX4_hasPairsOf seX4_hasPairsOf rfl rfl (z_frame [41, 42, 43, 44, 45, 35, 36, 37, 38, 39] rfl (by decide) (Nat.le_of_ble_eq_true rfl) (c_X4_hasPairsOf_e hl false _ _ _ _ false _ _ _ _ ht41 ht35)) (Nat.le_of_ble_eq_true rfl) ⟨(Nat.le_of_ble_eq_true rfl), (Nat.le_of_ble_eq_true rfl)⟩ rfl (Nat.le_of_ble_eq_true rfl) rfl rfl (fun _ _ h => h.elim) ?_
              rintro _ _ ⟨_, _, ⟨rfl, rfl⟩, rfl, rfl⟩
              refine j_ws (L' := z_cw _ _ _ _ _ _ _ _ _ _ _ _ _ _ _ _ _ _ _ _ _ _ _ _ _ _ _ _ _ _ _ _ _ _ _ _ _ _ _ _ _ _ _ _ _ _ _ _ _ _ _ _ _ _ _ _ []) (by decide) rfl rfl ?_
              refine j_if_ne (tgt := 154) dX8_isCallLike_149 (by decide) (fun c_149 => ?_) (fun c_149 => ?_)
              · have hb149 := z_bt c_149
                refine j_iinc (lo' := [(8, _), (10, _), (9, _), (5, _), (7, _), (6, _), (0, _), (1, _), (2, _), (3, _), (4, _)]) dX8_isCallLike_154 rfl rfl (by decide) rfl ?_
                refine j_goto (tgt := 17) dX8_isCallLike_157 (by decide) ?_
                refine j_iload dX8_isCallLike_17 rfl ?_
                refine j_iload dX8_isCallLike_19 rfl ?_
                refine j_icmp_ge (tgt := 160) dX8_isCallLike_21 (by decide) (fun c_21 => ?_) (fun c_21 => ?_)
                · exact absurd c_21 (by decide)
                · refine j_aload dX8_isCallLike_24 rfl rfl ?_
                  refine j_iload dX8_isCallLike_26 rfl ?_
                  refine j_aald (v := .ref 46) dX8_isCallLike_28 rfl rfl rfl (vp_in_iff.mpr (by decide)) rfl ?_
                  refine j_astore (lo' := [(9, _), (8, _), (10, _), (5, _), (7, _), (6, _), (0, _), (1, _), (2, _), (3, _), (4, _)]) dX8_isCallLike_29 rfl (by decide) rfl ?_
                  refine j_aload dX8_isCallLike_31 rfl rfl ?_
                  refine j_aload_n dX8_isCallLike_33 rfl rfl ?_
                  refine j_callV (q := (RX4, TX4, 5)) dX8_isCallLike_34 kX4_become lX8_344 inX4_become seX4_become rfl rfl (z_frame [46, 47, 48, 49, 50, 21, 22, 23, 24, 25] rfl (by decide) (Nat.le_of_ble_eq_true rfl) (c_X4_become_e hl true _ _ _ _ true _ _ _ U hU)) (Nat.le_of_ble_eq_true rfl) ⟨(Nat.le_of_ble_eq_true rfl), (Nat.le_of_ble_eq_true rfl)⟩ rfl (Nat.le_of_ble_eq_true rfl) rfl rfl (fun _ _ h => h.elim) ?_
                  rintro _ _ ⟨_, _, ⟨rfl, f46, g46, ht46, rfl⟩, rfl, rfl⟩
                  refine j_ws (L' := z_cw _ _ _ _ _ _ _ _ _ _ _ _ _ _ _ _ _ _ _ _ _ _ _ _ _ _ _ _ _ _ _ _ _ _ _ _ _ _ _ _ _ _ _ _ _ _ _ _ _ _ _ _ _ _ _ _ []) (by decide) rfl rfl ?_
                  refine j_iload_n dX8_isCallLike_37 rfl ?_
                  refine j_tsOut (tgt := 106) dX8_isCallLike_38 hp (by decide) ?_
                  refine j_aload dX8_isCallLike_106 rfl rfl ?_
                  refine j_iload_n dX8_isCallLike_108 rfl ?_
                  refine j_iconst (v := 1) dX8_isCallLike_109 (by decide) ?_
                  refine j_iload dX8_isCallLike_110 rfl ?_
                  refine j_callV (q := (RX4, TX4, 5)) dX8_isCallLike_112 kX4_join lX8_154 inX4_join seX4_join rfl rfl (z_frame [46, 47, 48, 49, 50] rfl (by decide) (Nat.le_of_ble_eq_true rfl) (c_X4_join_e hl true _ _ _ _ k 1 t ht46 hk so_v1)) (Nat.le_of_ble_eq_true rfl) ⟨(Nat.le_of_ble_eq_true rfl), (Nat.le_of_ble_eq_true rfl)⟩ rfl (Nat.le_of_ble_eq_true rfl) rfl rfl (fun _ _ h => h.elim) ?_
                  rintro _ _ ⟨_, _, ⟨rfl, f46, g46, ht46, rfl⟩, rfl, rfl⟩
                  refine j_ws (L' := z_cw _ _ _ _ _ _ _ _ _ _ _ _ _ _ _ _ _ _ _ _ _ _ _ _ _ _ _ _ _ _ _ _ _ _ _ _ _ _ _ _ _ _ _ _ _ _ _ _ _ _ _ _ _ _ _ _ []) (by decide) rfl rfl ?_
                  refine j_istore (lo' := [(10, _), (9, _), (8, _), (5, _), (7, _), (6, _), (0, _), (1, _), (2, _), (3, _), (4, _)]) dX8_isCallLike_115 (by decide) rfl ?_
                  refine j_aload dX8_isCallLike_117 rfl rfl ?_
                  refine j_aload_n dX8_isCallLike_119 rfl rfl ?_
                  refine j_getf dX8_isCallLike_120 fX8_40 rfl rfl ?_
                  refine j_acmp_ne (tgt := 133) dX8_isCallLike_123 (by decide) (fun c_123 => ?_) (fun c_123 => ?_)
                  · refine j_iload dX8_isCallLike_133 rfl ?_
                    refine j_iload dX8_isCallLike_135 rfl ?_
                    refine j_icmp_ne (tgt := 152) dX8_isCallLike_137 (by decide) (fun c_137 => ?_) (fun c_137 => ?_)
                    · exact (c_137 (congrArg (fun z => Option.getD z (-1001)) (so_3 (b := true) (b' := false) (k := k) (r := t) hU.1).1)).elim
                    · refine j_aload dX8_isCallLike_140 rfl rfl ?_
                      refine j_aload_n dX8_isCallLike_142 rfl rfl ?_
                      refine j_getf dX8_isCallLike_143 fX8_40 rfl rfl ?_
                      refine j_callV (q := (RX4, TX4, 5)) dX8_isCallLike_146 kX4_hasPairsOf lX8_230 inX4_hasPairsOf seX4_hasPairsOf rfl rfl (z_frame [46, 47, 48, 49, 50, 35, 36, 37, 38, 39] rfl (by decide) (Nat.le_of_ble_eq_true rfl) (c_X4_hasPairsOf_e hl true _ _ _ _ false _ _ _ _ ht46 ht35)) (Nat.le_of_ble_eq_true rfl) ⟨(Nat.le_of_ble_eq_true rfl), (Nat.le_of_ble_eq_true rfl)⟩ rfl (Nat.le_of_ble_eq_true rfl) rfl rfl (fun _ _ h => h.elim) ?_
                      rintro _ _ ⟨_, _, ⟨rfl, rfl⟩, rfl, rfl⟩
                      refine j_ws (L' := z_cw _ _ _ _ _ _ _ _ _ _ _ _ _ _ _ _ _ _ _ _ _ _ _ _ _ _ _ _ _ _ _ _ _ _ _ _ _ _ _ _ _ _ _ _ _ _ _ _ _ _ _ _ _ _ _ _ []) (by decide) rfl rfl ?_
                      refine j_if_ne (tgt := 154) dX8_isCallLike_149 (by decide) (fun c_149 => ?_) (fun c_149 => ?_)
                      · have hb149 := z_bt c_149
                        refine j_iinc (lo' := [(8, _), (10, _), (9, _), (5, _), (7, _), (6, _), (0, _), (1, _), (2, _), (3, _), (4, _)]) dX8_isCallLike_154 rfl rfl (by decide) rfl ?_
                        refine j_goto (tgt := 17) dX8_isCallLike_157 (by decide) ?_
                        refine j_iload dX8_isCallLike_17 rfl ?_
                        refine j_iload dX8_isCallLike_19 rfl ?_
                        refine j_icmp_ge (tgt := 160) dX8_isCallLike_21 (by decide) (fun c_21 => ?_) (fun c_21 => ?_)
                        · refine j_iconst (v := 1) dX8_isCallLike_160 (by decide) ?_
                          refine j_iret dX8_isCallLike_161 rfl rfl ?_ (Nat.le_of_ble_eq_true rfl) (Nat.le_of_ble_eq_true rfl)
                          exact ⟨rfl, (by first | exact z_cwl | rfl), rfl, _, _, _, _, _, _, _, _, _, _, _, _, sp_m20 ht35.len, sp_m20 ht41.len, sp_m20 ht46.len, rfl⟩
                        · exact absurd (by decide) c_21
                      · have hb149 := z_bF c_149
                        exact absurd (hb149.symm.trans (sp_lik1 (fun j _ => (so_3 (b := true) (b' := false) (k := k) (r := t) hU.1).2 j))) (by decide)
                  · exact absurd c_123 (by decide)
              · have hb149 := z_bF c_149
                exact absurd (hb149.symm.trans (sp_lik1 (fun j _ => (so_3 (b := false) (b' := false) (k := k) (r := t) hU.1).2 j))) (by decide)
          · exact absurd c_123 (by decide)
set_option maxRecDepth 100000 in
set_option maxHeartbeats 8000000 in
theorem c_X8_areCallsLike_2_e (hl : l.stackTraces = false) (rf : Int32) (kn : Int32) (ma : Int32) (xa : Bool) (fa : Nat → Int32) (ca : Nat → Int32) (mb : Int32) (xb : Bool) (fb : Nat → Int32) (cb : Nat → Int32) (mt : Int32) (ft : Nat → Int32) (ct : Nat → Int32) (f0 : Nat → Int32) (g0 : Nat → Int32) (c0 : Nat → Int32) (m0 : Int32) (f1 : Nat → Int32) (g1 : Nat → Int32) (c1 : Nat → Int32) (m1 : Int32) (f2 : Nat → Int32) (g2 : Nat → Int32) (c2 : Nat → Int32) (f3 : Nat → Int32) (g3 : Nat → Int32) (c3 : Nat → Int32) (m3 : Int32) (f4 : Nat → Int32) (g4 : Nat → Int32) (c4 : Nat → Int32) (m4 : Int32) (f5 : Nat → Int32) (g5 : Nat → Int32) (c5 : Nat → Int32) (m5 : Int32) (ek0 : Int32) (em0 : Int32) (es0 : Int32) (el0 : Int32) (b0 : Int32) (ef0 : Nat → Int32) (ek1 : Int32) (em1 : Int32) (es1 : Int32) (el1 : Int32) (b1 : Int32) (ef1 : Nat → Int32) (U : List (Nat × Int32)) (hU : z_tba f2 g2 U) (hz3 : z_m20 m3) (hz4 : z_m20 m4) (hz5 : z_m20 m5) : z_CF G l mX8_areCallsLike 18 0 0 (z_cw rf kn ma xa fa ca mb xb fb cb mt false ft ct f0 g0 c0 m0 0 f1 g1 c1 m1 0 f2 g2 c2 (nI U.length) 1 f3 g3 c3 m3 0 f4 g4 c4 m4 0 f5 g5 c5 m5 1 ek0 em0 es0 el0 b0 ef0 ek1 em1 es1 el1 b1 ef1 []) [.ref 0, .ref 21] (fun v L => v = some (.int 1) ∧ ∃ (f3' g3' c3' : Nat → Int32) (m3' : Int32) (f4' g4' c4' : Nat → Int32) (m4' : Int32) (f5' g5' c5' : Nat → Int32) (m5' : Int32), z_m20 m3' ∧ z_m20 m4' ∧ z_m20 m5' ∧ L = (z_cw rf kn ma xa fa ca mb xb fb cb mt false ft ct f0 g0 c0 m0 0 f1 g1 c1 m1 0 f2 g2 c2 (nI U.length) 1 f3' g3' c3' m3' 0 f4' g4' c4' m4' 0 f5' g5' c5' m5' 1 ek0 em0 es0 el0 b0 ef0 ek1 em1 es1 el1 b1 ef1 [])) := by
  refine z_body hl (by decide) rfl (Nat.le_of_ble_eq_true rfl) ?_
  show z_J G l mX8_areCallsLike (z_SF 18 0 0 (z_cw rf kn ma xa fa ca mb xb fb cb mt false ft ct f0 g0 c0 m0 0 f1 g1 c1 m1 0 f2 g2 c2 (nI U.length) 1 f3 g3 c3 m3 0 f4 g4 c4 m4 0 f5 g5 c5 m5 1 ek0 em0 es0 el0 b0 ef0 ek1 em1 es1 el1 b1 ef1 []) (fun v L => v = some (.int 1) ∧ ∃ (f3' g3' c3' : Nat → Int32) (m3' : Int32) (f4' g4' c4' : Nat → Int32) (m4' : Int32) (f5' g5' c5' : Nat → Int32) (m5' : Int32), z_m20 m3' ∧ z_m20 m4' ∧ z_m20 m5' ∧ L = (z_cw rf kn ma xa fa ca mb xb fb cb mt false ft ct f0 g0 c0 m0 0 f1 g1 c1 m1 0 f2 g2 c2 (nI U.length) 1 f3' g3' c3' m3' 0 f4' g4' c4' m4' 0 f5' g5' c5' m5' 1 ek0 em0 es0 el0 b0 ef0 ek1 em1 es1 el1 b1 ef1 []))) 0 [(0, _), (1, _)] [] _ 0 0
  refine j_iconst (v := 0) dX8_areCallsLike_0 (by decide) ?_
  refine j_istore_n (lo' := [(2, _), (0, _), (1, _)]) dX8_areCallsLike_1 (by decide) rfl ?_
  have loop : ∀ (n9 : Nat) (f3' g3' c3' : Nat → Int32) (m3' : Int32) (f4' g4' c4' : Nat → Int32) (m4' : Int32) (f5' g5' c5' : Nat → Int32) (m5' : Int32) (j : Nat), (z_m20 m3') → (z_m20 m4') → (z_m20 m5') → (j ≤ 4) → (4 < j + n9) → z_J G l mX8_areCallsLike (z_SF 18 0 0 (z_cw rf kn ma xa fa ca mb xb fb cb mt false ft ct f0 g0 c0 m0 0 f1 g1 c1 m1 0 f2 g2 c2 (nI U.length) 1 f3 g3 c3 m3 0 f4 g4 c4 m4 0 f5 g5 c5 m5 1 ek0 em0 es0 el0 b0 ef0 ek1 em1 es1 el1 b1 ef1 []) (fun v L => v = some (.int 1) ∧ ∃ (f3' g3' c3' : Nat → Int32) (m3' : Int32) (f4' g4' c4' : Nat → Int32) (m4' : Int32) (f5' g5' c5' : Nat → Int32) (m5' : Int32), z_m20 m3' ∧ z_m20 m4' ∧ z_m20 m5' ∧ L = (z_cw rf kn ma xa fa ca mb xb fb cb mt false ft ct f0 g0 c0 m0 0 f1 g1 c1 m1 0 f2 g2 c2 (nI U.length) 1 f3' g3' c3' m3' 0 f4' g4' c4' m4' 0 f5' g5' c5' m5' 1 ek0 em0 es0 el0 b0 ef0 ek1 em1 es1 el1 b1 ef1 []))) 2 [(0, .ref 0), (1, .ref 21), (2, .int (nI j))] [] ((z_cw rf kn ma xa fa ca mb xb fb cb mt false ft ct f0 g0 c0 m0 0 f1 g1 c1 m1 0 f2 g2 c2 (nI U.length) 1 f3' g3' c3' m3' 0 f4' g4' c4' m4' 0 f5' g5' c5' m5' 1 ek0 em0 es0 el0 b0 ef0 ek1 em1 es1 el1 b1 ef1 []), z_no) 0 0 := by
    intro n9
    induction n9 with
    | zero => intro f3' g3' c3' m3' f4' g4' c4' m4' f5' g5' c5' m5' j q3 q4 q5 hj hf9; exact absurd hf9 (by omega)
    | succ n9 ih =>
      intro f3' g3' c3' m3' f4' g4' c4' m4' f5' g5' c5' m5' j q3 q4 q5 hj hf9
      refine j_iload_n dX8_areCallsLike_2 rfl ?_
      refine j_iconst (v := 3) dX8_areCallsLike_3 (by decide) ?_
      refine j_icmp_gt (tgt := 61) dX8_areCallsLike_4 (by decide) (fun c_4 => ?_) (fun c_4 => ?_)
      · have hb4 : 3 < j := (nI_ltI (a := 3) (b := j) (by omega) (by omega)).mp c_4
        refine j_iconst (v := 1) dX8_areCallsLike_61 (by decide) ?_
        refine j_iret dX8_areCallsLike_62 rfl rfl ?_ (Nat.le_of_ble_eq_true rfl) (Nat.le_of_ble_eq_true rfl)
        exact ⟨rfl, (by first | exact z_cwl | rfl), rfl, _, _, _, _, _, _, _, _, _, _, _, _, (by assumption), (by assumption), (by assumption), rfl⟩
      · have hb4 : ¬ 3 < j := fun z => c_4 ((nI_ltI (a := 3) (b := j) (by omega) (by omega)).mpr z)
        refine j_iconst (v := 0) dX8_areCallsLike_7 (by decide) ?_
        refine j_istore_n (lo' := [(3, _), (0, _), (1, _), (2, _)]) dX8_areCallsLike_8 (by decide) rfl ?_
        have loopi : ∀ (n8 : Nat) (f3' g3' c3' : Nat → Int32) (m3' : Int32) (f4' g4' c4' : Nat → Int32) (m4' : Int32) (f5' g5' c5' : Nat → Int32) (m5' : Int32) (i : Nat), (z_m20 m3') → (z_m20 m4') → (z_m20 m5') → (i ≤ 4) → (4 < i + n8) → z_J G l mX8_areCallsLike (z_SF 18 0 0 (z_cw rf kn ma xa fa ca mb xb fb cb mt false ft ct f0 g0 c0 m0 0 f1 g1 c1 m1 0 f2 g2 c2 (nI U.length) 1 f3 g3 c3 m3 0 f4 g4 c4 m4 0 f5 g5 c5 m5 1 ek0 em0 es0 el0 b0 ef0 ek1 em1 es1 el1 b1 ef1 []) (fun v L => v = some (.int 1) ∧ ∃ (f3' g3' c3' : Nat → Int32) (m3' : Int32) (f4' g4' c4' : Nat → Int32) (m4' : Int32) (f5' g5' c5' : Nat → Int32) (m5' : Int32), z_m20 m3' ∧ z_m20 m4' ∧ z_m20 m5' ∧ L = (z_cw rf kn ma xa fa ca mb xb fb cb mt false ft ct f0 g0 c0 m0 0 f1 g1 c1 m1 0 f2 g2 c2 (nI U.length) 1 f3' g3' c3' m3' 0 f4' g4' c4' m4' 0 f5' g5' c5' m5' 1 ek0 em0 es0 el0 b0 ef0 ek1 em1 es1 el1 b1 ef1 []))) 9 [(0, .ref 0), (1, .ref 21), (2, .int (nI j)), (3, .int (nI i))] [] ((z_cw rf kn ma xa fa ca mb xb fb cb mt false ft ct f0 g0 c0 m0 0 f1 g1 c1 m1 0 f2 g2 c2 (nI U.length) 1 f3' g3' c3' m3' 0 f4' g4' c4' m4' 0 f5' g5' c5' m5' 1 ek0 em0 es0 el0 b0 ef0 ek1 em1 es1 el1 b1 ef1 []), z_no) 0 0 := by
          intro n8
          induction n8 with
          | zero => intro f3' g3' c3' m3' f4' g4' c4' m4' f5' g5' c5' m5' i q3 q4 q5 hi hf8; exact absurd hf8 (by omega)
          | succ n8 ih8 =>
            intro f3' g3' c3' m3' f4' g4' c4' m4' f5' g5' c5' m5' i q3 q4 q5 hi hf8
            refine j_iload_n dX8_areCallsLike_9 rfl ?_
            refine j_iconst (v := 3) dX8_areCallsLike_10 (by decide) ?_
            refine j_icmp_gt (tgt := 55) dX8_areCallsLike_11 (by decide) (fun c_11 => ?_) (fun c_11 => ?_)
            · have hb11 : 3 < i := (nI_ltI (a := 3) (b := i) (by omega) (by omega)).mp c_11
              refine j_iinc (lo' := [(2, _), (0, _), (1, _), (3, _)]) dX8_areCallsLike_55 rfl (z_inc _) (by decide) rfl ?_
              refine j_goto (tgt := 2) dX8_areCallsLike_58 (by decide) ?_
              exact j_lo2 (ih _ _ _ _ _ _ _ _ _ _ _ _ (j + 1) (by assumption) (by assumption) (by assumption) (by omega) (by omega)) (z_q1 rfl (z_q1 rfl (z_q1 rfl z_q0)))
            · have hb11 : ¬ 3 < i := fun z => c_11 ((nI_ltI (a := 3) (b := i) (by omega) (by omega)).mpr z)
              refine j_aload_n dX8_areCallsLike_14 rfl rfl ?_
              refine j_aload_n dX8_areCallsLike_15 rfl rfl ?_
              refine j_iload_n dX8_areCallsLike_16 rfl ?_
              refine j_iload_n dX8_areCallsLike_17 rfl ?_
              refine j_iconst (v := 0) dX8_areCallsLike_18 (by decide) ?_
              refine j_callV (q := (RX8, TX8, 9)) dX8_areCallsLike_19 kX8_isCallLike lX8_346 inX8_isCallLike seX8_isCallLike rfl rfl (z_dirF (c_X8_isCallLike_2_e hl _ _ _ _ _ _ _ _ _ _ _ _ _ _ _ _ _ _ _ _ _ _ _ _ _ _ _ _ _ _ _ _ _ _ _ _ _ _ _ _ _ _ _ _ _ _ _ _ U _ j _ hU (by omega))) (Nat.le_of_ble_eq_true rfl) ⟨(Nat.le_of_ble_eq_true rfl), (Nat.le_of_ble_eq_true rfl)⟩ rfl (Nat.le_of_ble_eq_true rfl) rfl rfl (fun _ _ h => h.elim) ?_
              rintro _ _ ⟨_, ⟨rfl, _, _, _, _, _, _, _, _, _, _, _, _, q3, q4, q5, rfl⟩, rfl⟩
              refine j_if_eq (tgt := 47) dX8_areCallsLike_22 (by decide) (fun c_22 => ?_) (fun c_22 => ?_)
              · exact absurd c_22 (by decide)
              · refine j_aload_n dX8_areCallsLike_25 rfl rfl ?_
                refine j_aload_n dX8_areCallsLike_26 rfl rfl ?_
                refine j_iload_n dX8_areCallsLike_27 rfl ?_
                refine j_iload_n dX8_areCallsLike_28 rfl ?_
                refine j_iconst (v := 2) dX8_areCallsLike_29 (by decide) ?_
                refine j_callV (q := (RX8, TX8, 9)) dX8_areCallsLike_30 kX8_isCallLike lX8_346 inX8_isCallLike seX8_isCallLike rfl rfl (z_dirF (c_X8_isCallLike_2_e hl _ _ _ _ _ _ _ _ _ _ _ _ _ _ _ _ _ _ _ _ _ _ _ _ _ _ _ _ _ _ _ _ _ _ _ _ _ _ _ _ _ _ _ _ _ _ _ _ U _ j _ hU (by omega))) (Nat.le_of_ble_eq_true rfl) ⟨(Nat.le_of_ble_eq_true rfl), (Nat.le_of_ble_eq_true rfl)⟩ rfl (Nat.le_of_ble_eq_true rfl) rfl rfl (fun _ _ h => h.elim) ?_
                rintro _ _ ⟨_, ⟨rfl, _, _, _, _, _, _, _, _, _, _, _, _, q3, q4, q5, rfl⟩, rfl⟩
                refine j_if_eq (tgt := 47) dX8_areCallsLike_33 (by decide) (fun c_33 => ?_) (fun c_33 => ?_)
                · exact absurd c_33 (by decide)
                · refine j_aload_n dX8_areCallsLike_36 rfl rfl ?_
                  refine j_aload_n dX8_areCallsLike_37 rfl rfl ?_
                  refine j_iload_n dX8_areCallsLike_38 rfl ?_
                  refine j_iload_n dX8_areCallsLike_39 rfl ?_
                  refine j_iconst (v := 3) dX8_areCallsLike_40 (by decide) ?_
                  refine j_callV (q := (RX8, TX8, 9)) dX8_areCallsLike_41 kX8_isCallLike lX8_346 inX8_isCallLike seX8_isCallLike rfl rfl (z_dirF (c_X8_isCallLike_2_e hl _ _ _ _ _ _ _ _ _ _ _ _ _ _ _ _ _ _ _ _ _ _ _ _ _ _ _ _ _ _ _ _ _ _ _ _ _ _ _ _ _ _ _ _ _ _ _ _ U _ j _ hU (by omega))) (Nat.le_of_ble_eq_true rfl) ⟨(Nat.le_of_ble_eq_true rfl), (Nat.le_of_ble_eq_true rfl)⟩ rfl (Nat.le_of_ble_eq_true rfl) rfl rfl (fun _ _ h => h.elim) ?_
                  rintro _ _ ⟨_, ⟨rfl, _, _, _, _, _, _, _, _, _, _, _, _, q3, q4, q5, rfl⟩, rfl⟩
                  refine j_if_ne (tgt := 49) dX8_areCallsLike_44 (by decide) (fun c_44 => ?_) (fun c_44 => ?_)
                  · refine j_iinc (lo' := [(3, _), (0, _), (1, _), (2, _)]) dX8_areCallsLike_49 rfl (z_inc _) (by decide) rfl ?_
                    refine j_goto (tgt := 9) dX8_areCallsLike_52 (by decide) ?_
                    exact j_lo2 (ih8 _ _ _ _ _ _ _ _ _ _ _ _ (i + 1) q3 q4 q5 (by omega) (by omega)) (z_q1 rfl (z_q1 rfl (z_q1 rfl (z_q1 rfl z_q0))))
                  · exact absurd c_44 (by decide)
        exact j_lo2 (loopi 5 _ _ _ _ _ _ _ _ _ _ _ _ 0 (by assumption) (by assumption) (by assumption) (by omega) (by omega)) (z_q1 rfl (z_q1 rfl (z_q1 rfl (z_q1 rfl z_q0))))
  exact j_lo2 (loop 5 _ _ _ _ _ _ _ _ _ _ _ _ 0 hz3 hz4 hz5 (by omega) (by omega)) (z_q1 rfl (z_q1 rfl (z_q1 rfl z_q0)))
set_option maxRecDepth 100000 in
set_option maxHeartbeats 8000000 in
theorem c_X8_isSound_s (hl : l.stackTraces = false) (S : sp_S) (fa : Nat → Int32) (fb : Nat → Int32) (mt : Int32) (ft : Nat → Int32) (ct : Nat → Int32) (f0 : Nat → Int32) (g0 : Nat → Int32) (f1 : Nat → Int32) (g1 : Nat → Int32) (c1 : Nat → Int32) (f2 : Nat → Int32) (g2 : Nat → Int32) (c2 : Nat → Int32) (f3 : Nat → Int32) (g3 : Nat → Int32) (c3 : Nat → Int32) (m3 : Int32) (f4 : Nat → Int32) (g4 : Nat → Int32) (c4 : Nat → Int32) (m4 : Int32) (f5 : Nat → Int32) (g5 : Nat → Int32) (c5 : Nat → Int32) (m5 : Int32) (ef0 : Nat → Int32) (ef1 : Nat → Int32) (hra : z_row 12 (nI (sp_R S 0).length) fa (sp_R S 0)) (hrb : z_row 12 (nI (sp_R S 1).length) fb (sp_R S 1)) (ht0 : z_tba f0 g0 (sp_T S 0)) (ht1 : z_tba f1 g1 (sp_T S 1)) (ht2 : z_tba f2 g2 (sp_T S 2)) (he0 : z_row 10 (nI (sp_E S 0).2.length) ef0 (sp_E S 0).2) (he1 : z_row 10 (nI (sp_E S 1).2.length) ef1 (sp_E S 1).2) (hzm3 : z_m20 m3) (hzm4 : z_m20 m4) (hzm5 : z_m20 m5) : z_CF G l mX8_isSound 21 12 60 (z_cw S.1.1 S.1.2 (nI (sp_R S 0).length) (sp_F S 0) fa (sp_C S 0) (nI (sp_R S 1).length) (sp_F S 1) fb (sp_C S 1) mt false ft ct f0 g0 (sp_C S 2) (nI (sp_T S 0).length) 0 f1 g1 c1 (nI (sp_T S 1).length) 0 f2 g2 c2 (nI (sp_T S 2).length) 1 f3 g3 c3 m3 0 f4 g4 c4 m4 0 f5 g5 c5 m5 1 (nI (sp_E S 0).2.length) (sp_E S 0).1.2.1 (sp_E S 0).1.2.2.1 (sp_E S 0).1.2.2.2 (sp_E S 0).1.1 ef0 (nI (sp_E S 1).2.length) (sp_E S 1).1.2.1 (sp_E S 1).1.2.2.1 (sp_E S 1).1.2.2.2 (sp_E S 1).1.1 ef1 []) [.ref 0] (fun v L => v = some (.int 1) ∧ ∃ (mt' : Int32) (ft' ct' : Nat → Int32) (f3' g3' c3' : Nat → Int32) (m3' : Int32) (f4' g4' c4' : Nat → Int32) (m4' : Int32) (f5' g5' c5' : Nat → Int32) (m5' : Int32), z_m20 m3' ∧ z_m20 m4' ∧ z_m20 m5' ∧ L = (z_cw S.1.1 S.1.2 (nI (sp_R S 0).length) (sp_F S 0) fa (sp_C S 0) (nI (sp_R S 1).length) (sp_F S 1) fb (sp_C S 1) mt' false ft' ct' f0 g0 (sp_C S 2) (nI (sp_T S 0).length) 0 f1 g1 c1 (nI (sp_T S 1).length) 0 f2 g2 c2 (nI (sp_T S 2).length) 1 f3' g3' c3' m3' 0 f4' g4' c4' m4' 0 f5' g5' c5' m5' 1 (nI (sp_E S 0).2.length) (sp_E S 0).1.2.1 (sp_E S 0).1.2.2.1 (sp_E S 0).1.2.2.2 (sp_E S 0).1.1 ef0 (nI (sp_E S 1).2.length) (sp_E S 1).1.2.1 (sp_E S 1).1.2.2.1 (sp_E S 1).1.2.2.2 (sp_E S 1).1.1 ef1 [])) := by
  refine z_body hl (by decide) rfl (Nat.le_of_ble_eq_true rfl) ?_
  show z_J G l mX8_isSound (z_SF 21 12 60 (z_cw S.1.1 S.1.2 (nI (sp_R S 0).length) (sp_F S 0) fa (sp_C S 0) (nI (sp_R S 1).length) (sp_F S 1) fb (sp_C S 1) mt false ft ct f0 g0 (sp_C S 2) (nI (sp_T S 0).length) 0 f1 g1 c1 (nI (sp_T S 1).length) 0 f2 g2 c2 (nI (sp_T S 2).length) 1 f3 g3 c3 m3 0 f4 g4 c4 m4 0 f5 g5 c5 m5 1 (nI (sp_E S 0).2.length) (sp_E S 0).1.2.1 (sp_E S 0).1.2.2.1 (sp_E S 0).1.2.2.2 (sp_E S 0).1.1 ef0 (nI (sp_E S 1).2.length) (sp_E S 1).1.2.1 (sp_E S 1).1.2.2.1 (sp_E S 1).1.2.2.2 (sp_E S 1).1.1 ef1 []) (fun v L => v = some (.int 1) ∧ ∃ (mt' : Int32) (ft' ct' : Nat → Int32) (f3' g3' c3' : Nat → Int32) (m3' : Int32) (f4' g4' c4' : Nat → Int32) (m4' : Int32) (f5' g5' c5' : Nat → Int32) (m5' : Int32), z_m20 m3' ∧ z_m20 m4' ∧ z_m20 m5' ∧ L = (z_cw S.1.1 S.1.2 (nI (sp_R S 0).length) (sp_F S 0) fa (sp_C S 0) (nI (sp_R S 1).length) (sp_F S 1) fb (sp_C S 1) mt' false ft' ct' f0 g0 (sp_C S 2) (nI (sp_T S 0).length) 0 f1 g1 c1 (nI (sp_T S 1).length) 0 f2 g2 c2 (nI (sp_T S 2).length) 1 f3' g3' c3' m3' 0 f4' g4' c4' m4' 0 f5' g5' c5' m5' 1 (nI (sp_E S 0).2.length) (sp_E S 0).1.2.1 (sp_E S 0).1.2.2.1 (sp_E S 0).1.2.2.2 (sp_E S 0).1.1 ef0 (nI (sp_E S 1).2.length) (sp_E S 1).1.2.1 (sp_E S 1).1.2.2.1 (sp_E S 1).1.2.2.2 (sp_E S 1).1.1 ef1 []))) 0 [(0, _)] [] _ 0 0
  refine j_aload_n dX8_isSound_0 rfl rfl ?_
  refine j_getf dX8_isSound_1 fX8_10 rfl rfl ?_
  refine j_astore_n (lo' := [(1, _), (0, _)]) dX8_isSound_4 rfl (by decide) rfl ?_
  refine j_aload_n dX8_isSound_5 rfl rfl ?_
  refine j_alen dX8_isSound_6 rfl rfl rfl ?_
  refine j_istore_n (lo' := [(2, _), (1, _), (0, _)]) dX8_isSound_7 (by decide) rfl ?_
  refine j_iconst (v := 0) dX8_isSound_8 (by decide) ?_
  refine j_istore_n (lo' := [(3, _), (2, _), (1, _), (0, _)]) dX8_isSound_9 (by decide) rfl ?_
  refine j_iload_n dX8_isSound_10 rfl ?_
  refine j_iload_n dX8_isSound_11 rfl ?_
  refine j_icmp_ge (tgt := 46) dX8_isSound_12 (by decide) (fun c_12 => ?_) (fun c_12 => ?_)
  · exact absurd c_12 (by decide)
  · refine j_aload_n dX8_isSound_15 rfl rfl ?_
    refine j_iload_n dX8_isSound_16 rfl ?_
    refine j_aald (v := .ref 2) dX8_isSound_17 rfl rfl rfl (vp_in_iff.mpr (by decide)) rfl ?_
    refine j_astore (lo' := [(4, _), (3, _), (2, _), (1, _), (0, _)]) dX8_isSound_18 rfl (by decide) rfl ?_
    refine j_aload_n dX8_isSound_20 rfl rfl ?_
    refine j_aload dX8_isSound_21 rfl rfl ?_
    refine j_callV (q := (RX8, TX8, 9)) dX8_isSound_23 kX8_isWalkCounted lX8_259 inX8_isWalkCounted seX8_isWalkCounted rfl rfl (z_dirF (c_X8_isWalkCounted_0_e hl _ _ _ _ _ _ _ _ _ _ _ _ _ _ _ _ _ _ _ _ _ _ _ _ _ _ _ _ _ _ _ _ _ _ _ _ _ _ _ _ _ _ _ _ _ _ _ _ _ _ _ _ _ _ _ _ hra rfl)) (Nat.le_of_ble_eq_true rfl) ⟨(Nat.le_of_ble_eq_true rfl), (Nat.le_of_ble_eq_true rfl)⟩ rfl (Nat.le_of_ble_eq_true rfl) rfl rfl (fun _ _ h => h.elim) ?_
    rintro _ _ ⟨_, ⟨rfl, _, _, _, rfl⟩, rfl⟩
    refine j_if_eq (tgt := 38) dX8_isSound_26 (by decide) (fun c_26 => ?_) (fun c_26 => ?_)
    · exact absurd c_26 (by decide)
    · refine j_aload_n dX8_isSound_29 rfl rfl ?_
      refine j_aload dX8_isSound_30 rfl rfl ?_
      refine j_callV (q := (RX8, TX8, 9)) dX8_isSound_32 kX8_isTakingPlain lX8_263 inX8_isTakingPlain seX8_isTakingPlain rfl rfl (z_dirF (c_X8_isTakingPlain_0_e hl _ _ _ _ _ _ _ _ _ _ _ _ _ _ _ _ _ _ _ _ _ _ _ _ _ _ _ _ _ _ _ _ _ _ _ _ _ _ _ _ _ _ _ _ _ _ _ _ _ _ _ _ _ _ _ _ hra rfl)) (Nat.le_of_ble_eq_true rfl) ⟨(Nat.le_of_ble_eq_true rfl), (Nat.le_of_ble_eq_true rfl)⟩ rfl (Nat.le_of_ble_eq_true rfl) rfl rfl (fun _ _ h => h.elim) ?_
      rintro _ _ ⟨_, ⟨rfl, _, _, _, rfl⟩, rfl⟩
      refine j_if_ne (tgt := 40) dX8_isSound_35 (by decide) (fun c_35 => ?_) (fun c_35 => ?_)
      · refine j_iinc (lo' := [(3, _), (4, _), (2, _), (1, _), (0, _)]) dX8_isSound_40 rfl rfl (by decide) rfl ?_
        refine j_goto (tgt := 10) dX8_isSound_43 (by decide) ?_
        refine j_iload_n dX8_isSound_10 rfl ?_
        refine j_iload_n dX8_isSound_11 rfl ?_
        refine j_icmp_ge (tgt := 46) dX8_isSound_12 (by decide) (fun c_12 => ?_) (fun c_12 => ?_)
        · exact absurd c_12 (by decide)
        · refine j_aload_n dX8_isSound_15 rfl rfl ?_
          refine j_iload_n dX8_isSound_16 rfl ?_
          refine j_aald (v := .ref 6) dX8_isSound_17 rfl rfl rfl (vp_in_iff.mpr (by decide)) rfl ?_
          refine j_astore (lo' := [(4, _), (3, _), (2, _), (1, _), (0, _)]) dX8_isSound_18 rfl (by decide) rfl ?_
          refine j_aload_n dX8_isSound_20 rfl rfl ?_
          refine j_aload dX8_isSound_21 rfl rfl ?_
          refine j_callV (q := (RX8, TX8, 9)) dX8_isSound_23 kX8_isWalkCounted lX8_259 inX8_isWalkCounted seX8_isWalkCounted rfl rfl (z_dirF (c_X8_isWalkCounted_1_e hl _ _ _ _ _ _ _ _ _ _ _ _ _ _ _ _ _ _ _ _ _ _ _ _ _ _ _ _ _ _ _ _ _ _ _ _ _ _ _ _ _ _ _ _ _ _ _ _ _ _ _ _ _ _ _ _ hrb rfl)) (Nat.le_of_ble_eq_true rfl) ⟨(Nat.le_of_ble_eq_true rfl), (Nat.le_of_ble_eq_true rfl)⟩ rfl (Nat.le_of_ble_eq_true rfl) rfl rfl (fun _ _ h => h.elim) ?_
          rintro _ _ ⟨_, ⟨rfl, _, _, _, rfl⟩, rfl⟩
          refine j_if_eq (tgt := 38) dX8_isSound_26 (by decide) (fun c_26 => ?_) (fun c_26 => ?_)
          · exact absurd c_26 (by decide)
          · refine j_aload_n dX8_isSound_29 rfl rfl ?_
            refine j_aload dX8_isSound_30 rfl rfl ?_
            refine j_callV (q := (RX8, TX8, 9)) dX8_isSound_32 kX8_isTakingPlain lX8_263 inX8_isTakingPlain seX8_isTakingPlain rfl rfl (z_dirF (c_X8_isTakingPlain_1_e hl _ _ _ _ _ _ _ _ _ _ _ _ _ _ _ _ _ _ _ _ _ _ _ _ _ _ _ _ _ _ _ _ _ _ _ _ _ _ _ _ _ _ _ _ _ _ _ _ _ _ _ _ _ _ _ _ hrb rfl)) (Nat.le_of_ble_eq_true rfl) ⟨(Nat.le_of_ble_eq_true rfl), (Nat.le_of_ble_eq_true rfl)⟩ rfl (Nat.le_of_ble_eq_true rfl) rfl rfl (fun _ _ h => h.elim) ?_
            rintro _ _ ⟨_, ⟨rfl, _, _, _, rfl⟩, rfl⟩
            refine j_if_ne (tgt := 40) dX8_isSound_35 (by decide) (fun c_35 => ?_) (fun c_35 => ?_)
            · refine j_iinc (lo' := [(3, _), (4, _), (2, _), (1, _), (0, _)]) dX8_isSound_40 rfl rfl (by decide) rfl ?_
              refine j_goto (tgt := 10) dX8_isSound_43 (by decide) ?_
              refine j_iload_n dX8_isSound_10 rfl ?_
              refine j_iload_n dX8_isSound_11 rfl ?_
              refine j_icmp_ge (tgt := 46) dX8_isSound_12 (by decide) (fun c_12 => ?_) (fun c_12 => ?_)
              · refine j_aload_n dX8_isSound_46 rfl rfl ?_
                refine j_getf dX8_isSound_47 fX8_25 rfl rfl ?_
                refine j_astore_n (lo' := [(1, _), (3, _), (4, _), (2, _), (0, _)]) dX8_isSound_50 rfl (by decide) rfl ?_
                refine j_aload_n dX8_isSound_51 rfl rfl ?_
                refine j_alen dX8_isSound_52 rfl rfl rfl ?_
                refine j_istore_n (lo' := [(2, _), (1, _), (3, _), (4, _), (0, _)]) dX8_isSound_53 (by decide) rfl ?_
                refine j_iconst (v := 0) dX8_isSound_54 (by decide) ?_
                refine j_istore_n (lo' := [(3, _), (2, _), (1, _), (4, _), (0, _)]) dX8_isSound_55 (by decide) rfl ?_
                refine j_iload_n dX8_isSound_56 rfl ?_
                refine j_iload_n dX8_isSound_57 rfl ?_
                refine j_icmp_ge (tgt := 92) dX8_isSound_58 (by decide) (fun c_58 => ?_) (fun c_58 => ?_)
                · exact absurd c_58 (by decide)
                · refine j_aload_n dX8_isSound_61 rfl rfl ?_
                  refine j_iload_n dX8_isSound_62 rfl ?_
                  refine j_aald (v := .ref 10) dX8_isSound_63 rfl rfl rfl (vp_in_iff.mpr (by decide)) rfl ?_
                  refine j_astore (lo' := [(4, _), (3, _), (2, _), (1, _), (0, _)]) dX8_isSound_64 rfl (by decide) rfl ?_
                  refine j_aload_n dX8_isSound_66 rfl rfl ?_
                  refine j_aload dX8_isSound_67 rfl rfl ?_
                  refine j_callV (q := (RX8, TX8, 9)) dX8_isSound_69 kX8_areCopiesLike lX8_266 inX8_areCopiesLike seX8_areCopiesLike rfl rfl (z_dirF (c_X8_areCopiesLike_0_e hl _ _ _ _ _ _ _ _ _ _ _ _ _ _ _ _ _ _ _ _ _ _ _ _ _ _ _ _ _ _ _ _ _ _ _ _ _ _ _ _ _ _ _ _ _ _ _ _ _ ht0)) (Nat.le_of_ble_eq_true rfl) ⟨(Nat.le_of_ble_eq_true rfl), (Nat.le_of_ble_eq_true rfl)⟩ rfl (Nat.le_of_ble_eq_true rfl) rfl rfl (fun _ _ h => h.elim) ?_
                  rintro _ _ ⟨_, ⟨rfl, _, _, _, _, _, _, _, _, _, _, _, _, q3, q4, q5, rfl⟩, rfl⟩
                  refine j_if_eq (tgt := 84) dX8_isSound_72 (by decide) (fun c_72 => ?_) (fun c_72 => ?_)
                  · exact absurd c_72 (by decide)
                  · refine j_aload_n dX8_isSound_75 rfl rfl ?_
                    refine j_aload dX8_isSound_76 rfl rfl ?_
                    refine j_callV (q := (RX8, TX8, 9)) dX8_isSound_78 kX8_areCallsLike lX8_269 inX8_areCallsLike seX8_areCallsLike rfl rfl (z_dirF (c_X8_areCallsLike_0_e hl _ _ _ _ _ _ _ _ _ _ _ _ _ _ _ _ _ _ _ _ _ _ _ _ _ _ _ _ _ _ _ _ _ _ _ _ _ _ _ _ _ _ _ _ _ _ _ _ _ ht0 q3 q4 q5)) (Nat.le_of_ble_eq_true rfl) ⟨(Nat.le_of_ble_eq_true rfl), (Nat.le_of_ble_eq_true rfl)⟩ rfl (Nat.le_of_ble_eq_true rfl) rfl rfl (fun _ _ h => h.elim) ?_
                    rintro _ _ ⟨_, ⟨rfl, _, _, _, _, _, _, _, _, _, _, _, _, q3, q4, q5, rfl⟩, rfl⟩
                    refine j_if_ne (tgt := 86) dX8_isSound_81 (by decide) (fun c_81 => ?_) (fun c_81 => ?_)
                    · refine j_iinc (lo' := [(3, _), (4, _), (2, _), (1, _), (0, _)]) dX8_isSound_86 rfl rfl (by decide) rfl ?_
                      refine j_goto (tgt := 56) dX8_isSound_89 (by decide) ?_
                      refine j_iload_n dX8_isSound_56 rfl ?_
                      refine j_iload_n dX8_isSound_57 rfl ?_
                      refine j_icmp_ge (tgt := 92) dX8_isSound_58 (by decide) (fun c_58 => ?_) (fun c_58 => ?_)
                      · exact absurd c_58 (by decide)
                      · refine j_aload_n dX8_isSound_61 rfl rfl ?_
                        refine j_iload_n dX8_isSound_62 rfl ?_
                        refine j_aald (v := .ref 16) dX8_isSound_63 rfl rfl rfl (vp_in_iff.mpr (by decide)) rfl ?_
                        refine j_astore (lo' := [(4, _), (3, _), (2, _), (1, _), (0, _)]) dX8_isSound_64 rfl (by decide) rfl ?_
                        refine j_aload_n dX8_isSound_66 rfl rfl ?_
                        refine j_aload dX8_isSound_67 rfl rfl ?_
                        refine j_callV (q := (RX8, TX8, 9)) dX8_isSound_69 kX8_areCopiesLike lX8_266 inX8_areCopiesLike seX8_areCopiesLike rfl rfl (z_dirF (c_X8_areCopiesLike_1_e hl _ _ _ _ _ _ _ _ _ _ _ _ _ _ _ _ _ _ _ _ _ _ _ _ _ _ _ _ _ _ _ _ _ _ _ _ _ _ _ _ _ _ _ _ _ _ _ _ _ ht1)) (Nat.le_of_ble_eq_true rfl) ⟨(Nat.le_of_ble_eq_true rfl), (Nat.le_of_ble_eq_true rfl)⟩ rfl (Nat.le_of_ble_eq_true rfl) rfl rfl (fun _ _ h => h.elim) ?_
                        rintro _ _ ⟨_, ⟨rfl, _, _, _, _, _, _, _, _, _, _, _, _, q3, q4, q5, rfl⟩, rfl⟩
                        refine j_if_eq (tgt := 84) dX8_isSound_72 (by decide) (fun c_72 => ?_) (fun c_72 => ?_)
                        · exact absurd c_72 (by decide)
                        · refine j_aload_n dX8_isSound_75 rfl rfl ?_
                          refine j_aload dX8_isSound_76 rfl rfl ?_
                          refine j_callV (q := (RX8, TX8, 9)) dX8_isSound_78 kX8_areCallsLike lX8_269 inX8_areCallsLike seX8_areCallsLike rfl rfl (z_dirF (c_X8_areCallsLike_1_e hl _ _ _ _ _ _ _ _ _ _ _ _ _ _ _ _ _ _ _ _ _ _ _ _ _ _ _ _ _ _ _ _ _ _ _ _ _ _ _ _ _ _ _ _ _ _ _ _ _ ht1 q3 q4 q5)) (Nat.le_of_ble_eq_true rfl) ⟨(Nat.le_of_ble_eq_true rfl), (Nat.le_of_ble_eq_true rfl)⟩ rfl (Nat.le_of_ble_eq_true rfl) rfl rfl (fun _ _ h => h.elim) ?_
                          rintro _ _ ⟨_, ⟨rfl, _, _, _, _, _, _, _, _, _, _, _, _, q3, q4, q5, rfl⟩, rfl⟩
                          refine j_if_ne (tgt := 86) dX8_isSound_81 (by decide) (fun c_81 => ?_) (fun c_81 => ?_)
                          · refine j_iinc (lo' := [(3, _), (4, _), (2, _), (1, _), (0, _)]) dX8_isSound_86 rfl rfl (by decide) rfl ?_
                            refine j_goto (tgt := 56) dX8_isSound_89 (by decide) ?_
                            refine j_iload_n dX8_isSound_56 rfl ?_
                            refine j_iload_n dX8_isSound_57 rfl ?_
                            refine j_icmp_ge (tgt := 92) dX8_isSound_58 (by decide) (fun c_58 => ?_) (fun c_58 => ?_)
                            · exact absurd c_58 (by decide)
                            · refine j_aload_n dX8_isSound_61 rfl rfl ?_
                              refine j_iload_n dX8_isSound_62 rfl ?_
                              refine j_aald (v := .ref 21) dX8_isSound_63 rfl rfl rfl (vp_in_iff.mpr (by decide)) rfl ?_
                              refine j_astore (lo' := [(4, _), (3, _), (2, _), (1, _), (0, _)]) dX8_isSound_64 rfl (by decide) rfl ?_
                              refine j_aload_n dX8_isSound_66 rfl rfl ?_
                              refine j_aload dX8_isSound_67 rfl rfl ?_
                              refine j_callV (q := (RX8, TX8, 9)) dX8_isSound_69 kX8_areCopiesLike lX8_266 inX8_areCopiesLike seX8_areCopiesLike rfl rfl (z_dirF (c_X8_areCopiesLike_2_e hl _ _ _ _ _ _ _ _ _ _ _ _ _ _ _ _ _ _ _ _ _ _ _ _ _ _ _ _ _ _ _ _ _ _ _ _ _ _ _ _ _ _ _ _ _ _ _ _ _ ht2)) (Nat.le_of_ble_eq_true rfl) ⟨(Nat.le_of_ble_eq_true rfl), (Nat.le_of_ble_eq_true rfl)⟩ rfl (Nat.le_of_ble_eq_true rfl) rfl rfl (fun _ _ h => h.elim) ?_
                              rintro _ _ ⟨_, ⟨rfl, _, _, _, _, _, _, _, _, _, _, _, _, q3, q4, q5, rfl⟩, rfl⟩
                              refine j_if_eq (tgt := 84) dX8_isSound_72 (by decide) (fun c_72 => ?_) (fun c_72 => ?_)
                              · exact absurd c_72 (by decide)
                              · refine j_aload_n dX8_isSound_75 rfl rfl ?_
                                refine j_aload dX8_isSound_76 rfl rfl ?_
                                refine j_callV (q := (RX8, TX8, 9)) dX8_isSound_78 kX8_areCallsLike lX8_269 inX8_areCallsLike seX8_areCallsLike rfl rfl (z_dirF (c_X8_areCallsLike_2_e hl _ _ _ _ _ _ _ _ _ _ _ _ _ _ _ _ _ _ _ _ _ _ _ _ _ _ _ _ _ _ _ _ _ _ _ _ _ _ _ _ _ _ _ _ _ _ _ _ _ ht2 q3 q4 q5)) (Nat.le_of_ble_eq_true rfl) ⟨(Nat.le_of_ble_eq_true rfl), (Nat.le_of_ble_eq_true rfl)⟩ rfl (Nat.le_of_ble_eq_true rfl) rfl rfl (fun _ _ h => h.elim) ?_
                                rintro _ _ ⟨_, ⟨rfl, _, _, _, _, _, _, _, _, _, _, _, _, q3, q4, q5, rfl⟩, rfl⟩
                                refine j_if_ne (tgt := 86) dX8_isSound_81 (by decide) (fun c_81 => ?_) (fun c_81 => ?_)
                                · refine j_iinc (lo' := [(3, _), (4, _), (2, _), (1, _), (0, _)]) dX8_isSound_86 rfl rfl (by decide) rfl ?_
                                  refine j_goto (tgt := 56) dX8_isSound_89 (by decide) ?_
                                  refine j_iload_n dX8_isSound_56 rfl ?_
                                  refine j_iload_n dX8_isSound_57 rfl ?_
                                  refine j_icmp_ge (tgt := 92) dX8_isSound_58 (by decide) (fun c_58 => ?_) (fun c_58 => ?_)
                                  · refine j_iconst (v := 1) dX8_isSound_92 (by decide) ?_
                                    refine j_iret dX8_isSound_93 rfl rfl ?_ (Nat.le_of_ble_eq_true rfl) (Nat.le_of_ble_eq_true rfl)
                                    exact ⟨rfl, (by first | exact z_cwl | rfl), rfl, _, _, _, _, _, _, _, _, _, _, _, _, _, _, _, q3, q4, q5, rfl⟩
                                  · exact absurd (by decide) c_58
                                · exact absurd c_81 (by decide)
                          · exact absurd c_81 (by decide)
                    · exact absurd c_81 (by decide)
              · exact absurd (by decide) c_12
            · exact absurd c_35 (by decide)
      · exact absurd c_35 (by decide)
end ZCs
