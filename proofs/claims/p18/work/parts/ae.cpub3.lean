section ZCp3
variable {G : z_G} {l : Launch}
theorem c_X4_reckonAbsent_c (hl : l.stackTraces = false) (c2 : Nat → Int32) (b : Bool) (f g c : Nat → Int32) (T : List (Nat × Int32)) (k : Nat) (r n : Int32) (ht : z_tba f g T) (hk : k < 20) (hn : z_vl n) : z_CF G l mX4_reckonAbsent 14 0 0 [.inr (9, [.int (z_bi b), .ref 1, .ref 2, .ref 3, .int (nI (T).length)]), z_ia 20 f, z_ia 20 g, .inr (11, [.ref 4]), z_ia 7 c] [.ref 0, .int (nI k), .int r, .int n] (fun v L => v = some (.int ((sp_cia b T c2 k r n).1.getD (-1001))) ∧ ∃ f' g' : Nat → Int32, z_tba f' g' (sp_cia b T c2 k r n).2.1 ∧ L = [.inr (9, [.int (z_bi b), .ref 1, .ref 2, .ref 3, .int (nI ((sp_cia b T c2 k r n).2.1).length)]), z_ia 20 f', z_ia 20 g', .inr (11, [.ref 4]), z_ia 7 (sp_cia b T c k r n).2.2]) := by
  rw [(sp_cia_c (c := c2) (c2 := c)).1, (sp_cia_c (c := c2) (c2 := c)).2]
  exact c_X4_reckonAbsent_e hl b f g c T k r n ht hk hn
theorem c_X4_reckonPresent_c (hl : l.stackTraces = false) (c2 : Nat → Int32) (b : Bool) (f g c : Nat → Int32) (T : List (Nat × Int32)) (k : Nat) (r n : Int32) (ht : z_tba f g T) (hk : k < 20) (hn : z_vl n) : z_CF G l mX4_reckonPresent 16 0 0 [.inr (9, [.int (z_bi b), .ref 1, .ref 2, .ref 3, .int (nI (T).length)]), z_ia 20 f, z_ia 20 g, .inr (11, [.ref 4]), z_ia 7 c] [.ref 0, .int (nI k), .int r, .int n] (fun v L => v = some (.int ((sp_cip b T c2 k r n).1.getD (-1001))) ∧ ∃ f' g' : Nat → Int32, z_tba f' g' (sp_cip b T c2 k r n).2.1 ∧ L = [.inr (9, [.int (z_bi b), .ref 1, .ref 2, .ref 3, .int (nI ((sp_cip b T c2 k r n).2.1).length)]), z_ia 20 f', z_ia 20 g', .inr (11, [.ref 4]), z_ia 7 (sp_cip b T c k r n).2.2]) := by
  rw [(sp_cip_c (c := c2) (c2 := c)).1, (sp_cip_c (c := c2) (c2 := c)).2]
  exact c_X4_reckonPresent_e hl b f g c T k r n ht hk hn
theorem c_X4_join_c (hl : l.stackTraces = false) (c2 : Nat → Int32) (b : Bool) (f g c : Nat → Int32) (T : List (Nat × Int32)) (k : Nat) (x r : Int32) (ht : z_tba f g T) (hk : k < 20) (hvl : z_vl x) : z_CF G l mX4_join 16 0 0 [.inr (9, [.int (z_bi b), .ref 1, .ref 2, .ref 3, .int (nI (T).length)]), z_ia 20 f, z_ia 20 g, .inr (11, [.ref 4]), z_ia 7 c] [.ref 0, .int (nI k), .int x, .int r] (fun v L => v = some (.int ((sp_mrg b T c2 k x r).1.getD (-1001))) ∧ ∃ f' g' : Nat → Int32, z_tba f' g' (sp_mrg b T c2 k x r).2.1 ∧ L = [.inr (9, [.int (z_bi b), .ref 1, .ref 2, .ref 3, .int (nI ((sp_mrg b T c2 k x r).2.1).length)]), z_ia 20 f', z_ia 20 g', .inr (11, [.ref 4]), z_ia 7 (sp_mrg b T c k x r).2.2]) := by
  rw [(sp_mrg_c (c := c2) (c2 := c)).1, (sp_mrg_c (c := c2) (c2 := c)).2]
  exact c_X4_join_e hl b f g c T k x r ht hk hvl
theorem c_X4_reckon_c (hl : l.stackTraces = false) (c2 : Nat → Int32) (b : Bool) (f g c : Nat → Int32) (T : List (Nat × Int32)) (k : Nat) (r n : Int32) (ht : z_tba f g T) (hk : k < 20) (hn : z_vl n) : z_CF G l mX4_reckon 14 0 0 [.inr (9, [.int (z_bi b), .ref 1, .ref 2, .ref 3, .int (nI (T).length)]), z_ia 20 f, z_ia 20 g, .inr (11, [.ref 4]), z_ia 7 c] [.ref 0, .int (nI k), .int r, .int n] (fun v L => v = some (.int ((sp_cmp b T c2 k r n).1.getD (-1001))) ∧ ∃ f' g' : Nat → Int32, z_tba f' g' (sp_cmp b T c2 k r n).2.1 ∧ L = [.inr (9, [.int (z_bi b), .ref 1, .ref 2, .ref 3, .int (nI ((sp_cmp b T c2 k r n).2.1).length)]), z_ia 20 f', z_ia 20 g', .inr (11, [.ref 4]), z_ia 7 (sp_bec b T c k (q_rt r (nI k) (q_d (sp_lk T k)) n)).2.2]) := by
  rw [show sp_cmp b T c2 k r n = sp_bec b T c2 k (q_rt r (nI k) (q_d (sp_lk T k)) n) from rfl, (sp_bec_c (c := c2) (c2 := c)).1, (sp_bec_c (c := c2) (c2 := c)).2]
  exact c_X4_reckon_e hl b f g c T k r n ht hk hn
theorem c_X8_hearOut_X5_c (hl : l.stackTraces = false) (c2 : Nat → Int32) (k u : Int32) (b : Bool) (f g c : Nat → Int32) (M : Nat) (T : List (Nat × Int32)) (h : sp_H) (ef : Nat → Int32) (ht : z_tba f g T) (hM : M = T.length) (he : z_row 10 (nI h.2.length) ef h.2) : z_CF G l mX8_hearOut 15 0 0 [.inr (10, [.ref 4, .int k, .int u, .ref 1, .int (nI 0)]), .inr (9, [.int (z_bi b), .ref 2, .ref 3, .ref 4, .int (nI M)]), z_ia 20 f, z_ia 20 g, .inr (11, [.ref 5]), z_ia 7 c, .inr (5, [.ref 7, .int (nI h.2.length), .int h.1.2.1, .int h.1.2.2.1, .int h.1.2.2.2, .int h.1.1]), z_ia 10 ef] [.ref 0, .ref 6] (fun v L => v = some (.int (((sp_ho c2 h 0 (sp_prs T)).1.map nI).getD (-1001))) ∧ ∃ (k' : Int32) (u' : Int32) (p' : Int32) (ef' : Nat → Int32), z_row 10 (nI (sp_ho c2 h 0 (sp_prs T)).2.2.2.length) ef' (sp_ho c2 h 0 (sp_prs T)).2.2.2 ∧ L = [.inr (10, [.ref 4, .int k', .int u', .ref 1, .int p']), .inr (9, [.int (z_bi b), .ref 2, .ref 3, .ref 4, .int (nI M)]), z_ia 20 f, z_ia 20 g, .inr (11, [.ref 5]), z_ia 7 (sp_ho c h 0 (sp_prs T)).2.1, .inr (5, [.ref 7, .int (nI (sp_ho c2 h 0 (sp_prs T)).2.2.2.length), .int (sp_ho c2 h 0 (sp_prs T)).2.2.1.2.1, .int (sp_ho c2 h 0 (sp_prs T)).2.2.1.2.2.1, .int (sp_ho c2 h 0 (sp_prs T)).2.2.1.2.2.2, .int (sp_ho c2 h 0 (sp_prs T)).2.2.1.1]), z_ia 10 ef']) := by
  rw [(sp_hoc (sp_prs T) c2 c h 0).1, (sp_hoc (sp_prs T) c2 c h 0).2]
  exact c_X8_hearOut_X5_e hl k u b f g c M T h ef ht hM he
theorem c_X8_changeEach_X5_c (hl : l.stackTraces = false) (c2 : Nat → Int32) (k u : Int32) (b : Bool) (f g c : Nat → Int32) (M : Nat) (T : List (Nat × Int32)) (r n : Int32) (ht : z_tba f g T) (hM : M = T.length) (hr2n : ¬ r = 2) (hr3n : ¬ r = 3) (hn : z_vl n) : z_CF G l mX8_changeEach 15 0 0 [.inr (10, [.ref 4, .int k, .int u, .ref 1, .int (nI 0)]), .inr (9, [.int (z_bi b), .ref 2, .ref 3, .ref 4, .int (nI M)]), z_ia 20 f, z_ia 20 g, .inr (11, [.ref 5]), z_ia 7 c] [.ref 0, .int r, .int n] (fun v L => v = some (.int (z_bi (sp_rt r n c2 [] T).1)) ∧ ∃ (k' u' p' : Int32) (f' : Nat → Int32), z_tba f' g (sp_rt r n c2 [] T).2.2 ∧ L = [.inr (10, [.ref 4, .int k', .int u', .ref 1, .int p']), .inr (9, [.int (z_bi b), .ref 2, .ref 3, .ref 4, .int (nI (sp_rt r n c2 [] T).2.2.length)]), z_ia 20 f', z_ia 20 g, .inr (11, [.ref 5]), z_ia 7 (sp_rt r n c [] T).2.1]) := by
  rw [(sp_rtc T [] r n c2 c).1, (sp_rtc T [] r n c2 c).2]
  exact c_X8_changeEach_X5_e hl k u b f g c M T r n ht hM hr2n hr3n hn
theorem c_X8_hearOut_X3_c (hl : l.stackTraces = false) (c2 : Nat → Int32) (k u t b a : Int32) (c : Nat → Int32) (j : Nat) (h : sp_H) (ef : Nat → Int32) (hav : z_vl a) (htv : z_vl t) (hbv : 1 ≤ b ∧ b ≤ 99) (h40 : z_mny a t b ≤ 40) (hm40 : (z_mny a t b).toNatClampNeg ≤ 40) (hj : j ≤ (z_mny a t b).toNatClampNeg) (he : z_row 10 (nI h.2.length) ef h.2) : z_CF G l mX8_hearOut 15 0 0 [.inr (8, [.ref 1, .int k, .int u, .int t, .int b, .int (a + nI j * b)]), .inr (11, [.ref 2]), z_ia 7 c, .inr (5, [.ref 4, .int (nI h.2.length), .int h.1.2.1, .int h.1.2.2.1, .int h.1.2.2.2, .int h.1.1]), z_ia 10 ef] [.ref 0, .ref 3] (fun v L => v = some (.int (((sp_ho c2 h 0 (sp_spn a b j ((z_mny a t b).toNatClampNeg - j))).1.map nI).getD (-1001))) ∧ ∃ (u' : Int32) (a' : Int32) (ef' : Nat → Int32), z_row 10 (nI (sp_ho c2 h 0 (sp_spn a b j ((z_mny a t b).toNatClampNeg - j))).2.2.2.length) ef' (sp_ho c2 h 0 (sp_spn a b j ((z_mny a t b).toNatClampNeg - j))).2.2.2 ∧ L = [.inr (8, [.ref 1, .int k, .int u', .int t, .int b, .int a']), .inr (11, [.ref 2]), z_ia 7 (sp_ho c h 0 (sp_spn a b j ((z_mny a t b).toNatClampNeg - j))).2.1, .inr (5, [.ref 4, .int (nI (sp_ho c2 h 0 (sp_spn a b j ((z_mny a t b).toNatClampNeg - j))).2.2.2.length), .int (sp_ho c2 h 0 (sp_spn a b j ((z_mny a t b).toNatClampNeg - j))).2.2.1.2.1, .int (sp_ho c2 h 0 (sp_spn a b j ((z_mny a t b).toNatClampNeg - j))).2.2.1.2.2.1, .int (sp_ho c2 h 0 (sp_spn a b j ((z_mny a t b).toNatClampNeg - j))).2.2.1.2.2.2, .int (sp_ho c2 h 0 (sp_spn a b j ((z_mny a t b).toNatClampNeg - j))).2.2.1.1]), z_ia 10 ef']) := by
  rw [(sp_hoc (sp_spn a b j ((z_mny a t b).toNatClampNeg - j)) c2 c h 0).1, (sp_hoc (sp_spn a b j ((z_mny a t b).toNatClampNeg - j)) c2 c h 0).2]
  exact c_X8_hearOut_X3_e hl k u t b a c j h ef hav htv hbv h40 hm40 hj he
set_option maxRecDepth 100000 in
set_option maxHeartbeats 8000000 in
theorem c_X8_put_p (hl : l.stackTraces = false) (S : sp_S) (fa : Nat → Int32) (fb : Nat → Int32) (mt : Int32) (ft : Nat → Int32) (ct : Nat → Int32) (f0 : Nat → Int32) (g0 : Nat → Int32) (f1 : Nat → Int32) (g1 : Nat → Int32) (c1 : Nat → Int32) (f2 : Nat → Int32) (g2 : Nat → Int32) (c2 : Nat → Int32) (f3 : Nat → Int32) (g3 : Nat → Int32) (c3 : Nat → Int32) (m3 : Int32) (f4 : Nat → Int32) (g4 : Nat → Int32) (c4 : Nat → Int32) (m4 : Int32) (f5 : Nat → Int32) (g5 : Nat → Int32) (c5 : Nat → Int32) (m5 : Int32) (ef0 : Nat → Int32) (ef1 : Nat → Int32) (t : Int32) (k : Int32) (y : Int32) (ok : sp_ok S) (hra : z_row 12 (nI (sp_R S 0).length) fa (sp_R S 0)) (hrb : z_row 12 (nI (sp_R S 1).length) fb (sp_R S 1)) (ht0 : z_tba f0 g0 (sp_T S 0)) (ht1 : z_tba f1 g1 (sp_T S 1)) (ht2 : z_tba f2 g2 (sp_T S 2)) (he0 : z_row 10 (nI (sp_E S 0).2.length) ef0 (sp_E S 0).2) (he1 : z_row 10 (nI (sp_E S 1).2.length) ef1 (sp_E S 1).2) (hzm3 : z_m20 m3) (hzm4 : z_m20 m4) (hzm5 : z_m20 m5) : z_CX G l mX8_put 20 14 120 (z_cw S.1.1 S.1.2 (nI (sp_R S 0).length) (sp_F S 0) fa (sp_C S 0) (nI (sp_R S 1).length) (sp_F S 1) fb (sp_C S 1) mt false ft ct f0 g0 (sp_C S 2) (nI (sp_T S 0).length) 0 f1 g1 c1 (nI (sp_T S 1).length) 0 f2 g2 c2 (nI (sp_T S 2).length) 1 f3 g3 c3 m3 0 f4 g4 c4 m4 0 f5 g5 c5 m5 1 (nI (sp_E S 0).2.length) (sp_E S 0).1.2.1 (sp_E S 0).1.2.2.1 (sp_E S 0).1.2.2.2 (sp_E S 0).1.1 ef0 (nI (sp_E S 1).2.length) (sp_E S 1).1.2.1 (sp_E S 1).1.2.2.1 (sp_E S 1).1.2.2.2 (sp_E S 1).1.1 ef1 []) [.ref 0, .int t, .int k, .int y] (fun v L => sp_k32 t (sp_bk k ∨ sp_bv y) = 0 ∧ v = some (.int ((sp_put (sp_srt (sp_i t)) (sp_T S (sp_i t)) (sp_C S 2) (sp_i k) y).1.getD (-9))) ∧ sp_CW (sp_tb S (sp_i t) (sp_put (sp_srt (sp_i t)) (sp_T S (sp_i t)) (sp_C S 2) (sp_i k) y)) L) (fun E L => ((z_xI E ∧ sp_k32 t (sp_bk k ∨ sp_bv y) = 1) ∨ (z_xA E ∧ sp_k32 t (sp_bk k ∨ sp_bv y) = 2)) ∧ L = (z_cw S.1.1 S.1.2 (nI (sp_R S 0).length) (sp_F S 0) fa (sp_C S 0) (nI (sp_R S 1).length) (sp_F S 1) fb (sp_C S 1) mt false ft ct f0 g0 (sp_C S 2) (nI (sp_T S 0).length) 0 f1 g1 c1 (nI (sp_T S 1).length) 0 f2 g2 c2 (nI (sp_T S 2).length) 1 f3 g3 c3 m3 0 f4 g4 c4 m4 0 f5 g5 c5 m5 1 (nI (sp_E S 0).2.length) (sp_E S 0).1.2.1 (sp_E S 0).1.2.2.1 (sp_E S 0).1.2.2.2 (sp_E S 0).1.1 ef0 (nI (sp_E S 1).2.length) (sp_E S 1).1.2.1 (sp_E S 1).1.2.2.1 (sp_E S 1).1.2.2.2 (sp_E S 1).1.1 ef1 [])) := by
  refine z_body hl (by decide) rfl (Nat.le_of_ble_eq_true rfl) ?_
  show z_J G l mX8_put (z_SX 20 14 120 (z_cw S.1.1 S.1.2 (nI (sp_R S 0).length) (sp_F S 0) fa (sp_C S 0) (nI (sp_R S 1).length) (sp_F S 1) fb (sp_C S 1) mt false ft ct f0 g0 (sp_C S 2) (nI (sp_T S 0).length) 0 f1 g1 c1 (nI (sp_T S 1).length) 0 f2 g2 c2 (nI (sp_T S 2).length) 1 f3 g3 c3 m3 0 f4 g4 c4 m4 0 f5 g5 c5 m5 1 (nI (sp_E S 0).2.length) (sp_E S 0).1.2.1 (sp_E S 0).1.2.2.1 (sp_E S 0).1.2.2.2 (sp_E S 0).1.1 ef0 (nI (sp_E S 1).2.length) (sp_E S 1).1.2.1 (sp_E S 1).1.2.2.1 (sp_E S 1).1.2.2.2 (sp_E S 1).1.1 ef1 []) (fun v L => sp_k32 t (sp_bk k ∨ sp_bv y) = 0 ∧ v = some (.int ((sp_put (sp_srt (sp_i t)) (sp_T S (sp_i t)) (sp_C S 2) (sp_i k) y).1.getD (-9))) ∧ sp_CW (sp_tb S (sp_i t) (sp_put (sp_srt (sp_i t)) (sp_T S (sp_i t)) (sp_C S 2) (sp_i k) y)) L) (fun E L => ((z_xI E ∧ sp_k32 t (sp_bk k ∨ sp_bv y) = 1) ∨ (z_xA E ∧ sp_k32 t (sp_bk k ∨ sp_bv y) = 2)) ∧ L = (z_cw S.1.1 S.1.2 (nI (sp_R S 0).length) (sp_F S 0) fa (sp_C S 0) (nI (sp_R S 1).length) (sp_F S 1) fb (sp_C S 1) mt false ft ct f0 g0 (sp_C S 2) (nI (sp_T S 0).length) 0 f1 g1 c1 (nI (sp_T S 1).length) 0 f2 g2 c2 (nI (sp_T S 2).length) 1 f3 g3 c3 m3 0 f4 g4 c4 m4 0 f5 g5 c5 m5 1 (nI (sp_E S 0).2.length) (sp_E S 0).1.2.1 (sp_E S 0).1.2.2.1 (sp_E S 0).1.2.2.2 (sp_E S 0).1.1 ef0 (nI (sp_E S 1).2.length) (sp_E S 1).1.2.1 (sp_E S 1).1.2.2.1 (sp_E S 1).1.2.2.2 (sp_E S 1).1.1 ef1 []))) 0 [(0, _), (1, _), (2, _), (3, _)] [] _ 0 0
  refine j_aload_n dX8_put_0 rfl rfl ?_
  refine j_iload_n dX8_put_1 rfl ?_
  refine j_iload_n dX8_put_2 rfl ?_
  refine j_callV (q := (RX8, TX8, 9)) dX8_put_3 kX8_tableFor_ lX8_126 inX8_tableFor_ seX8_tableFor_ rfl rfl (z_dirX (c_X8_tableFor__e hl _ _ _ _ _ _ _ _ _ _ _ _ _ _ _ _ _ _ _ _ _ _ _ _ _ _ _ _ _ _ _ _ _ _ _ _ _ _ _ _ _ _ _ _ _ _ _ _ _ _ _ _ _ _ _ _ _ _)) (Nat.le_of_ble_eq_true rfl) ⟨(Nat.le_of_ble_eq_true rfl), (Nat.le_of_ble_eq_true rfl)⟩ rfl (Nat.le_of_ble_eq_true rfl) rfl rfl (fun _ _ h => by obtain ⟨_, ⟨h1, rfl⟩, rfl⟩ := h; exact ⟨rfl, rfl, h1.elim (fun z => Or.inl ⟨z.1, sp_k32_1 z.2⟩) (fun z => Or.inr ⟨z.1, sp_k32_2 z.2.1 (Or.inl (z.2.2))⟩), rfl⟩) ?_
  rintro _ _ ⟨_, ⟨_, rfl, hr, hk3, rfl⟩, rfl⟩
  have hk0 := hk3
  obtain ⟨q, hq, rfl⟩ := sp_nt (m := 19) rfl (by decide) hk0
  rcases hr with ⟨e_3, rfl⟩ | ⟨e_3, rfl⟩ | ⟨e_3, rfl⟩
  · subst e_3
    refine j_astore (lo' := [(4, _), (0, _), (1, _), (2, _), (3, _)]) dX8_put_6 rfl (by decide) rfl ?_
    refine j_iload_n dX8_put_8 rfl ?_
    refine j_callS dX8_put_9 kX8_checkValue lX8_50 stX8_checkValue (c_X8_checkValue_e hl _ _) (Nat.le_of_ble_eq_true rfl) ⟨(Nat.le_of_ble_eq_true rfl), (Nat.le_of_ble_eq_true rfl)⟩ rfl (Nat.le_of_ble_eq_true rfl) rfl rfl (fun _ _ h => by obtain ⟨h1, rfl⟩ := h; exact ⟨rfl, rfl, Or.inr ⟨h1.1, sp_k32_2 (Or.inl rfl) (Or.inr h1.2)⟩, rfl⟩) ?_
    rintro _ _ ⟨⟨rfl, hc9⟩, rfl⟩
    refine j_aload dX8_put_12 rfl rfl ?_
    refine j_iload_n dX8_put_14 rfl ?_
    refine j_iload_n dX8_put_15 rfl ?_
    refine j_callV (q := (RX4, TX4, 5)) dX8_put_16 kX4_store lX8_130 inX4_store seX4_store rfl rfl (z_frame [10, 11, 12, 13, 14] rfl (by decide) (Nat.le_of_ble_eq_true rfl) (c_X4_store_e hl false _ _ _ (sp_T S 0) q y ht0 (by omega) (sp_vl hc9))) (Nat.le_of_ble_eq_true rfl) ⟨(Nat.le_of_ble_eq_true rfl), (Nat.le_of_ble_eq_true rfl)⟩ rfl (Nat.le_of_ble_eq_true rfl) rfl rfl (fun _ _ h => h.elim) ?_
    rintro _ _ ⟨_, _, ⟨rfl, f9, g9, ht9, rfl⟩, rfl, rfl⟩
    refine j_ws (L' := z_cw _ _ _ _ _ _ _ _ _ _ _ _ _ _ _ _ _ _ _ _ _ _ _ _ _ _ _ _ _ _ _ _ _ _ _ _ _ _ _ _ _ _ _ _ _ _ _ _ _ _ _ _ _ _ _ _ []) (by decide) rfl rfl ?_
    refine j_iret dX8_put_19 rfl rfl ?_ (Nat.le_of_ble_eq_true rfl) (Nat.le_of_ble_eq_true rfl)
    refine ⟨rfl, (by first | exact z_cwl | rfl), ?_⟩
    rw [sp_i0, sp_in' (n := q) (by omega)]
    exact ⟨sp_k32_0 (Or.inl rfl) (fun z => z.elim hk0 hc9), rfl, (sp_CWe hra hrb ht9 ht1 ht2 he0 he1 hzm3 hzm4 hzm5 rfl)⟩
  · subst e_3
    refine j_astore (lo' := [(4, _), (0, _), (1, _), (2, _), (3, _)]) dX8_put_6 rfl (by decide) rfl ?_
    refine j_iload_n dX8_put_8 rfl ?_
    refine j_callS dX8_put_9 kX8_checkValue lX8_50 stX8_checkValue (c_X8_checkValue_e hl _ _) (Nat.le_of_ble_eq_true rfl) ⟨(Nat.le_of_ble_eq_true rfl), (Nat.le_of_ble_eq_true rfl)⟩ rfl (Nat.le_of_ble_eq_true rfl) rfl rfl (fun _ _ h => by obtain ⟨h1, rfl⟩ := h; exact ⟨rfl, rfl, Or.inr ⟨h1.1, sp_k32_2 (Or.inr (Or.inl rfl)) (Or.inr h1.2)⟩, rfl⟩) ?_
    rintro _ _ ⟨⟨rfl, hc9⟩, rfl⟩
    refine j_aload dX8_put_12 rfl rfl ?_
    refine j_iload_n dX8_put_14 rfl ?_
    refine j_iload_n dX8_put_15 rfl ?_
    refine j_callV (q := (RX4, TX4, 5)) dX8_put_16 kX4_store lX8_130 inX4_store seX4_store rfl rfl (z_frame [16, 17, 18, 19, 20] rfl (by decide) (Nat.le_of_ble_eq_true rfl) (c_X4_store_e hl false _ _ _ (sp_T S 1) q y ht1 (by omega) (sp_vl hc9))) (Nat.le_of_ble_eq_true rfl) ⟨(Nat.le_of_ble_eq_true rfl), (Nat.le_of_ble_eq_true rfl)⟩ rfl (Nat.le_of_ble_eq_true rfl) rfl rfl (fun _ _ h => h.elim) ?_
    rintro _ _ ⟨_, _, ⟨rfl, f9, g9, ht9, rfl⟩, rfl, rfl⟩
    refine j_ws (L' := z_cw _ _ _ _ _ _ _ _ _ _ _ _ _ _ _ _ _ _ _ _ _ _ _ _ _ _ _ _ _ _ _ _ _ _ _ _ _ _ _ _ _ _ _ _ _ _ _ _ _ _ _ _ _ _ _ _ []) (by decide) rfl rfl ?_
    refine j_iret dX8_put_19 rfl rfl ?_ (Nat.le_of_ble_eq_true rfl) (Nat.le_of_ble_eq_true rfl)
    refine ⟨rfl, (by first | exact z_cwl | rfl), ?_⟩
    rw [sp_i1, sp_in' (n := q) (by omega)]
    exact ⟨sp_k32_0 (Or.inr (Or.inl rfl)) (fun z => z.elim hk0 hc9), rfl, (sp_CWe hra hrb ht0 ht9 ht2 he0 he1 hzm3 hzm4 hzm5 rfl)⟩
  · subst e_3
    refine j_astore (lo' := [(4, _), (0, _), (1, _), (2, _), (3, _)]) dX8_put_6 rfl (by decide) rfl ?_
    refine j_iload_n dX8_put_8 rfl ?_
    refine j_callS dX8_put_9 kX8_checkValue lX8_50 stX8_checkValue (c_X8_checkValue_e hl _ _) (Nat.le_of_ble_eq_true rfl) ⟨(Nat.le_of_ble_eq_true rfl), (Nat.le_of_ble_eq_true rfl)⟩ rfl (Nat.le_of_ble_eq_true rfl) rfl rfl (fun _ _ h => by obtain ⟨h1, rfl⟩ := h; exact ⟨rfl, rfl, Or.inr ⟨h1.1, sp_k32_2 (Or.inr (Or.inr rfl)) (Or.inr h1.2)⟩, rfl⟩) ?_
    rintro _ _ ⟨⟨rfl, hc9⟩, rfl⟩
    refine j_aload dX8_put_12 rfl rfl ?_
    refine j_iload_n dX8_put_14 rfl ?_
    refine j_iload_n dX8_put_15 rfl ?_
    refine j_callV (q := (RX4, TX4, 5)) dX8_put_16 kX4_store lX8_130 inX4_store seX4_store rfl rfl (z_frame [21, 22, 23, 24, 25] rfl (by decide) (Nat.le_of_ble_eq_true rfl) (c_X4_store_e hl true _ _ _ (sp_T S 2) q y ht2 (by omega) (sp_vl hc9))) (Nat.le_of_ble_eq_true rfl) ⟨(Nat.le_of_ble_eq_true rfl), (Nat.le_of_ble_eq_true rfl)⟩ rfl (Nat.le_of_ble_eq_true rfl) rfl rfl (fun _ _ h => h.elim) ?_
    rintro _ _ ⟨_, _, ⟨rfl, f9, g9, ht9, rfl⟩, rfl, rfl⟩
    refine j_ws (L' := z_cw _ _ _ _ _ _ _ _ _ _ _ _ _ _ _ _ _ _ _ _ _ _ _ _ _ _ _ _ _ _ _ _ _ _ _ _ _ _ _ _ _ _ _ _ _ _ _ _ _ _ _ _ _ _ _ _ []) (by decide) rfl rfl ?_
    refine j_iret dX8_put_19 rfl rfl ?_ (Nat.le_of_ble_eq_true rfl) (Nat.le_of_ble_eq_true rfl)
    refine ⟨rfl, (by first | exact z_cwl | rfl), ?_⟩
    rw [sp_i2, sp_in' (n := q) (by omega)]
    exact ⟨sp_k32_0 (Or.inr (Or.inr rfl)) (fun z => z.elim hk0 hc9), rfl, (sp_CWe hra hrb ht0 ht1 ht9 he0 he1 hzm3 hzm4 hzm5 rfl)⟩
set_option maxRecDepth 100000 in
set_option maxHeartbeats 8000000 in
theorem c_X8_remove_p (hl : l.stackTraces = false) (S : sp_S) (fa : Nat → Int32) (fb : Nat → Int32) (mt : Int32) (ft : Nat → Int32) (ct : Nat → Int32) (f0 : Nat → Int32) (g0 : Nat → Int32) (f1 : Nat → Int32) (g1 : Nat → Int32) (c1 : Nat → Int32) (f2 : Nat → Int32) (g2 : Nat → Int32) (c2 : Nat → Int32) (f3 : Nat → Int32) (g3 : Nat → Int32) (c3 : Nat → Int32) (m3 : Int32) (f4 : Nat → Int32) (g4 : Nat → Int32) (c4 : Nat → Int32) (m4 : Int32) (f5 : Nat → Int32) (g5 : Nat → Int32) (c5 : Nat → Int32) (m5 : Int32) (ef0 : Nat → Int32) (ef1 : Nat → Int32) (t : Int32) (k : Int32) (ok : sp_ok S) (hra : z_row 12 (nI (sp_R S 0).length) fa (sp_R S 0)) (hrb : z_row 12 (nI (sp_R S 1).length) fb (sp_R S 1)) (ht0 : z_tba f0 g0 (sp_T S 0)) (ht1 : z_tba f1 g1 (sp_T S 1)) (ht2 : z_tba f2 g2 (sp_T S 2)) (he0 : z_row 10 (nI (sp_E S 0).2.length) ef0 (sp_E S 0).2) (he1 : z_row 10 (nI (sp_E S 1).2.length) ef1 (sp_E S 1).2) (hzm3 : z_m20 m3) (hzm4 : z_m20 m4) (hzm5 : z_m20 m5) : z_CX G l mX8_remove 20 14 120 (z_cw S.1.1 S.1.2 (nI (sp_R S 0).length) (sp_F S 0) fa (sp_C S 0) (nI (sp_R S 1).length) (sp_F S 1) fb (sp_C S 1) mt false ft ct f0 g0 (sp_C S 2) (nI (sp_T S 0).length) 0 f1 g1 c1 (nI (sp_T S 1).length) 0 f2 g2 c2 (nI (sp_T S 2).length) 1 f3 g3 c3 m3 0 f4 g4 c4 m4 0 f5 g5 c5 m5 1 (nI (sp_E S 0).2.length) (sp_E S 0).1.2.1 (sp_E S 0).1.2.2.1 (sp_E S 0).1.2.2.2 (sp_E S 0).1.1 ef0 (nI (sp_E S 1).2.length) (sp_E S 1).1.2.1 (sp_E S 1).1.2.2.1 (sp_E S 1).1.2.2.2 (sp_E S 1).1.1 ef1 []) [.ref 0, .int t, .int k] (fun v L => sp_k32 t (sp_bk k) = 0 ∧ v = some (.int ((sp_del (sp_T S (sp_i t)) (sp_C S 2) (sp_i k)).1.getD (-9))) ∧ sp_CW (sp_tb S (sp_i t) (sp_del (sp_T S (sp_i t)) (sp_C S 2) (sp_i k))) L) (fun E L => ((z_xI E ∧ sp_k32 t (sp_bk k) = 1) ∨ (z_xA E ∧ sp_k32 t (sp_bk k) = 2)) ∧ L = (z_cw S.1.1 S.1.2 (nI (sp_R S 0).length) (sp_F S 0) fa (sp_C S 0) (nI (sp_R S 1).length) (sp_F S 1) fb (sp_C S 1) mt false ft ct f0 g0 (sp_C S 2) (nI (sp_T S 0).length) 0 f1 g1 c1 (nI (sp_T S 1).length) 0 f2 g2 c2 (nI (sp_T S 2).length) 1 f3 g3 c3 m3 0 f4 g4 c4 m4 0 f5 g5 c5 m5 1 (nI (sp_E S 0).2.length) (sp_E S 0).1.2.1 (sp_E S 0).1.2.2.1 (sp_E S 0).1.2.2.2 (sp_E S 0).1.1 ef0 (nI (sp_E S 1).2.length) (sp_E S 1).1.2.1 (sp_E S 1).1.2.2.1 (sp_E S 1).1.2.2.2 (sp_E S 1).1.1 ef1 [])) := by
  refine z_body hl (by decide) rfl (Nat.le_of_ble_eq_true rfl) ?_
  show z_J G l mX8_remove (z_SX 20 14 120 (z_cw S.1.1 S.1.2 (nI (sp_R S 0).length) (sp_F S 0) fa (sp_C S 0) (nI (sp_R S 1).length) (sp_F S 1) fb (sp_C S 1) mt false ft ct f0 g0 (sp_C S 2) (nI (sp_T S 0).length) 0 f1 g1 c1 (nI (sp_T S 1).length) 0 f2 g2 c2 (nI (sp_T S 2).length) 1 f3 g3 c3 m3 0 f4 g4 c4 m4 0 f5 g5 c5 m5 1 (nI (sp_E S 0).2.length) (sp_E S 0).1.2.1 (sp_E S 0).1.2.2.1 (sp_E S 0).1.2.2.2 (sp_E S 0).1.1 ef0 (nI (sp_E S 1).2.length) (sp_E S 1).1.2.1 (sp_E S 1).1.2.2.1 (sp_E S 1).1.2.2.2 (sp_E S 1).1.1 ef1 []) (fun v L => sp_k32 t (sp_bk k) = 0 ∧ v = some (.int ((sp_del (sp_T S (sp_i t)) (sp_C S 2) (sp_i k)).1.getD (-9))) ∧ sp_CW (sp_tb S (sp_i t) (sp_del (sp_T S (sp_i t)) (sp_C S 2) (sp_i k))) L) (fun E L => ((z_xI E ∧ sp_k32 t (sp_bk k) = 1) ∨ (z_xA E ∧ sp_k32 t (sp_bk k) = 2)) ∧ L = (z_cw S.1.1 S.1.2 (nI (sp_R S 0).length) (sp_F S 0) fa (sp_C S 0) (nI (sp_R S 1).length) (sp_F S 1) fb (sp_C S 1) mt false ft ct f0 g0 (sp_C S 2) (nI (sp_T S 0).length) 0 f1 g1 c1 (nI (sp_T S 1).length) 0 f2 g2 c2 (nI (sp_T S 2).length) 1 f3 g3 c3 m3 0 f4 g4 c4 m4 0 f5 g5 c5 m5 1 (nI (sp_E S 0).2.length) (sp_E S 0).1.2.1 (sp_E S 0).1.2.2.1 (sp_E S 0).1.2.2.2 (sp_E S 0).1.1 ef0 (nI (sp_E S 1).2.length) (sp_E S 1).1.2.1 (sp_E S 1).1.2.2.1 (sp_E S 1).1.2.2.2 (sp_E S 1).1.1 ef1 []))) 0 [(0, _), (1, _), (2, _)] [] _ 0 0
  refine j_aload_n dX8_remove_0 rfl rfl ?_
  refine j_iload_n dX8_remove_1 rfl ?_
  refine j_iload_n dX8_remove_2 rfl ?_
  refine j_callV (q := (RX8, TX8, 9)) dX8_remove_3 kX8_tableFor_ lX8_126 inX8_tableFor_ seX8_tableFor_ rfl rfl (z_dirX (c_X8_tableFor__e hl _ _ _ _ _ _ _ _ _ _ _ _ _ _ _ _ _ _ _ _ _ _ _ _ _ _ _ _ _ _ _ _ _ _ _ _ _ _ _ _ _ _ _ _ _ _ _ _ _ _ _ _ _ _ _ _ _ _)) (Nat.le_of_ble_eq_true rfl) ⟨(Nat.le_of_ble_eq_true rfl), (Nat.le_of_ble_eq_true rfl)⟩ rfl (Nat.le_of_ble_eq_true rfl) rfl rfl (fun _ _ h => by obtain ⟨_, ⟨h1, rfl⟩, rfl⟩ := h; exact ⟨rfl, rfl, h1.elim (fun z => Or.inl ⟨z.1, sp_k32_1 z.2⟩) (fun z => Or.inr ⟨z.1, sp_k32_2 z.2.1 (z.2.2)⟩), rfl⟩) ?_
  rintro _ _ ⟨_, ⟨_, rfl, hr, hk3, rfl⟩, rfl⟩
  have hk0 := hk3
  obtain ⟨q, hq, rfl⟩ := sp_nt (m := 19) rfl (by decide) hk0
  rcases hr with ⟨e_3, rfl⟩ | ⟨e_3, rfl⟩ | ⟨e_3, rfl⟩
  · subst e_3
    refine j_iload_n dX8_remove_6 rfl ?_
    refine j_callV (q := (RX4, TX4, 5)) dX8_remove_7 kX4_sendAway lX8_134 inX4_sendAway seX4_sendAway rfl rfl (z_frame [10, 11, 12, 13, 14] rfl (by decide) (Nat.le_of_ble_eq_true rfl) (c_X4_sendAway_e hl false _ _ _ (sp_T S 0) q ht0 (by omega))) (Nat.le_of_ble_eq_true rfl) ⟨(Nat.le_of_ble_eq_true rfl), (Nat.le_of_ble_eq_true rfl)⟩ rfl (Nat.le_of_ble_eq_true rfl) rfl rfl (fun _ _ h => h.elim) ?_
    rintro _ _ ⟨_, _, ⟨rfl, f9, g9, ht9, rfl⟩, rfl, rfl⟩
    refine j_ws (L' := z_cw _ _ _ _ _ _ _ _ _ _ _ _ _ _ _ _ _ _ _ _ _ _ _ _ _ _ _ _ _ _ _ _ _ _ _ _ _ _ _ _ _ _ _ _ _ _ _ _ _ _ _ _ _ _ _ _ []) (by decide) rfl rfl ?_
    refine j_iret dX8_remove_10 rfl rfl ?_ (Nat.le_of_ble_eq_true rfl) (Nat.le_of_ble_eq_true rfl)
    refine ⟨rfl, (by first | exact z_cwl | rfl), ?_⟩
    rw [sp_i0, sp_in' (n := q) (by omega)]
    exact ⟨sp_k32_0 (Or.inl rfl) hk0, rfl, (sp_CWe hra hrb ht9 ht1 ht2 he0 he1 hzm3 hzm4 hzm5 rfl)⟩
  · subst e_3
    refine j_iload_n dX8_remove_6 rfl ?_
    refine j_callV (q := (RX4, TX4, 5)) dX8_remove_7 kX4_sendAway lX8_134 inX4_sendAway seX4_sendAway rfl rfl (z_frame [16, 17, 18, 19, 20] rfl (by decide) (Nat.le_of_ble_eq_true rfl) (c_X4_sendAway_e hl false _ _ _ (sp_T S 1) q ht1 (by omega))) (Nat.le_of_ble_eq_true rfl) ⟨(Nat.le_of_ble_eq_true rfl), (Nat.le_of_ble_eq_true rfl)⟩ rfl (Nat.le_of_ble_eq_true rfl) rfl rfl (fun _ _ h => h.elim) ?_
    rintro _ _ ⟨_, _, ⟨rfl, f9, g9, ht9, rfl⟩, rfl, rfl⟩
    refine j_ws (L' := z_cw _ _ _ _ _ _ _ _ _ _ _ _ _ _ _ _ _ _ _ _ _ _ _ _ _ _ _ _ _ _ _ _ _ _ _ _ _ _ _ _ _ _ _ _ _ _ _ _ _ _ _ _ _ _ _ _ []) (by decide) rfl rfl ?_
    refine j_iret dX8_remove_10 rfl rfl ?_ (Nat.le_of_ble_eq_true rfl) (Nat.le_of_ble_eq_true rfl)
    refine ⟨rfl, (by first | exact z_cwl | rfl), ?_⟩
    rw [sp_i1, sp_in' (n := q) (by omega)]
    exact ⟨sp_k32_0 (Or.inr (Or.inl rfl)) hk0, rfl, (sp_CWe hra hrb ht0 ht9 ht2 he0 he1 hzm3 hzm4 hzm5 rfl)⟩
  · subst e_3
    refine j_iload_n dX8_remove_6 rfl ?_
    refine j_callV (q := (RX4, TX4, 5)) dX8_remove_7 kX4_sendAway lX8_134 inX4_sendAway seX4_sendAway rfl rfl (z_frame [21, 22, 23, 24, 25] rfl (by decide) (Nat.le_of_ble_eq_true rfl) (c_X4_sendAway_e hl true _ _ _ (sp_T S 2) q ht2 (by omega))) (Nat.le_of_ble_eq_true rfl) ⟨(Nat.le_of_ble_eq_true rfl), (Nat.le_of_ble_eq_true rfl)⟩ rfl (Nat.le_of_ble_eq_true rfl) rfl rfl (fun _ _ h => h.elim) ?_
    rintro _ _ ⟨_, _, ⟨rfl, f9, g9, ht9, rfl⟩, rfl, rfl⟩
    refine j_ws (L' := z_cw _ _ _ _ _ _ _ _ _ _ _ _ _ _ _ _ _ _ _ _ _ _ _ _ _ _ _ _ _ _ _ _ _ _ _ _ _ _ _ _ _ _ _ _ _ _ _ _ _ _ _ _ _ _ _ _ []) (by decide) rfl rfl ?_
    refine j_iret dX8_remove_10 rfl rfl ?_ (Nat.le_of_ble_eq_true rfl) (Nat.le_of_ble_eq_true rfl)
    refine ⟨rfl, (by first | exact z_cwl | rfl), ?_⟩
    rw [sp_i2, sp_in' (n := q) (by omega)]
    exact ⟨sp_k32_0 (Or.inr (Or.inr rfl)) hk0, rfl, (sp_CWe hra hrb ht0 ht1 ht9 he0 he1 hzm3 hzm4 hzm5 rfl)⟩
set_option maxRecDepth 100000 in
set_option maxHeartbeats 8000000 in
theorem c_X8_putIfAbsent_p (hl : l.stackTraces = false) (S : sp_S) (fa : Nat → Int32) (fb : Nat → Int32) (mt : Int32) (ft : Nat → Int32) (ct : Nat → Int32) (f0 : Nat → Int32) (g0 : Nat → Int32) (f1 : Nat → Int32) (g1 : Nat → Int32) (c1 : Nat → Int32) (f2 : Nat → Int32) (g2 : Nat → Int32) (c2 : Nat → Int32) (f3 : Nat → Int32) (g3 : Nat → Int32) (c3 : Nat → Int32) (m3 : Int32) (f4 : Nat → Int32) (g4 : Nat → Int32) (c4 : Nat → Int32) (m4 : Int32) (f5 : Nat → Int32) (g5 : Nat → Int32) (c5 : Nat → Int32) (m5 : Int32) (ef0 : Nat → Int32) (ef1 : Nat → Int32) (t : Int32) (k : Int32) (y : Int32) (ok : sp_ok S) (hra : z_row 12 (nI (sp_R S 0).length) fa (sp_R S 0)) (hrb : z_row 12 (nI (sp_R S 1).length) fb (sp_R S 1)) (ht0 : z_tba f0 g0 (sp_T S 0)) (ht1 : z_tba f1 g1 (sp_T S 1)) (ht2 : z_tba f2 g2 (sp_T S 2)) (he0 : z_row 10 (nI (sp_E S 0).2.length) ef0 (sp_E S 0).2) (he1 : z_row 10 (nI (sp_E S 1).2.length) ef1 (sp_E S 1).2) (hzm3 : z_m20 m3) (hzm4 : z_m20 m4) (hzm5 : z_m20 m5) : z_CX G l mX8_putIfAbsent 20 14 120 (z_cw S.1.1 S.1.2 (nI (sp_R S 0).length) (sp_F S 0) fa (sp_C S 0) (nI (sp_R S 1).length) (sp_F S 1) fb (sp_C S 1) mt false ft ct f0 g0 (sp_C S 2) (nI (sp_T S 0).length) 0 f1 g1 c1 (nI (sp_T S 1).length) 0 f2 g2 c2 (nI (sp_T S 2).length) 1 f3 g3 c3 m3 0 f4 g4 c4 m4 0 f5 g5 c5 m5 1 (nI (sp_E S 0).2.length) (sp_E S 0).1.2.1 (sp_E S 0).1.2.2.1 (sp_E S 0).1.2.2.2 (sp_E S 0).1.1 ef0 (nI (sp_E S 1).2.length) (sp_E S 1).1.2.1 (sp_E S 1).1.2.2.1 (sp_E S 1).1.2.2.2 (sp_E S 1).1.1 ef1 []) [.ref 0, .int t, .int k, .int y] (fun v L => sp_k32 t (sp_bk k ∨ sp_bv y) = 0 ∧ v = some (.int ((sp_pia (sp_srt (sp_i t)) (sp_T S (sp_i t)) (sp_C S 2) (sp_i k) y).1.getD (-9))) ∧ sp_CW (sp_tb S (sp_i t) (sp_pia (sp_srt (sp_i t)) (sp_T S (sp_i t)) (sp_C S 2) (sp_i k) y)) L) (fun E L => ((z_xI E ∧ sp_k32 t (sp_bk k ∨ sp_bv y) = 1) ∨ (z_xA E ∧ sp_k32 t (sp_bk k ∨ sp_bv y) = 2)) ∧ L = (z_cw S.1.1 S.1.2 (nI (sp_R S 0).length) (sp_F S 0) fa (sp_C S 0) (nI (sp_R S 1).length) (sp_F S 1) fb (sp_C S 1) mt false ft ct f0 g0 (sp_C S 2) (nI (sp_T S 0).length) 0 f1 g1 c1 (nI (sp_T S 1).length) 0 f2 g2 c2 (nI (sp_T S 2).length) 1 f3 g3 c3 m3 0 f4 g4 c4 m4 0 f5 g5 c5 m5 1 (nI (sp_E S 0).2.length) (sp_E S 0).1.2.1 (sp_E S 0).1.2.2.1 (sp_E S 0).1.2.2.2 (sp_E S 0).1.1 ef0 (nI (sp_E S 1).2.length) (sp_E S 1).1.2.1 (sp_E S 1).1.2.2.1 (sp_E S 1).1.2.2.2 (sp_E S 1).1.1 ef1 [])) := by
  refine z_body hl (by decide) rfl (Nat.le_of_ble_eq_true rfl) ?_
  show z_J G l mX8_putIfAbsent (z_SX 20 14 120 (z_cw S.1.1 S.1.2 (nI (sp_R S 0).length) (sp_F S 0) fa (sp_C S 0) (nI (sp_R S 1).length) (sp_F S 1) fb (sp_C S 1) mt false ft ct f0 g0 (sp_C S 2) (nI (sp_T S 0).length) 0 f1 g1 c1 (nI (sp_T S 1).length) 0 f2 g2 c2 (nI (sp_T S 2).length) 1 f3 g3 c3 m3 0 f4 g4 c4 m4 0 f5 g5 c5 m5 1 (nI (sp_E S 0).2.length) (sp_E S 0).1.2.1 (sp_E S 0).1.2.2.1 (sp_E S 0).1.2.2.2 (sp_E S 0).1.1 ef0 (nI (sp_E S 1).2.length) (sp_E S 1).1.2.1 (sp_E S 1).1.2.2.1 (sp_E S 1).1.2.2.2 (sp_E S 1).1.1 ef1 []) (fun v L => sp_k32 t (sp_bk k ∨ sp_bv y) = 0 ∧ v = some (.int ((sp_pia (sp_srt (sp_i t)) (sp_T S (sp_i t)) (sp_C S 2) (sp_i k) y).1.getD (-9))) ∧ sp_CW (sp_tb S (sp_i t) (sp_pia (sp_srt (sp_i t)) (sp_T S (sp_i t)) (sp_C S 2) (sp_i k) y)) L) (fun E L => ((z_xI E ∧ sp_k32 t (sp_bk k ∨ sp_bv y) = 1) ∨ (z_xA E ∧ sp_k32 t (sp_bk k ∨ sp_bv y) = 2)) ∧ L = (z_cw S.1.1 S.1.2 (nI (sp_R S 0).length) (sp_F S 0) fa (sp_C S 0) (nI (sp_R S 1).length) (sp_F S 1) fb (sp_C S 1) mt false ft ct f0 g0 (sp_C S 2) (nI (sp_T S 0).length) 0 f1 g1 c1 (nI (sp_T S 1).length) 0 f2 g2 c2 (nI (sp_T S 2).length) 1 f3 g3 c3 m3 0 f4 g4 c4 m4 0 f5 g5 c5 m5 1 (nI (sp_E S 0).2.length) (sp_E S 0).1.2.1 (sp_E S 0).1.2.2.1 (sp_E S 0).1.2.2.2 (sp_E S 0).1.1 ef0 (nI (sp_E S 1).2.length) (sp_E S 1).1.2.1 (sp_E S 1).1.2.2.1 (sp_E S 1).1.2.2.2 (sp_E S 1).1.1 ef1 []))) 0 [(0, _), (1, _), (2, _), (3, _)] [] _ 0 0
  refine j_aload_n dX8_putIfAbsent_0 rfl rfl ?_
  refine j_iload_n dX8_putIfAbsent_1 rfl ?_
  refine j_iload_n dX8_putIfAbsent_2 rfl ?_
  refine j_callV (q := (RX8, TX8, 9)) dX8_putIfAbsent_3 kX8_tableFor_ lX8_126 inX8_tableFor_ seX8_tableFor_ rfl rfl (z_dirX (c_X8_tableFor__e hl _ _ _ _ _ _ _ _ _ _ _ _ _ _ _ _ _ _ _ _ _ _ _ _ _ _ _ _ _ _ _ _ _ _ _ _ _ _ _ _ _ _ _ _ _ _ _ _ _ _ _ _ _ _ _ _ _ _)) (Nat.le_of_ble_eq_true rfl) ⟨(Nat.le_of_ble_eq_true rfl), (Nat.le_of_ble_eq_true rfl)⟩ rfl (Nat.le_of_ble_eq_true rfl) rfl rfl (fun _ _ h => by obtain ⟨_, ⟨h1, rfl⟩, rfl⟩ := h; exact ⟨rfl, rfl, h1.elim (fun z => Or.inl ⟨z.1, sp_k32_1 z.2⟩) (fun z => Or.inr ⟨z.1, sp_k32_2 z.2.1 (Or.inl (z.2.2))⟩), rfl⟩) ?_
  rintro _ _ ⟨_, ⟨_, rfl, hr, hk3, rfl⟩, rfl⟩
  have hk0 := hk3
  obtain ⟨q, hq, rfl⟩ := sp_nt (m := 19) rfl (by decide) hk0
  rcases hr with ⟨e_3, rfl⟩ | ⟨e_3, rfl⟩ | ⟨e_3, rfl⟩
  · subst e_3
    refine j_astore (lo' := [(4, _), (0, _), (1, _), (2, _), (3, _)]) dX8_putIfAbsent_6 rfl (by decide) rfl ?_
    refine j_iload_n dX8_putIfAbsent_8 rfl ?_
    refine j_callS dX8_putIfAbsent_9 kX8_checkValue lX8_50 stX8_checkValue (c_X8_checkValue_e hl _ _) (Nat.le_of_ble_eq_true rfl) ⟨(Nat.le_of_ble_eq_true rfl), (Nat.le_of_ble_eq_true rfl)⟩ rfl (Nat.le_of_ble_eq_true rfl) rfl rfl (fun _ _ h => by obtain ⟨h1, rfl⟩ := h; exact ⟨rfl, rfl, Or.inr ⟨h1.1, sp_k32_2 (Or.inl rfl) (Or.inr h1.2)⟩, rfl⟩) ?_
    rintro _ _ ⟨⟨rfl, hc9⟩, rfl⟩
    refine j_aload dX8_putIfAbsent_12 rfl rfl ?_
    refine j_iload_n dX8_putIfAbsent_14 rfl ?_
    refine j_callV (q := (RX4, TX4, 5)) dX8_putIfAbsent_15 kX4_look lX8_137 inX4_look seX4_look rfl rfl (z_frame [10, 11, 12, 13, 14] rfl (by decide) (Nat.le_of_ble_eq_true rfl) (c_X4_look_e hl false _ _ _ _ (sp_T S 0) q ht0 (by omega))) (Nat.le_of_ble_eq_true rfl) ⟨(Nat.le_of_ble_eq_true rfl), (Nat.le_of_ble_eq_true rfl)⟩ rfl (Nat.le_of_ble_eq_true rfl) rfl rfl (fun _ _ h => h.elim) ?_
    rintro _ _ ⟨_, _, ⟨rfl, rfl⟩, rfl, rfl⟩
    refine j_ws (L' := z_cw _ _ _ _ _ _ _ _ _ _ _ _ _ _ _ _ _ _ _ _ _ _ _ _ _ _ _ _ _ _ _ _ _ _ _ _ _ _ _ _ _ _ _ _ _ _ _ _ _ _ _ _ _ _ _ _ []) (by decide) rfl rfl ?_
    refine j_istore (lo' := [(5, _), (4, _), (0, _), (1, _), (2, _), (3, _)]) dX8_putIfAbsent_18 (by decide) rfl ?_
    refine j_iload dX8_putIfAbsent_20 rfl ?_
    refine j_sipush (v := (-1000)) dX8_putIfAbsent_22 (by decide) ?_
    refine j_icmp_ne (tgt := 38) dX8_putIfAbsent_25 (by decide) (fun c_25 => ?_) (fun c_25 => ?_)
    · have e9 : sp_pia (sp_srt 0) (sp_T S 0) (sp_C S 2) q y = (some (sp_lk (sp_T S 0) q), (sp_T S 0), (sp_C S 2)) := if_neg c_25
      refine j_iload dX8_putIfAbsent_38 rfl ?_
      refine j_iret dX8_putIfAbsent_40 rfl rfl ?_ (Nat.le_of_ble_eq_true rfl) (Nat.le_of_ble_eq_true rfl)
      refine ⟨rfl, (by first | exact z_cwl | rfl), ?_⟩
      rw [sp_i0, sp_in' (n := q) (by omega)]
      rw [e9]
      exact ⟨sp_k32_0 (Or.inl rfl) (fun z => z.elim hk0 hc9), rfl, (sp_CWe hra hrb ht0 ht1 ht2 he0 he1 hzm3 hzm4 hzm5 rfl)⟩
    · have e9 : sp_pia (sp_srt 0) (sp_T S 0) (sp_C S 2) q y = (some (-1000), (sp_pt (sp_srt 0) (sp_T S 0) q y), z_bp (sp_C S 2) 5) := if_pos c_25
      refine j_aload dX8_putIfAbsent_28 rfl rfl ?_
      refine j_iload_n dX8_putIfAbsent_30 rfl ?_
      refine j_iload_n dX8_putIfAbsent_31 rfl ?_
      refine j_callV (q := (RX4, TX4, 5)) dX8_putIfAbsent_32 kX4_store lX8_130 inX4_store seX4_store rfl rfl (z_frame [10, 11, 12, 13, 14] rfl (by decide) (Nat.le_of_ble_eq_true rfl) (c_X4_store_e hl false _ _ _ (sp_T S 0) q y ht0 (by omega) (sp_vl hc9))) (Nat.le_of_ble_eq_true rfl) ⟨(Nat.le_of_ble_eq_true rfl), (Nat.le_of_ble_eq_true rfl)⟩ rfl (Nat.le_of_ble_eq_true rfl) rfl rfl (fun _ _ h => h.elim) ?_
      rintro _ _ ⟨_, _, ⟨rfl, f9, g9, ht9, rfl⟩, rfl, rfl⟩
      refine j_ws (L' := z_cw _ _ _ _ _ _ _ _ _ _ _ _ _ _ _ _ _ _ _ _ _ _ _ _ _ _ _ _ _ _ _ _ _ _ _ _ _ _ _ _ _ _ _ _ _ _ _ _ _ _ _ _ _ _ _ _ []) (by decide) rfl rfl ?_
      refine j_goto (tgt := 40) dX8_putIfAbsent_35 (by decide) ?_
      refine j_iret dX8_putIfAbsent_40 rfl rfl ?_ (Nat.le_of_ble_eq_true rfl) (Nat.le_of_ble_eq_true rfl)
      have c9 := c_25
      refine ⟨rfl, (by first | exact z_cwl | rfl), ?_⟩
      rw [sp_i0, sp_in' (n := q) (by omega)]
      rw [e9]
      exact ⟨sp_k32_0 (Or.inl rfl) (fun z => z.elim hk0 hc9), (by rw [c9]; rfl), (sp_CWe hra hrb ht9 ht1 ht2 he0 he1 hzm3 hzm4 hzm5 rfl)⟩
  · subst e_3
    refine j_astore (lo' := [(4, _), (0, _), (1, _), (2, _), (3, _)]) dX8_putIfAbsent_6 rfl (by decide) rfl ?_
    refine j_iload_n dX8_putIfAbsent_8 rfl ?_
    refine j_callS dX8_putIfAbsent_9 kX8_checkValue lX8_50 stX8_checkValue (c_X8_checkValue_e hl _ _) (Nat.le_of_ble_eq_true rfl) ⟨(Nat.le_of_ble_eq_true rfl), (Nat.le_of_ble_eq_true rfl)⟩ rfl (Nat.le_of_ble_eq_true rfl) rfl rfl (fun _ _ h => by obtain ⟨h1, rfl⟩ := h; exact ⟨rfl, rfl, Or.inr ⟨h1.1, sp_k32_2 (Or.inr (Or.inl rfl)) (Or.inr h1.2)⟩, rfl⟩) ?_
    rintro _ _ ⟨⟨rfl, hc9⟩, rfl⟩
    refine j_aload dX8_putIfAbsent_12 rfl rfl ?_
    refine j_iload_n dX8_putIfAbsent_14 rfl ?_
    refine j_callV (q := (RX4, TX4, 5)) dX8_putIfAbsent_15 kX4_look lX8_137 inX4_look seX4_look rfl rfl (z_frame [16, 17, 18, 19, 20] rfl (by decide) (Nat.le_of_ble_eq_true rfl) (c_X4_look_e hl false _ _ _ _ (sp_T S 1) q ht1 (by omega))) (Nat.le_of_ble_eq_true rfl) ⟨(Nat.le_of_ble_eq_true rfl), (Nat.le_of_ble_eq_true rfl)⟩ rfl (Nat.le_of_ble_eq_true rfl) rfl rfl (fun _ _ h => h.elim) ?_
    rintro _ _ ⟨_, _, ⟨rfl, rfl⟩, rfl, rfl⟩
    refine j_ws (L' := z_cw _ _ _ _ _ _ _ _ _ _ _ _ _ _ _ _ _ _ _ _ _ _ _ _ _ _ _ _ _ _ _ _ _ _ _ _ _ _ _ _ _ _ _ _ _ _ _ _ _ _ _ _ _ _ _ _ []) (by decide) rfl rfl ?_
    refine j_istore (lo' := [(5, _), (4, _), (0, _), (1, _), (2, _), (3, _)]) dX8_putIfAbsent_18 (by decide) rfl ?_
    refine j_iload dX8_putIfAbsent_20 rfl ?_
    refine j_sipush (v := (-1000)) dX8_putIfAbsent_22 (by decide) ?_
    refine j_icmp_ne (tgt := 38) dX8_putIfAbsent_25 (by decide) (fun c_25 => ?_) (fun c_25 => ?_)
    · have e9 : sp_pia (sp_srt 1) (sp_T S 1) (sp_C S 2) q y = (some (sp_lk (sp_T S 1) q), (sp_T S 1), (sp_C S 2)) := if_neg c_25
      refine j_iload dX8_putIfAbsent_38 rfl ?_
      refine j_iret dX8_putIfAbsent_40 rfl rfl ?_ (Nat.le_of_ble_eq_true rfl) (Nat.le_of_ble_eq_true rfl)
      refine ⟨rfl, (by first | exact z_cwl | rfl), ?_⟩
      rw [sp_i1, sp_in' (n := q) (by omega)]
      rw [e9]
      exact ⟨sp_k32_0 (Or.inr (Or.inl rfl)) (fun z => z.elim hk0 hc9), rfl, (sp_CWe hra hrb ht0 ht1 ht2 he0 he1 hzm3 hzm4 hzm5 rfl)⟩
    · have e9 : sp_pia (sp_srt 1) (sp_T S 1) (sp_C S 2) q y = (some (-1000), (sp_pt (sp_srt 1) (sp_T S 1) q y), z_bp (sp_C S 2) 5) := if_pos c_25
      refine j_aload dX8_putIfAbsent_28 rfl rfl ?_
      refine j_iload_n dX8_putIfAbsent_30 rfl ?_
      refine j_iload_n dX8_putIfAbsent_31 rfl ?_
      refine j_callV (q := (RX4, TX4, 5)) dX8_putIfAbsent_32 kX4_store lX8_130 inX4_store seX4_store rfl rfl (z_frame [16, 17, 18, 19, 20] rfl (by decide) (Nat.le_of_ble_eq_true rfl) (c_X4_store_e hl false _ _ _ (sp_T S 1) q y ht1 (by omega) (sp_vl hc9))) (Nat.le_of_ble_eq_true rfl) ⟨(Nat.le_of_ble_eq_true rfl), (Nat.le_of_ble_eq_true rfl)⟩ rfl (Nat.le_of_ble_eq_true rfl) rfl rfl (fun _ _ h => h.elim) ?_
      rintro _ _ ⟨_, _, ⟨rfl, f9, g9, ht9, rfl⟩, rfl, rfl⟩
      refine j_ws (L' := z_cw _ _ _ _ _ _ _ _ _ _ _ _ _ _ _ _ _ _ _ _ _ _ _ _ _ _ _ _ _ _ _ _ _ _ _ _ _ _ _ _ _ _ _ _ _ _ _ _ _ _ _ _ _ _ _ _ []) (by decide) rfl rfl ?_
      refine j_goto (tgt := 40) dX8_putIfAbsent_35 (by decide) ?_
      refine j_iret dX8_putIfAbsent_40 rfl rfl ?_ (Nat.le_of_ble_eq_true rfl) (Nat.le_of_ble_eq_true rfl)
      have c9 := c_25
      refine ⟨rfl, (by first | exact z_cwl | rfl), ?_⟩
      rw [sp_i1, sp_in' (n := q) (by omega)]
      rw [e9]
      exact ⟨sp_k32_0 (Or.inr (Or.inl rfl)) (fun z => z.elim hk0 hc9), (by rw [c9]; rfl), (sp_CWe hra hrb ht0 ht9 ht2 he0 he1 hzm3 hzm4 hzm5 rfl)⟩
  · subst e_3
    refine j_astore (lo' := [(4, _), (0, _), (1, _), (2, _), (3, _)]) dX8_putIfAbsent_6 rfl (by decide) rfl ?_
    refine j_iload_n dX8_putIfAbsent_8 rfl ?_
    refine j_callS dX8_putIfAbsent_9 kX8_checkValue lX8_50 stX8_checkValue (c_X8_checkValue_e hl _ _) (Nat.le_of_ble_eq_true rfl) ⟨(Nat.le_of_ble_eq_true rfl), (Nat.le_of_ble_eq_true rfl)⟩ rfl (Nat.le_of_ble_eq_true rfl) rfl rfl (fun _ _ h => by obtain ⟨h1, rfl⟩ := h; exact ⟨rfl, rfl, Or.inr ⟨h1.1, sp_k32_2 (Or.inr (Or.inr rfl)) (Or.inr h1.2)⟩, rfl⟩) ?_
    rintro _ _ ⟨⟨rfl, hc9⟩, rfl⟩
    refine j_aload dX8_putIfAbsent_12 rfl rfl ?_
    refine j_iload_n dX8_putIfAbsent_14 rfl ?_
    refine j_callV (q := (RX4, TX4, 5)) dX8_putIfAbsent_15 kX4_look lX8_137 inX4_look seX4_look rfl rfl (z_frame [21, 22, 23, 24, 25] rfl (by decide) (Nat.le_of_ble_eq_true rfl) (c_X4_look_e hl true _ _ _ _ (sp_T S 2) q ht2 (by omega))) (Nat.le_of_ble_eq_true rfl) ⟨(Nat.le_of_ble_eq_true rfl), (Nat.le_of_ble_eq_true rfl)⟩ rfl (Nat.le_of_ble_eq_true rfl) rfl rfl (fun _ _ h => h.elim) ?_
    rintro _ _ ⟨_, _, ⟨rfl, rfl⟩, rfl, rfl⟩
    refine j_ws (L' := z_cw _ _ _ _ _ _ _ _ _ _ _ _ _ _ _ _ _ _ _ _ _ _ _ _ _ _ _ _ _ _ _ _ _ _ _ _ _ _ _ _ _ _ _ _ _ _ _ _ _ _ _ _ _ _ _ _ []) (by decide) rfl rfl ?_
    refine j_istore (lo' := [(5, _), (4, _), (0, _), (1, _), (2, _), (3, _)]) dX8_putIfAbsent_18 (by decide) rfl ?_
    refine j_iload dX8_putIfAbsent_20 rfl ?_
    refine j_sipush (v := (-1000)) dX8_putIfAbsent_22 (by decide) ?_
    refine j_icmp_ne (tgt := 38) dX8_putIfAbsent_25 (by decide) (fun c_25 => ?_) (fun c_25 => ?_)
    · have e9 : sp_pia (sp_srt 2) (sp_T S 2) (sp_C S 2) q y = (some (sp_lk (sp_T S 2) q), (sp_T S 2), (sp_C S 2)) := if_neg c_25
      refine j_iload dX8_putIfAbsent_38 rfl ?_
      refine j_iret dX8_putIfAbsent_40 rfl rfl ?_ (Nat.le_of_ble_eq_true rfl) (Nat.le_of_ble_eq_true rfl)
      refine ⟨rfl, (by first | exact z_cwl | rfl), ?_⟩
      rw [sp_i2, sp_in' (n := q) (by omega)]
      rw [e9]
      exact ⟨sp_k32_0 (Or.inr (Or.inr rfl)) (fun z => z.elim hk0 hc9), rfl, (sp_CWe hra hrb ht0 ht1 ht2 he0 he1 hzm3 hzm4 hzm5 rfl)⟩
    · have e9 : sp_pia (sp_srt 2) (sp_T S 2) (sp_C S 2) q y = (some (-1000), (sp_pt (sp_srt 2) (sp_T S 2) q y), z_bp (sp_C S 2) 5) := if_pos c_25
      refine j_aload dX8_putIfAbsent_28 rfl rfl ?_
      refine j_iload_n dX8_putIfAbsent_30 rfl ?_
      refine j_iload_n dX8_putIfAbsent_31 rfl ?_
      refine j_callV (q := (RX4, TX4, 5)) dX8_putIfAbsent_32 kX4_store lX8_130 inX4_store seX4_store rfl rfl (z_frame [21, 22, 23, 24, 25] rfl (by decide) (Nat.le_of_ble_eq_true rfl) (c_X4_store_e hl true _ _ _ (sp_T S 2) q y ht2 (by omega) (sp_vl hc9))) (Nat.le_of_ble_eq_true rfl) ⟨(Nat.le_of_ble_eq_true rfl), (Nat.le_of_ble_eq_true rfl)⟩ rfl (Nat.le_of_ble_eq_true rfl) rfl rfl (fun _ _ h => h.elim) ?_
      rintro _ _ ⟨_, _, ⟨rfl, f9, g9, ht9, rfl⟩, rfl, rfl⟩
      refine j_ws (L' := z_cw _ _ _ _ _ _ _ _ _ _ _ _ _ _ _ _ _ _ _ _ _ _ _ _ _ _ _ _ _ _ _ _ _ _ _ _ _ _ _ _ _ _ _ _ _ _ _ _ _ _ _ _ _ _ _ _ []) (by decide) rfl rfl ?_
      refine j_goto (tgt := 40) dX8_putIfAbsent_35 (by decide) ?_
      refine j_iret dX8_putIfAbsent_40 rfl rfl ?_ (Nat.le_of_ble_eq_true rfl) (Nat.le_of_ble_eq_true rfl)
      have c9 := c_25
      refine ⟨rfl, (by first | exact z_cwl | rfl), ?_⟩
      rw [sp_i2, sp_in' (n := q) (by omega)]
      rw [e9]
      exact ⟨sp_k32_0 (Or.inr (Or.inr rfl)) (fun z => z.elim hk0 hc9), (by rw [c9]; rfl), (sp_CWe hra hrb ht0 ht1 ht9 he0 he1 hzm3 hzm4 hzm5 rfl)⟩
set_option maxRecDepth 100000 in
set_option maxHeartbeats 8000000 in
theorem c_X8_replace_p (hl : l.stackTraces = false) (S : sp_S) (fa : Nat → Int32) (fb : Nat → Int32) (mt : Int32) (ft : Nat → Int32) (ct : Nat → Int32) (f0 : Nat → Int32) (g0 : Nat → Int32) (f1 : Nat → Int32) (g1 : Nat → Int32) (c1 : Nat → Int32) (f2 : Nat → Int32) (g2 : Nat → Int32) (c2 : Nat → Int32) (f3 : Nat → Int32) (g3 : Nat → Int32) (c3 : Nat → Int32) (m3 : Int32) (f4 : Nat → Int32) (g4 : Nat → Int32) (c4 : Nat → Int32) (m4 : Int32) (f5 : Nat → Int32) (g5 : Nat → Int32) (c5 : Nat → Int32) (m5 : Int32) (ef0 : Nat → Int32) (ef1 : Nat → Int32) (t : Int32) (k : Int32) (y : Int32) (ok : sp_ok S) (hra : z_row 12 (nI (sp_R S 0).length) fa (sp_R S 0)) (hrb : z_row 12 (nI (sp_R S 1).length) fb (sp_R S 1)) (ht0 : z_tba f0 g0 (sp_T S 0)) (ht1 : z_tba f1 g1 (sp_T S 1)) (ht2 : z_tba f2 g2 (sp_T S 2)) (he0 : z_row 10 (nI (sp_E S 0).2.length) ef0 (sp_E S 0).2) (he1 : z_row 10 (nI (sp_E S 1).2.length) ef1 (sp_E S 1).2) (hzm3 : z_m20 m3) (hzm4 : z_m20 m4) (hzm5 : z_m20 m5) : z_CX G l mX8_replace 20 14 120 (z_cw S.1.1 S.1.2 (nI (sp_R S 0).length) (sp_F S 0) fa (sp_C S 0) (nI (sp_R S 1).length) (sp_F S 1) fb (sp_C S 1) mt false ft ct f0 g0 (sp_C S 2) (nI (sp_T S 0).length) 0 f1 g1 c1 (nI (sp_T S 1).length) 0 f2 g2 c2 (nI (sp_T S 2).length) 1 f3 g3 c3 m3 0 f4 g4 c4 m4 0 f5 g5 c5 m5 1 (nI (sp_E S 0).2.length) (sp_E S 0).1.2.1 (sp_E S 0).1.2.2.1 (sp_E S 0).1.2.2.2 (sp_E S 0).1.1 ef0 (nI (sp_E S 1).2.length) (sp_E S 1).1.2.1 (sp_E S 1).1.2.2.1 (sp_E S 1).1.2.2.2 (sp_E S 1).1.1 ef1 []) [.ref 0, .int t, .int k, .int y] (fun v L => sp_k32 t (sp_bk k ∨ sp_bv y) = 0 ∧ v = some (.int ((sp_rep (sp_srt (sp_i t)) (sp_T S (sp_i t)) (sp_C S 2) (sp_i k) y).1.getD (-9))) ∧ sp_CW (sp_tb S (sp_i t) (sp_rep (sp_srt (sp_i t)) (sp_T S (sp_i t)) (sp_C S 2) (sp_i k) y)) L) (fun E L => ((z_xI E ∧ sp_k32 t (sp_bk k ∨ sp_bv y) = 1) ∨ (z_xA E ∧ sp_k32 t (sp_bk k ∨ sp_bv y) = 2)) ∧ L = (z_cw S.1.1 S.1.2 (nI (sp_R S 0).length) (sp_F S 0) fa (sp_C S 0) (nI (sp_R S 1).length) (sp_F S 1) fb (sp_C S 1) mt false ft ct f0 g0 (sp_C S 2) (nI (sp_T S 0).length) 0 f1 g1 c1 (nI (sp_T S 1).length) 0 f2 g2 c2 (nI (sp_T S 2).length) 1 f3 g3 c3 m3 0 f4 g4 c4 m4 0 f5 g5 c5 m5 1 (nI (sp_E S 0).2.length) (sp_E S 0).1.2.1 (sp_E S 0).1.2.2.1 (sp_E S 0).1.2.2.2 (sp_E S 0).1.1 ef0 (nI (sp_E S 1).2.length) (sp_E S 1).1.2.1 (sp_E S 1).1.2.2.1 (sp_E S 1).1.2.2.2 (sp_E S 1).1.1 ef1 [])) := by
  refine z_body hl (by decide) rfl (Nat.le_of_ble_eq_true rfl) ?_
  show z_J G l mX8_replace (z_SX 20 14 120 (z_cw S.1.1 S.1.2 (nI (sp_R S 0).length) (sp_F S 0) fa (sp_C S 0) (nI (sp_R S 1).length) (sp_F S 1) fb (sp_C S 1) mt false ft ct f0 g0 (sp_C S 2) (nI (sp_T S 0).length) 0 f1 g1 c1 (nI (sp_T S 1).length) 0 f2 g2 c2 (nI (sp_T S 2).length) 1 f3 g3 c3 m3 0 f4 g4 c4 m4 0 f5 g5 c5 m5 1 (nI (sp_E S 0).2.length) (sp_E S 0).1.2.1 (sp_E S 0).1.2.2.1 (sp_E S 0).1.2.2.2 (sp_E S 0).1.1 ef0 (nI (sp_E S 1).2.length) (sp_E S 1).1.2.1 (sp_E S 1).1.2.2.1 (sp_E S 1).1.2.2.2 (sp_E S 1).1.1 ef1 []) (fun v L => sp_k32 t (sp_bk k ∨ sp_bv y) = 0 ∧ v = some (.int ((sp_rep (sp_srt (sp_i t)) (sp_T S (sp_i t)) (sp_C S 2) (sp_i k) y).1.getD (-9))) ∧ sp_CW (sp_tb S (sp_i t) (sp_rep (sp_srt (sp_i t)) (sp_T S (sp_i t)) (sp_C S 2) (sp_i k) y)) L) (fun E L => ((z_xI E ∧ sp_k32 t (sp_bk k ∨ sp_bv y) = 1) ∨ (z_xA E ∧ sp_k32 t (sp_bk k ∨ sp_bv y) = 2)) ∧ L = (z_cw S.1.1 S.1.2 (nI (sp_R S 0).length) (sp_F S 0) fa (sp_C S 0) (nI (sp_R S 1).length) (sp_F S 1) fb (sp_C S 1) mt false ft ct f0 g0 (sp_C S 2) (nI (sp_T S 0).length) 0 f1 g1 c1 (nI (sp_T S 1).length) 0 f2 g2 c2 (nI (sp_T S 2).length) 1 f3 g3 c3 m3 0 f4 g4 c4 m4 0 f5 g5 c5 m5 1 (nI (sp_E S 0).2.length) (sp_E S 0).1.2.1 (sp_E S 0).1.2.2.1 (sp_E S 0).1.2.2.2 (sp_E S 0).1.1 ef0 (nI (sp_E S 1).2.length) (sp_E S 1).1.2.1 (sp_E S 1).1.2.2.1 (sp_E S 1).1.2.2.2 (sp_E S 1).1.1 ef1 []))) 0 [(0, _), (1, _), (2, _), (3, _)] [] _ 0 0
  refine j_aload_n dX8_replace_0 rfl rfl ?_
  refine j_iload_n dX8_replace_1 rfl ?_
  refine j_iload_n dX8_replace_2 rfl ?_
  refine j_callV (q := (RX8, TX8, 9)) dX8_replace_3 kX8_tableFor_ lX8_126 inX8_tableFor_ seX8_tableFor_ rfl rfl (z_dirX (c_X8_tableFor__e hl _ _ _ _ _ _ _ _ _ _ _ _ _ _ _ _ _ _ _ _ _ _ _ _ _ _ _ _ _ _ _ _ _ _ _ _ _ _ _ _ _ _ _ _ _ _ _ _ _ _ _ _ _ _ _ _ _ _)) (Nat.le_of_ble_eq_true rfl) ⟨(Nat.le_of_ble_eq_true rfl), (Nat.le_of_ble_eq_true rfl)⟩ rfl (Nat.le_of_ble_eq_true rfl) rfl rfl (fun _ _ h => by obtain ⟨_, ⟨h1, rfl⟩, rfl⟩ := h; exact ⟨rfl, rfl, h1.elim (fun z => Or.inl ⟨z.1, sp_k32_1 z.2⟩) (fun z => Or.inr ⟨z.1, sp_k32_2 z.2.1 (Or.inl (z.2.2))⟩), rfl⟩) ?_
  rintro _ _ ⟨_, ⟨_, rfl, hr, hk3, rfl⟩, rfl⟩
  have hk0 := hk3
  obtain ⟨q, hq, rfl⟩ := sp_nt (m := 19) rfl (by decide) hk0
  rcases hr with ⟨e_3, rfl⟩ | ⟨e_3, rfl⟩ | ⟨e_3, rfl⟩
  · subst e_3
    refine j_astore (lo' := [(4, _), (0, _), (1, _), (2, _), (3, _)]) dX8_replace_6 rfl (by decide) rfl ?_
    refine j_iload_n dX8_replace_8 rfl ?_
    refine j_callS dX8_replace_9 kX8_checkValue lX8_50 stX8_checkValue (c_X8_checkValue_e hl _ _) (Nat.le_of_ble_eq_true rfl) ⟨(Nat.le_of_ble_eq_true rfl), (Nat.le_of_ble_eq_true rfl)⟩ rfl (Nat.le_of_ble_eq_true rfl) rfl rfl (fun _ _ h => by obtain ⟨h1, rfl⟩ := h; exact ⟨rfl, rfl, Or.inr ⟨h1.1, sp_k32_2 (Or.inl rfl) (Or.inr h1.2)⟩, rfl⟩) ?_
    rintro _ _ ⟨⟨rfl, hc9⟩, rfl⟩
    refine j_aload dX8_replace_12 rfl rfl ?_
    refine j_iload_n dX8_replace_14 rfl ?_
    refine j_callV (q := (RX4, TX4, 5)) dX8_replace_15 kX4_look lX8_137 inX4_look seX4_look rfl rfl (z_frame [10, 11, 12, 13, 14] rfl (by decide) (Nat.le_of_ble_eq_true rfl) (c_X4_look_e hl false _ _ _ _ (sp_T S 0) q ht0 (by omega))) (Nat.le_of_ble_eq_true rfl) ⟨(Nat.le_of_ble_eq_true rfl), (Nat.le_of_ble_eq_true rfl)⟩ rfl (Nat.le_of_ble_eq_true rfl) rfl rfl (fun _ _ h => h.elim) ?_
    rintro _ _ ⟨_, _, ⟨rfl, rfl⟩, rfl, rfl⟩
    refine j_ws (L' := z_cw _ _ _ _ _ _ _ _ _ _ _ _ _ _ _ _ _ _ _ _ _ _ _ _ _ _ _ _ _ _ _ _ _ _ _ _ _ _ _ _ _ _ _ _ _ _ _ _ _ _ _ _ _ _ _ _ []) (by decide) rfl rfl ?_
    refine j_sipush (v := (-1000)) dX8_replace_18 (by decide) ?_
    refine j_icmp_ne (tgt := 30) dX8_replace_21 (by decide) (fun c_21 => ?_) (fun c_21 => ?_)
    · have e9 : sp_rep (sp_srt 0) (sp_T S 0) (sp_C S 2) q y = (some (sp_lk (sp_T S 0) q), (sp_pt (sp_srt 0) (sp_T S 0) q y), z_bp (sp_C S 2) 5) := if_neg c_21
      refine j_aload dX8_replace_30 rfl rfl ?_
      refine j_iload_n dX8_replace_32 rfl ?_
      refine j_iload_n dX8_replace_33 rfl ?_
      refine j_callV (q := (RX4, TX4, 5)) dX8_replace_34 kX4_store lX8_130 inX4_store seX4_store rfl rfl (z_frame [10, 11, 12, 13, 14] rfl (by decide) (Nat.le_of_ble_eq_true rfl) (c_X4_store_e hl false _ _ _ (sp_T S 0) q y ht0 (by omega) (sp_vl hc9))) (Nat.le_of_ble_eq_true rfl) ⟨(Nat.le_of_ble_eq_true rfl), (Nat.le_of_ble_eq_true rfl)⟩ rfl (Nat.le_of_ble_eq_true rfl) rfl rfl (fun _ _ h => h.elim) ?_
      rintro _ _ ⟨_, _, ⟨rfl, f9, g9, ht9, rfl⟩, rfl, rfl⟩
      refine j_ws (L' := z_cw _ _ _ _ _ _ _ _ _ _ _ _ _ _ _ _ _ _ _ _ _ _ _ _ _ _ _ _ _ _ _ _ _ _ _ _ _ _ _ _ _ _ _ _ _ _ _ _ _ _ _ _ _ _ _ _ []) (by decide) rfl rfl ?_
      refine j_iret dX8_replace_37 rfl rfl ?_ (Nat.le_of_ble_eq_true rfl) (Nat.le_of_ble_eq_true rfl)
      refine ⟨rfl, (by first | exact z_cwl | rfl), ?_⟩
      rw [sp_i0, sp_in' (n := q) (by omega)]
      rw [e9]
      exact ⟨sp_k32_0 (Or.inl rfl) (fun z => z.elim hk0 hc9), rfl, (sp_CWe hra hrb ht9 ht1 ht2 he0 he1 hzm3 hzm4 hzm5 rfl)⟩
    · have e9 : sp_rep (sp_srt 0) (sp_T S 0) (sp_C S 2) q y = (some (-1000), (sp_T S 0), (sp_C S 2)) := if_pos c_21
      refine j_sipush (v := (-1000)) dX8_replace_24 (by decide) ?_
      refine j_goto (tgt := 37) dX8_replace_27 (by decide) ?_
      refine j_iret dX8_replace_37 rfl rfl ?_ (Nat.le_of_ble_eq_true rfl) (Nat.le_of_ble_eq_true rfl)
      refine ⟨rfl, (by first | exact z_cwl | rfl), ?_⟩
      rw [sp_i0, sp_in' (n := q) (by omega)]
      rw [e9]
      exact ⟨sp_k32_0 (Or.inl rfl) (fun z => z.elim hk0 hc9), rfl, (sp_CWe hra hrb ht0 ht1 ht2 he0 he1 hzm3 hzm4 hzm5 rfl)⟩
  · subst e_3
    refine j_astore (lo' := [(4, _), (0, _), (1, _), (2, _), (3, _)]) dX8_replace_6 rfl (by decide) rfl ?_
    refine j_iload_n dX8_replace_8 rfl ?_
    refine j_callS dX8_replace_9 kX8_checkValue lX8_50 stX8_checkValue (c_X8_checkValue_e hl _ _) (Nat.le_of_ble_eq_true rfl) ⟨(Nat.le_of_ble_eq_true rfl), (Nat.le_of_ble_eq_true rfl)⟩ rfl (Nat.le_of_ble_eq_true rfl) rfl rfl (fun _ _ h => by obtain ⟨h1, rfl⟩ := h; exact ⟨rfl, rfl, Or.inr ⟨h1.1, sp_k32_2 (Or.inr (Or.inl rfl)) (Or.inr h1.2)⟩, rfl⟩) ?_
    rintro _ _ ⟨⟨rfl, hc9⟩, rfl⟩
    refine j_aload dX8_replace_12 rfl rfl ?_
    refine j_iload_n dX8_replace_14 rfl ?_
    refine j_callV (q := (RX4, TX4, 5)) dX8_replace_15 kX4_look lX8_137 inX4_look seX4_look rfl rfl (z_frame [16, 17, 18, 19, 20] rfl (by decide) (Nat.le_of_ble_eq_true rfl) (c_X4_look_e hl false _ _ _ _ (sp_T S 1) q ht1 (by omega))) (Nat.le_of_ble_eq_true rfl) ⟨(Nat.le_of_ble_eq_true rfl), (Nat.le_of_ble_eq_true rfl)⟩ rfl (Nat.le_of_ble_eq_true rfl) rfl rfl (fun _ _ h => h.elim) ?_
    rintro _ _ ⟨_, _, ⟨rfl, rfl⟩, rfl, rfl⟩
    refine j_ws (L' := z_cw _ _ _ _ _ _ _ _ _ _ _ _ _ _ _ _ _ _ _ _ _ _ _ _ _ _ _ _ _ _ _ _ _ _ _ _ _ _ _ _ _ _ _ _ _ _ _ _ _ _ _ _ _ _ _ _ []) (by decide) rfl rfl ?_
    refine j_sipush (v := (-1000)) dX8_replace_18 (by decide) ?_
    refine j_icmp_ne (tgt := 30) dX8_replace_21 (by decide) (fun c_21 => ?_) (fun c_21 => ?_)
    · have e9 : sp_rep (sp_srt 1) (sp_T S 1) (sp_C S 2) q y = (some (sp_lk (sp_T S 1) q), (sp_pt (sp_srt 1) (sp_T S 1) q y), z_bp (sp_C S 2) 5) := if_neg c_21
      refine j_aload dX8_replace_30 rfl rfl ?_
      refine j_iload_n dX8_replace_32 rfl ?_
      refine j_iload_n dX8_replace_33 rfl ?_
      refine j_callV (q := (RX4, TX4, 5)) dX8_replace_34 kX4_store lX8_130 inX4_store seX4_store rfl rfl (z_frame [16, 17, 18, 19, 20] rfl (by decide) (Nat.le_of_ble_eq_true rfl) (c_X4_store_e hl false _ _ _ (sp_T S 1) q y ht1 (by omega) (sp_vl hc9))) (Nat.le_of_ble_eq_true rfl) ⟨(Nat.le_of_ble_eq_true rfl), (Nat.le_of_ble_eq_true rfl)⟩ rfl (Nat.le_of_ble_eq_true rfl) rfl rfl (fun _ _ h => h.elim) ?_
      rintro _ _ ⟨_, _, ⟨rfl, f9, g9, ht9, rfl⟩, rfl, rfl⟩
      refine j_ws (L' := z_cw _ _ _ _ _ _ _ _ _ _ _ _ _ _ _ _ _ _ _ _ _ _ _ _ _ _ _ _ _ _ _ _ _ _ _ _ _ _ _ _ _ _ _ _ _ _ _ _ _ _ _ _ _ _ _ _ []) (by decide) rfl rfl ?_
      refine j_iret dX8_replace_37 rfl rfl ?_ (Nat.le_of_ble_eq_true rfl) (Nat.le_of_ble_eq_true rfl)
      refine ⟨rfl, (by first | exact z_cwl | rfl), ?_⟩
      rw [sp_i1, sp_in' (n := q) (by omega)]
      rw [e9]
      exact ⟨sp_k32_0 (Or.inr (Or.inl rfl)) (fun z => z.elim hk0 hc9), rfl, (sp_CWe hra hrb ht0 ht9 ht2 he0 he1 hzm3 hzm4 hzm5 rfl)⟩
    · have e9 : sp_rep (sp_srt 1) (sp_T S 1) (sp_C S 2) q y = (some (-1000), (sp_T S 1), (sp_C S 2)) := if_pos c_21
      refine j_sipush (v := (-1000)) dX8_replace_24 (by decide) ?_
      refine j_goto (tgt := 37) dX8_replace_27 (by decide) ?_
      refine j_iret dX8_replace_37 rfl rfl ?_ (Nat.le_of_ble_eq_true rfl) (Nat.le_of_ble_eq_true rfl)
      refine ⟨rfl, (by first | exact z_cwl | rfl), ?_⟩
      rw [sp_i1, sp_in' (n := q) (by omega)]
      rw [e9]
      exact ⟨sp_k32_0 (Or.inr (Or.inl rfl)) (fun z => z.elim hk0 hc9), rfl, (sp_CWe hra hrb ht0 ht1 ht2 he0 he1 hzm3 hzm4 hzm5 rfl)⟩
  · subst e_3
    refine j_astore (lo' := [(4, _), (0, _), (1, _), (2, _), (3, _)]) dX8_replace_6 rfl (by decide) rfl ?_
    refine j_iload_n dX8_replace_8 rfl ?_
    refine j_callS dX8_replace_9 kX8_checkValue lX8_50 stX8_checkValue (c_X8_checkValue_e hl _ _) (Nat.le_of_ble_eq_true rfl) ⟨(Nat.le_of_ble_eq_true rfl), (Nat.le_of_ble_eq_true rfl)⟩ rfl (Nat.le_of_ble_eq_true rfl) rfl rfl (fun _ _ h => by obtain ⟨h1, rfl⟩ := h; exact ⟨rfl, rfl, Or.inr ⟨h1.1, sp_k32_2 (Or.inr (Or.inr rfl)) (Or.inr h1.2)⟩, rfl⟩) ?_
    rintro _ _ ⟨⟨rfl, hc9⟩, rfl⟩
    refine j_aload dX8_replace_12 rfl rfl ?_
    refine j_iload_n dX8_replace_14 rfl ?_
    refine j_callV (q := (RX4, TX4, 5)) dX8_replace_15 kX4_look lX8_137 inX4_look seX4_look rfl rfl (z_frame [21, 22, 23, 24, 25] rfl (by decide) (Nat.le_of_ble_eq_true rfl) (c_X4_look_e hl true _ _ _ _ (sp_T S 2) q ht2 (by omega))) (Nat.le_of_ble_eq_true rfl) ⟨(Nat.le_of_ble_eq_true rfl), (Nat.le_of_ble_eq_true rfl)⟩ rfl (Nat.le_of_ble_eq_true rfl) rfl rfl (fun _ _ h => h.elim) ?_
    rintro _ _ ⟨_, _, ⟨rfl, rfl⟩, rfl, rfl⟩
    refine j_ws (L' := z_cw _ _ _ _ _ _ _ _ _ _ _ _ _ _ _ _ _ _ _ _ _ _ _ _ _ _ _ _ _ _ _ _ _ _ _ _ _ _ _ _ _ _ _ _ _ _ _ _ _ _ _ _ _ _ _ _ []) (by decide) rfl rfl ?_
    refine j_sipush (v := (-1000)) dX8_replace_18 (by decide) ?_
    refine j_icmp_ne (tgt := 30) dX8_replace_21 (by decide) (fun c_21 => ?_) (fun c_21 => ?_)
    · have e9 : sp_rep (sp_srt 2) (sp_T S 2) (sp_C S 2) q y = (some (sp_lk (sp_T S 2) q), (sp_pt (sp_srt 2) (sp_T S 2) q y), z_bp (sp_C S 2) 5) := if_neg c_21
      refine j_aload dX8_replace_30 rfl rfl ?_
      refine j_iload_n dX8_replace_32 rfl ?_
      refine j_iload_n dX8_replace_33 rfl ?_
      refine j_callV (q := (RX4, TX4, 5)) dX8_replace_34 kX4_store lX8_130 inX4_store seX4_store rfl rfl (z_frame [21, 22, 23, 24, 25] rfl (by decide) (Nat.le_of_ble_eq_true rfl) (c_X4_store_e hl true _ _ _ (sp_T S 2) q y ht2 (by omega) (sp_vl hc9))) (Nat.le_of_ble_eq_true rfl) ⟨(Nat.le_of_ble_eq_true rfl), (Nat.le_of_ble_eq_true rfl)⟩ rfl (Nat.le_of_ble_eq_true rfl) rfl rfl (fun _ _ h => h.elim) ?_
      rintro _ _ ⟨_, _, ⟨rfl, f9, g9, ht9, rfl⟩, rfl, rfl⟩
      refine j_ws (L' := z_cw _ _ _ _ _ _ _ _ _ _ _ _ _ _ _ _ _ _ _ _ _ _ _ _ _ _ _ _ _ _ _ _ _ _ _ _ _ _ _ _ _ _ _ _ _ _ _ _ _ _ _ _ _ _ _ _ []) (by decide) rfl rfl ?_
      refine j_iret dX8_replace_37 rfl rfl ?_ (Nat.le_of_ble_eq_true rfl) (Nat.le_of_ble_eq_true rfl)
      refine ⟨rfl, (by first | exact z_cwl | rfl), ?_⟩
      rw [sp_i2, sp_in' (n := q) (by omega)]
      rw [e9]
      exact ⟨sp_k32_0 (Or.inr (Or.inr rfl)) (fun z => z.elim hk0 hc9), rfl, (sp_CWe hra hrb ht0 ht1 ht9 he0 he1 hzm3 hzm4 hzm5 rfl)⟩
    · have e9 : sp_rep (sp_srt 2) (sp_T S 2) (sp_C S 2) q y = (some (-1000), (sp_T S 2), (sp_C S 2)) := if_pos c_21
      refine j_sipush (v := (-1000)) dX8_replace_24 (by decide) ?_
      refine j_goto (tgt := 37) dX8_replace_27 (by decide) ?_
      refine j_iret dX8_replace_37 rfl rfl ?_ (Nat.le_of_ble_eq_true rfl) (Nat.le_of_ble_eq_true rfl)
      refine ⟨rfl, (by first | exact z_cwl | rfl), ?_⟩
      rw [sp_i2, sp_in' (n := q) (by omega)]
      rw [e9]
      exact ⟨sp_k32_0 (Or.inr (Or.inr rfl)) (fun z => z.elim hk0 hc9), rfl, (sp_CWe hra hrb ht0 ht1 ht2 he0 he1 hzm3 hzm4 hzm5 rfl)⟩
set_option maxRecDepth 100000 in
set_option maxHeartbeats 8000000 in
theorem c_X8_replaceIf_p (hl : l.stackTraces = false) (S : sp_S) (fa : Nat → Int32) (fb : Nat → Int32) (mt : Int32) (ft : Nat → Int32) (ct : Nat → Int32) (f0 : Nat → Int32) (g0 : Nat → Int32) (f1 : Nat → Int32) (g1 : Nat → Int32) (c1 : Nat → Int32) (f2 : Nat → Int32) (g2 : Nat → Int32) (c2 : Nat → Int32) (f3 : Nat → Int32) (g3 : Nat → Int32) (c3 : Nat → Int32) (m3 : Int32) (f4 : Nat → Int32) (g4 : Nat → Int32) (c4 : Nat → Int32) (m4 : Int32) (f5 : Nat → Int32) (g5 : Nat → Int32) (c5 : Nat → Int32) (m5 : Int32) (ef0 : Nat → Int32) (ef1 : Nat → Int32) (t : Int32) (k : Int32) (o : Int32) (y : Int32) (ok : sp_ok S) (hra : z_row 12 (nI (sp_R S 0).length) fa (sp_R S 0)) (hrb : z_row 12 (nI (sp_R S 1).length) fb (sp_R S 1)) (ht0 : z_tba f0 g0 (sp_T S 0)) (ht1 : z_tba f1 g1 (sp_T S 1)) (ht2 : z_tba f2 g2 (sp_T S 2)) (he0 : z_row 10 (nI (sp_E S 0).2.length) ef0 (sp_E S 0).2) (he1 : z_row 10 (nI (sp_E S 1).2.length) ef1 (sp_E S 1).2) (hzm3 : z_m20 m3) (hzm4 : z_m20 m4) (hzm5 : z_m20 m5) : z_CX G l mX8_replaceIf 20 14 120 (z_cw S.1.1 S.1.2 (nI (sp_R S 0).length) (sp_F S 0) fa (sp_C S 0) (nI (sp_R S 1).length) (sp_F S 1) fb (sp_C S 1) mt false ft ct f0 g0 (sp_C S 2) (nI (sp_T S 0).length) 0 f1 g1 c1 (nI (sp_T S 1).length) 0 f2 g2 c2 (nI (sp_T S 2).length) 1 f3 g3 c3 m3 0 f4 g4 c4 m4 0 f5 g5 c5 m5 1 (nI (sp_E S 0).2.length) (sp_E S 0).1.2.1 (sp_E S 0).1.2.2.1 (sp_E S 0).1.2.2.2 (sp_E S 0).1.1 ef0 (nI (sp_E S 1).2.length) (sp_E S 1).1.2.1 (sp_E S 1).1.2.2.1 (sp_E S 1).1.2.2.2 (sp_E S 1).1.1 ef1 []) [.ref 0, .int t, .int k, .int o, .int y] (fun v L => sp_k32 t (sp_bk k ∨ sp_bv o ∨ sp_bv y) = 0 ∧ v = some (.int ((sp_rif (sp_srt (sp_i t)) (sp_T S (sp_i t)) (sp_C S 2) (sp_i k) o y).1.getD (-9))) ∧ sp_CW (sp_tb S (sp_i t) (sp_rif (sp_srt (sp_i t)) (sp_T S (sp_i t)) (sp_C S 2) (sp_i k) o y)) L) (fun E L => ((z_xI E ∧ sp_k32 t (sp_bk k ∨ sp_bv o ∨ sp_bv y) = 1) ∨ (z_xA E ∧ sp_k32 t (sp_bk k ∨ sp_bv o ∨ sp_bv y) = 2)) ∧ L = (z_cw S.1.1 S.1.2 (nI (sp_R S 0).length) (sp_F S 0) fa (sp_C S 0) (nI (sp_R S 1).length) (sp_F S 1) fb (sp_C S 1) mt false ft ct f0 g0 (sp_C S 2) (nI (sp_T S 0).length) 0 f1 g1 c1 (nI (sp_T S 1).length) 0 f2 g2 c2 (nI (sp_T S 2).length) 1 f3 g3 c3 m3 0 f4 g4 c4 m4 0 f5 g5 c5 m5 1 (nI (sp_E S 0).2.length) (sp_E S 0).1.2.1 (sp_E S 0).1.2.2.1 (sp_E S 0).1.2.2.2 (sp_E S 0).1.1 ef0 (nI (sp_E S 1).2.length) (sp_E S 1).1.2.1 (sp_E S 1).1.2.2.1 (sp_E S 1).1.2.2.2 (sp_E S 1).1.1 ef1 [])) := by
  refine z_body hl (by decide) rfl (Nat.le_of_ble_eq_true rfl) ?_
  show z_J G l mX8_replaceIf (z_SX 20 14 120 (z_cw S.1.1 S.1.2 (nI (sp_R S 0).length) (sp_F S 0) fa (sp_C S 0) (nI (sp_R S 1).length) (sp_F S 1) fb (sp_C S 1) mt false ft ct f0 g0 (sp_C S 2) (nI (sp_T S 0).length) 0 f1 g1 c1 (nI (sp_T S 1).length) 0 f2 g2 c2 (nI (sp_T S 2).length) 1 f3 g3 c3 m3 0 f4 g4 c4 m4 0 f5 g5 c5 m5 1 (nI (sp_E S 0).2.length) (sp_E S 0).1.2.1 (sp_E S 0).1.2.2.1 (sp_E S 0).1.2.2.2 (sp_E S 0).1.1 ef0 (nI (sp_E S 1).2.length) (sp_E S 1).1.2.1 (sp_E S 1).1.2.2.1 (sp_E S 1).1.2.2.2 (sp_E S 1).1.1 ef1 []) (fun v L => sp_k32 t (sp_bk k ∨ sp_bv o ∨ sp_bv y) = 0 ∧ v = some (.int ((sp_rif (sp_srt (sp_i t)) (sp_T S (sp_i t)) (sp_C S 2) (sp_i k) o y).1.getD (-9))) ∧ sp_CW (sp_tb S (sp_i t) (sp_rif (sp_srt (sp_i t)) (sp_T S (sp_i t)) (sp_C S 2) (sp_i k) o y)) L) (fun E L => ((z_xI E ∧ sp_k32 t (sp_bk k ∨ sp_bv o ∨ sp_bv y) = 1) ∨ (z_xA E ∧ sp_k32 t (sp_bk k ∨ sp_bv o ∨ sp_bv y) = 2)) ∧ L = (z_cw S.1.1 S.1.2 (nI (sp_R S 0).length) (sp_F S 0) fa (sp_C S 0) (nI (sp_R S 1).length) (sp_F S 1) fb (sp_C S 1) mt false ft ct f0 g0 (sp_C S 2) (nI (sp_T S 0).length) 0 f1 g1 c1 (nI (sp_T S 1).length) 0 f2 g2 c2 (nI (sp_T S 2).length) 1 f3 g3 c3 m3 0 f4 g4 c4 m4 0 f5 g5 c5 m5 1 (nI (sp_E S 0).2.length) (sp_E S 0).1.2.1 (sp_E S 0).1.2.2.1 (sp_E S 0).1.2.2.2 (sp_E S 0).1.1 ef0 (nI (sp_E S 1).2.length) (sp_E S 1).1.2.1 (sp_E S 1).1.2.2.1 (sp_E S 1).1.2.2.2 (sp_E S 1).1.1 ef1 []))) 0 [(0, _), (1, _), (2, _), (3, _), (4, _)] [] _ 0 0
  refine j_aload_n dX8_replaceIf_0 rfl rfl ?_
  refine j_iload_n dX8_replaceIf_1 rfl ?_
  refine j_iload_n dX8_replaceIf_2 rfl ?_
  refine j_callV (q := (RX8, TX8, 9)) dX8_replaceIf_3 kX8_tableFor_ lX8_126 inX8_tableFor_ seX8_tableFor_ rfl rfl (z_dirX (c_X8_tableFor__e hl _ _ _ _ _ _ _ _ _ _ _ _ _ _ _ _ _ _ _ _ _ _ _ _ _ _ _ _ _ _ _ _ _ _ _ _ _ _ _ _ _ _ _ _ _ _ _ _ _ _ _ _ _ _ _ _ _ _)) (Nat.le_of_ble_eq_true rfl) ⟨(Nat.le_of_ble_eq_true rfl), (Nat.le_of_ble_eq_true rfl)⟩ rfl (Nat.le_of_ble_eq_true rfl) rfl rfl (fun _ _ h => by obtain ⟨_, ⟨h1, rfl⟩, rfl⟩ := h; exact ⟨rfl, rfl, h1.elim (fun z => Or.inl ⟨z.1, sp_k32_1 z.2⟩) (fun z => Or.inr ⟨z.1, sp_k32_2 z.2.1 (Or.inl (z.2.2))⟩), rfl⟩) ?_
  rintro _ _ ⟨_, ⟨_, rfl, hr, hk3, rfl⟩, rfl⟩
  have hk0 := hk3
  obtain ⟨q, hq, rfl⟩ := sp_nt (m := 19) rfl (by decide) hk0
  rcases hr with ⟨e_3, rfl⟩ | ⟨e_3, rfl⟩ | ⟨e_3, rfl⟩
  · subst e_3
    refine j_astore (lo' := [(5, _), (0, _), (1, _), (2, _), (3, _), (4, _)]) dX8_replaceIf_6 rfl (by decide) rfl ?_
    refine j_iload_n dX8_replaceIf_8 rfl ?_
    refine j_callS dX8_replaceIf_9 kX8_checkValue lX8_50 stX8_checkValue (c_X8_checkValue_e hl _ _) (Nat.le_of_ble_eq_true rfl) ⟨(Nat.le_of_ble_eq_true rfl), (Nat.le_of_ble_eq_true rfl)⟩ rfl (Nat.le_of_ble_eq_true rfl) rfl rfl (fun _ _ h => by obtain ⟨h1, rfl⟩ := h; exact ⟨rfl, rfl, Or.inr ⟨h1.1, sp_k32_2 (Or.inl rfl) (Or.inr <| Or.inl h1.2)⟩, rfl⟩) ?_
    rintro _ _ ⟨⟨rfl, hc9⟩, rfl⟩
    refine j_iload dX8_replaceIf_12 rfl ?_
    refine j_callS dX8_replaceIf_14 kX8_checkValue lX8_50 stX8_checkValue (c_X8_checkValue_e hl _ _) (Nat.le_of_ble_eq_true rfl) ⟨(Nat.le_of_ble_eq_true rfl), (Nat.le_of_ble_eq_true rfl)⟩ rfl (Nat.le_of_ble_eq_true rfl) rfl rfl (fun _ _ h => by obtain ⟨h1, rfl⟩ := h; exact ⟨rfl, rfl, Or.inr ⟨h1.1, sp_k32_2 (Or.inl rfl) (Or.inr <| Or.inr h1.2)⟩, rfl⟩) ?_
    rintro _ _ ⟨⟨rfl, hc14⟩, rfl⟩
    refine j_aload dX8_replaceIf_17 rfl rfl ?_
    refine j_iload_n dX8_replaceIf_19 rfl ?_
    refine j_callV (q := (RX4, TX4, 5)) dX8_replaceIf_20 kX4_look lX8_137 inX4_look seX4_look rfl rfl (z_frame [10, 11, 12, 13, 14] rfl (by decide) (Nat.le_of_ble_eq_true rfl) (c_X4_look_e hl false _ _ _ _ (sp_T S 0) q ht0 (by omega))) (Nat.le_of_ble_eq_true rfl) ⟨(Nat.le_of_ble_eq_true rfl), (Nat.le_of_ble_eq_true rfl)⟩ rfl (Nat.le_of_ble_eq_true rfl) rfl rfl (fun _ _ h => h.elim) ?_
    rintro _ _ ⟨_, _, ⟨rfl, rfl⟩, rfl, rfl⟩
    refine j_ws (L' := z_cw _ _ _ _ _ _ _ _ _ _ _ _ _ _ _ _ _ _ _ _ _ _ _ _ _ _ _ _ _ _ _ _ _ _ _ _ _ _ _ _ _ _ _ _ _ _ _ _ _ _ _ _ _ _ _ _ []) (by decide) rfl rfl ?_
    refine j_iload_n dX8_replaceIf_23 rfl ?_
    refine j_icmp_eq (tgt := 29) dX8_replaceIf_24 (by decide) (fun c_24 => ?_) (fun c_24 => ?_)
    · have e9 : sp_rif (sp_srt 0) (sp_T S 0) (sp_C S 2) q o y = (some 1, (sp_pt (sp_srt 0) (sp_T S 0) q y), z_bp (sp_C S 2) 5) := if_pos c_24
      refine j_aload dX8_replaceIf_29 rfl rfl ?_
      refine j_iload_n dX8_replaceIf_31 rfl ?_
      refine j_iload dX8_replaceIf_32 rfl ?_
      refine j_callV (q := (RX4, TX4, 5)) dX8_replaceIf_34 kX4_store lX8_130 inX4_store seX4_store rfl rfl (z_frame [10, 11, 12, 13, 14] rfl (by decide) (Nat.le_of_ble_eq_true rfl) (c_X4_store_e hl false _ _ _ (sp_T S 0) q y ht0 (by omega) (sp_vl hc14))) (Nat.le_of_ble_eq_true rfl) ⟨(Nat.le_of_ble_eq_true rfl), (Nat.le_of_ble_eq_true rfl)⟩ rfl (Nat.le_of_ble_eq_true rfl) rfl rfl (fun _ _ h => h.elim) ?_
      rintro _ _ ⟨_, _, ⟨rfl, f9, g9, ht9, rfl⟩, rfl, rfl⟩
      refine j_ws (L' := z_cw _ _ _ _ _ _ _ _ _ _ _ _ _ _ _ _ _ _ _ _ _ _ _ _ _ _ _ _ _ _ _ _ _ _ _ _ _ _ _ _ _ _ _ _ _ _ _ _ _ _ _ _ _ _ _ _ []) (by decide) rfl rfl ?_
      refine j_pop dX8_replaceIf_37 rfl ?_
      refine j_iconst (v := 1) dX8_replaceIf_38 (by decide) ?_
      refine j_iret dX8_replaceIf_39 rfl rfl ?_ (Nat.le_of_ble_eq_true rfl) (Nat.le_of_ble_eq_true rfl)
      refine ⟨rfl, (by first | exact z_cwl | rfl), ?_⟩
      rw [sp_i0, sp_in' (n := q) (by omega)]
      rw [e9]
      exact ⟨sp_k32_0 (Or.inl rfl) (fun z => z.elim hk0 (fun z => z.elim hc9 hc14)), rfl, (sp_CWe hra hrb ht9 ht1 ht2 he0 he1 hzm3 hzm4 hzm5 rfl)⟩
    · have e9 : sp_rif (sp_srt 0) (sp_T S 0) (sp_C S 2) q o y = (some 0, (sp_T S 0), (sp_C S 2)) := if_neg c_24
      refine j_iconst (v := 0) dX8_replaceIf_27 (by decide) ?_
      refine j_iret dX8_replaceIf_28 rfl rfl ?_ (Nat.le_of_ble_eq_true rfl) (Nat.le_of_ble_eq_true rfl)
      refine ⟨rfl, (by first | exact z_cwl | rfl), ?_⟩
      rw [sp_i0, sp_in' (n := q) (by omega)]
      rw [e9]
      exact ⟨sp_k32_0 (Or.inl rfl) (fun z => z.elim hk0 (fun z => z.elim hc9 hc14)), rfl, (sp_CWe hra hrb ht0 ht1 ht2 he0 he1 hzm3 hzm4 hzm5 rfl)⟩
  · subst e_3
    refine j_astore (lo' := [(5, _), (0, _), (1, _), (2, _), (3, _), (4, _)]) dX8_replaceIf_6 rfl (by decide) rfl ?_
    refine j_iload_n dX8_replaceIf_8 rfl ?_
    refine j_callS dX8_replaceIf_9 kX8_checkValue lX8_50 stX8_checkValue (c_X8_checkValue_e hl _ _) (Nat.le_of_ble_eq_true rfl) ⟨(Nat.le_of_ble_eq_true rfl), (Nat.le_of_ble_eq_true rfl)⟩ rfl (Nat.le_of_ble_eq_true rfl) rfl rfl (fun _ _ h => by obtain ⟨h1, rfl⟩ := h; exact ⟨rfl, rfl, Or.inr ⟨h1.1, sp_k32_2 (Or.inr (Or.inl rfl)) (Or.inr <| Or.inl h1.2)⟩, rfl⟩) ?_
    rintro _ _ ⟨⟨rfl, hc9⟩, rfl⟩
    refine j_iload dX8_replaceIf_12 rfl ?_
    refine j_callS dX8_replaceIf_14 kX8_checkValue lX8_50 stX8_checkValue (c_X8_checkValue_e hl _ _) (Nat.le_of_ble_eq_true rfl) ⟨(Nat.le_of_ble_eq_true rfl), (Nat.le_of_ble_eq_true rfl)⟩ rfl (Nat.le_of_ble_eq_true rfl) rfl rfl (fun _ _ h => by obtain ⟨h1, rfl⟩ := h; exact ⟨rfl, rfl, Or.inr ⟨h1.1, sp_k32_2 (Or.inr (Or.inl rfl)) (Or.inr <| Or.inr h1.2)⟩, rfl⟩) ?_
    rintro _ _ ⟨⟨rfl, hc14⟩, rfl⟩
    refine j_aload dX8_replaceIf_17 rfl rfl ?_
    refine j_iload_n dX8_replaceIf_19 rfl ?_
    refine j_callV (q := (RX4, TX4, 5)) dX8_replaceIf_20 kX4_look lX8_137 inX4_look seX4_look rfl rfl (z_frame [16, 17, 18, 19, 20] rfl (by decide) (Nat.le_of_ble_eq_true rfl) (c_X4_look_e hl false _ _ _ _ (sp_T S 1) q ht1 (by omega))) (Nat.le_of_ble_eq_true rfl) ⟨(Nat.le_of_ble_eq_true rfl), (Nat.le_of_ble_eq_true rfl)⟩ rfl (Nat.le_of_ble_eq_true rfl) rfl rfl (fun _ _ h => h.elim) ?_
    rintro _ _ ⟨_, _, ⟨rfl, rfl⟩, rfl, rfl⟩
    refine j_ws (L' := z_cw _ _ _ _ _ _ _ _ _ _ _ _ _ _ _ _ _ _ _ _ _ _ _ _ _ _ _ _ _ _ _ _ _ _ _ _ _ _ _ _ _ _ _ _ _ _ _ _ _ _ _ _ _ _ _ _ []) (by decide) rfl rfl ?_
    refine j_iload_n dX8_replaceIf_23 rfl ?_
    refine j_icmp_eq (tgt := 29) dX8_replaceIf_24 (by decide) (fun c_24 => ?_) (fun c_24 => ?_)
    · have e9 : sp_rif (sp_srt 1) (sp_T S 1) (sp_C S 2) q o y = (some 1, (sp_pt (sp_srt 1) (sp_T S 1) q y), z_bp (sp_C S 2) 5) := if_pos c_24
      refine j_aload dX8_replaceIf_29 rfl rfl ?_
      refine j_iload_n dX8_replaceIf_31 rfl ?_
      refine j_iload dX8_replaceIf_32 rfl ?_
      refine j_callV (q := (RX4, TX4, 5)) dX8_replaceIf_34 kX4_store lX8_130 inX4_store seX4_store rfl rfl (z_frame [16, 17, 18, 19, 20] rfl (by decide) (Nat.le_of_ble_eq_true rfl) (c_X4_store_e hl false _ _ _ (sp_T S 1) q y ht1 (by omega) (sp_vl hc14))) (Nat.le_of_ble_eq_true rfl) ⟨(Nat.le_of_ble_eq_true rfl), (Nat.le_of_ble_eq_true rfl)⟩ rfl (Nat.le_of_ble_eq_true rfl) rfl rfl (fun _ _ h => h.elim) ?_
      rintro _ _ ⟨_, _, ⟨rfl, f9, g9, ht9, rfl⟩, rfl, rfl⟩
      refine j_ws (L' := z_cw _ _ _ _ _ _ _ _ _ _ _ _ _ _ _ _ _ _ _ _ _ _ _ _ _ _ _ _ _ _ _ _ _ _ _ _ _ _ _ _ _ _ _ _ _ _ _ _ _ _ _ _ _ _ _ _ []) (by decide) rfl rfl ?_
      refine j_pop dX8_replaceIf_37 rfl ?_
      refine j_iconst (v := 1) dX8_replaceIf_38 (by decide) ?_
      refine j_iret dX8_replaceIf_39 rfl rfl ?_ (Nat.le_of_ble_eq_true rfl) (Nat.le_of_ble_eq_true rfl)
      refine ⟨rfl, (by first | exact z_cwl | rfl), ?_⟩
      rw [sp_i1, sp_in' (n := q) (by omega)]
      rw [e9]
      exact ⟨sp_k32_0 (Or.inr (Or.inl rfl)) (fun z => z.elim hk0 (fun z => z.elim hc9 hc14)), rfl, (sp_CWe hra hrb ht0 ht9 ht2 he0 he1 hzm3 hzm4 hzm5 rfl)⟩
    · have e9 : sp_rif (sp_srt 1) (sp_T S 1) (sp_C S 2) q o y = (some 0, (sp_T S 1), (sp_C S 2)) := if_neg c_24
      refine j_iconst (v := 0) dX8_replaceIf_27 (by decide) ?_
      refine j_iret dX8_replaceIf_28 rfl rfl ?_ (Nat.le_of_ble_eq_true rfl) (Nat.le_of_ble_eq_true rfl)
      refine ⟨rfl, (by first | exact z_cwl | rfl), ?_⟩
      rw [sp_i1, sp_in' (n := q) (by omega)]
      rw [e9]
      exact ⟨sp_k32_0 (Or.inr (Or.inl rfl)) (fun z => z.elim hk0 (fun z => z.elim hc9 hc14)), rfl, (sp_CWe hra hrb ht0 ht1 ht2 he0 he1 hzm3 hzm4 hzm5 rfl)⟩
  · subst e_3
    refine j_astore (lo' := [(5, _), (0, _), (1, _), (2, _), (3, _), (4, _)]) dX8_replaceIf_6 rfl (by decide) rfl ?_
    refine j_iload_n dX8_replaceIf_8 rfl ?_
    refine j_callS dX8_replaceIf_9 kX8_checkValue lX8_50 stX8_checkValue (c_X8_checkValue_e hl _ _) (Nat.le_of_ble_eq_true rfl) ⟨(Nat.le_of_ble_eq_true rfl), (Nat.le_of_ble_eq_true rfl)⟩ rfl (Nat.le_of_ble_eq_true rfl) rfl rfl (fun _ _ h => by obtain ⟨h1, rfl⟩ := h; exact ⟨rfl, rfl, Or.inr ⟨h1.1, sp_k32_2 (Or.inr (Or.inr rfl)) (Or.inr <| Or.inl h1.2)⟩, rfl⟩) ?_
    rintro _ _ ⟨⟨rfl, hc9⟩, rfl⟩
    refine j_iload dX8_replaceIf_12 rfl ?_
    refine j_callS dX8_replaceIf_14 kX8_checkValue lX8_50 stX8_checkValue (c_X8_checkValue_e hl _ _) (Nat.le_of_ble_eq_true rfl) ⟨(Nat.le_of_ble_eq_true rfl), (Nat.le_of_ble_eq_true rfl)⟩ rfl (Nat.le_of_ble_eq_true rfl) rfl rfl (fun _ _ h => by obtain ⟨h1, rfl⟩ := h; exact ⟨rfl, rfl, Or.inr ⟨h1.1, sp_k32_2 (Or.inr (Or.inr rfl)) (Or.inr <| Or.inr h1.2)⟩, rfl⟩) ?_
    rintro _ _ ⟨⟨rfl, hc14⟩, rfl⟩
    refine j_aload dX8_replaceIf_17 rfl rfl ?_
    refine j_iload_n dX8_replaceIf_19 rfl ?_
    refine j_callV (q := (RX4, TX4, 5)) dX8_replaceIf_20 kX4_look lX8_137 inX4_look seX4_look rfl rfl (z_frame [21, 22, 23, 24, 25] rfl (by decide) (Nat.le_of_ble_eq_true rfl) (c_X4_look_e hl true _ _ _ _ (sp_T S 2) q ht2 (by omega))) (Nat.le_of_ble_eq_true rfl) ⟨(Nat.le_of_ble_eq_true rfl), (Nat.le_of_ble_eq_true rfl)⟩ rfl (Nat.le_of_ble_eq_true rfl) rfl rfl (fun _ _ h => h.elim) ?_
    rintro _ _ ⟨_, _, ⟨rfl, rfl⟩, rfl, rfl⟩
    refine j_ws (L' := z_cw _ _ _ _ _ _ _ _ _ _ _ _ _ _ _ _ _ _ _ _ _ _ _ _ _ _ _ _ _ _ _ _ _ _ _ _ _ _ _ _ _ _ _ _ _ _ _ _ _ _ _ _ _ _ _ _ []) (by decide) rfl rfl ?_
    refine j_iload_n dX8_replaceIf_23 rfl ?_
    refine j_icmp_eq (tgt := 29) dX8_replaceIf_24 (by decide) (fun c_24 => ?_) (fun c_24 => ?_)
    · have e9 : sp_rif (sp_srt 2) (sp_T S 2) (sp_C S 2) q o y = (some 1, (sp_pt (sp_srt 2) (sp_T S 2) q y), z_bp (sp_C S 2) 5) := if_pos c_24
      refine j_aload dX8_replaceIf_29 rfl rfl ?_
      refine j_iload_n dX8_replaceIf_31 rfl ?_
      refine j_iload dX8_replaceIf_32 rfl ?_
      refine j_callV (q := (RX4, TX4, 5)) dX8_replaceIf_34 kX4_store lX8_130 inX4_store seX4_store rfl rfl (z_frame [21, 22, 23, 24, 25] rfl (by decide) (Nat.le_of_ble_eq_true rfl) (c_X4_store_e hl true _ _ _ (sp_T S 2) q y ht2 (by omega) (sp_vl hc14))) (Nat.le_of_ble_eq_true rfl) ⟨(Nat.le_of_ble_eq_true rfl), (Nat.le_of_ble_eq_true rfl)⟩ rfl (Nat.le_of_ble_eq_true rfl) rfl rfl (fun _ _ h => h.elim) ?_
      rintro _ _ ⟨_, _, ⟨rfl, f9, g9, ht9, rfl⟩, rfl, rfl⟩
      refine j_ws (L' := z_cw _ _ _ _ _ _ _ _ _ _ _ _ _ _ _ _ _ _ _ _ _ _ _ _ _ _ _ _ _ _ _ _ _ _ _ _ _ _ _ _ _ _ _ _ _ _ _ _ _ _ _ _ _ _ _ _ []) (by decide) rfl rfl ?_
      refine j_pop dX8_replaceIf_37 rfl ?_
      refine j_iconst (v := 1) dX8_replaceIf_38 (by decide) ?_
      refine j_iret dX8_replaceIf_39 rfl rfl ?_ (Nat.le_of_ble_eq_true rfl) (Nat.le_of_ble_eq_true rfl)
      refine ⟨rfl, (by first | exact z_cwl | rfl), ?_⟩
      rw [sp_i2, sp_in' (n := q) (by omega)]
      rw [e9]
      exact ⟨sp_k32_0 (Or.inr (Or.inr rfl)) (fun z => z.elim hk0 (fun z => z.elim hc9 hc14)), rfl, (sp_CWe hra hrb ht0 ht1 ht9 he0 he1 hzm3 hzm4 hzm5 rfl)⟩
    · have e9 : sp_rif (sp_srt 2) (sp_T S 2) (sp_C S 2) q o y = (some 0, (sp_T S 2), (sp_C S 2)) := if_neg c_24
      refine j_iconst (v := 0) dX8_replaceIf_27 (by decide) ?_
      refine j_iret dX8_replaceIf_28 rfl rfl ?_ (Nat.le_of_ble_eq_true rfl) (Nat.le_of_ble_eq_true rfl)
      refine ⟨rfl, (by first | exact z_cwl | rfl), ?_⟩
      rw [sp_i2, sp_in' (n := q) (by omega)]
      rw [e9]
      exact ⟨sp_k32_0 (Or.inr (Or.inr rfl)) (fun z => z.elim hk0 (fun z => z.elim hc9 hc14)), rfl, (sp_CWe hra hrb ht0 ht1 ht2 he0 he1 hzm3 hzm4 hzm5 rfl)⟩
set_option maxRecDepth 100000 in
set_option maxHeartbeats 8000000 in
theorem c_X8_removePair_p (hl : l.stackTraces = false) (S : sp_S) (fa : Nat → Int32) (fb : Nat → Int32) (mt : Int32) (ft : Nat → Int32) (ct : Nat → Int32) (f0 : Nat → Int32) (g0 : Nat → Int32) (f1 : Nat → Int32) (g1 : Nat → Int32) (c1 : Nat → Int32) (f2 : Nat → Int32) (g2 : Nat → Int32) (c2 : Nat → Int32) (f3 : Nat → Int32) (g3 : Nat → Int32) (c3 : Nat → Int32) (m3 : Int32) (f4 : Nat → Int32) (g4 : Nat → Int32) (c4 : Nat → Int32) (m4 : Int32) (f5 : Nat → Int32) (g5 : Nat → Int32) (c5 : Nat → Int32) (m5 : Int32) (ef0 : Nat → Int32) (ef1 : Nat → Int32) (t : Int32) (k : Int32) (y : Int32) (ok : sp_ok S) (hra : z_row 12 (nI (sp_R S 0).length) fa (sp_R S 0)) (hrb : z_row 12 (nI (sp_R S 1).length) fb (sp_R S 1)) (ht0 : z_tba f0 g0 (sp_T S 0)) (ht1 : z_tba f1 g1 (sp_T S 1)) (ht2 : z_tba f2 g2 (sp_T S 2)) (he0 : z_row 10 (nI (sp_E S 0).2.length) ef0 (sp_E S 0).2) (he1 : z_row 10 (nI (sp_E S 1).2.length) ef1 (sp_E S 1).2) (hzm3 : z_m20 m3) (hzm4 : z_m20 m4) (hzm5 : z_m20 m5) : z_CX G l mX8_removePair 20 14 120 (z_cw S.1.1 S.1.2 (nI (sp_R S 0).length) (sp_F S 0) fa (sp_C S 0) (nI (sp_R S 1).length) (sp_F S 1) fb (sp_C S 1) mt false ft ct f0 g0 (sp_C S 2) (nI (sp_T S 0).length) 0 f1 g1 c1 (nI (sp_T S 1).length) 0 f2 g2 c2 (nI (sp_T S 2).length) 1 f3 g3 c3 m3 0 f4 g4 c4 m4 0 f5 g5 c5 m5 1 (nI (sp_E S 0).2.length) (sp_E S 0).1.2.1 (sp_E S 0).1.2.2.1 (sp_E S 0).1.2.2.2 (sp_E S 0).1.1 ef0 (nI (sp_E S 1).2.length) (sp_E S 1).1.2.1 (sp_E S 1).1.2.2.1 (sp_E S 1).1.2.2.2 (sp_E S 1).1.1 ef1 []) [.ref 0, .int t, .int k, .int y] (fun v L => sp_k32 t (sp_bk k ∨ sp_bv y) = 0 ∧ v = some (.int ((sp_rmp (sp_T S (sp_i t)) (sp_C S 2) (sp_i k) y).1.getD (-9))) ∧ sp_CW (sp_tb S (sp_i t) (sp_rmp (sp_T S (sp_i t)) (sp_C S 2) (sp_i k) y)) L) (fun E L => ((z_xI E ∧ sp_k32 t (sp_bk k ∨ sp_bv y) = 1) ∨ (z_xA E ∧ sp_k32 t (sp_bk k ∨ sp_bv y) = 2)) ∧ L = (z_cw S.1.1 S.1.2 (nI (sp_R S 0).length) (sp_F S 0) fa (sp_C S 0) (nI (sp_R S 1).length) (sp_F S 1) fb (sp_C S 1) mt false ft ct f0 g0 (sp_C S 2) (nI (sp_T S 0).length) 0 f1 g1 c1 (nI (sp_T S 1).length) 0 f2 g2 c2 (nI (sp_T S 2).length) 1 f3 g3 c3 m3 0 f4 g4 c4 m4 0 f5 g5 c5 m5 1 (nI (sp_E S 0).2.length) (sp_E S 0).1.2.1 (sp_E S 0).1.2.2.1 (sp_E S 0).1.2.2.2 (sp_E S 0).1.1 ef0 (nI (sp_E S 1).2.length) (sp_E S 1).1.2.1 (sp_E S 1).1.2.2.1 (sp_E S 1).1.2.2.2 (sp_E S 1).1.1 ef1 [])) := by
  refine z_body hl (by decide) rfl (Nat.le_of_ble_eq_true rfl) ?_
  show z_J G l mX8_removePair (z_SX 20 14 120 (z_cw S.1.1 S.1.2 (nI (sp_R S 0).length) (sp_F S 0) fa (sp_C S 0) (nI (sp_R S 1).length) (sp_F S 1) fb (sp_C S 1) mt false ft ct f0 g0 (sp_C S 2) (nI (sp_T S 0).length) 0 f1 g1 c1 (nI (sp_T S 1).length) 0 f2 g2 c2 (nI (sp_T S 2).length) 1 f3 g3 c3 m3 0 f4 g4 c4 m4 0 f5 g5 c5 m5 1 (nI (sp_E S 0).2.length) (sp_E S 0).1.2.1 (sp_E S 0).1.2.2.1 (sp_E S 0).1.2.2.2 (sp_E S 0).1.1 ef0 (nI (sp_E S 1).2.length) (sp_E S 1).1.2.1 (sp_E S 1).1.2.2.1 (sp_E S 1).1.2.2.2 (sp_E S 1).1.1 ef1 []) (fun v L => sp_k32 t (sp_bk k ∨ sp_bv y) = 0 ∧ v = some (.int ((sp_rmp (sp_T S (sp_i t)) (sp_C S 2) (sp_i k) y).1.getD (-9))) ∧ sp_CW (sp_tb S (sp_i t) (sp_rmp (sp_T S (sp_i t)) (sp_C S 2) (sp_i k) y)) L) (fun E L => ((z_xI E ∧ sp_k32 t (sp_bk k ∨ sp_bv y) = 1) ∨ (z_xA E ∧ sp_k32 t (sp_bk k ∨ sp_bv y) = 2)) ∧ L = (z_cw S.1.1 S.1.2 (nI (sp_R S 0).length) (sp_F S 0) fa (sp_C S 0) (nI (sp_R S 1).length) (sp_F S 1) fb (sp_C S 1) mt false ft ct f0 g0 (sp_C S 2) (nI (sp_T S 0).length) 0 f1 g1 c1 (nI (sp_T S 1).length) 0 f2 g2 c2 (nI (sp_T S 2).length) 1 f3 g3 c3 m3 0 f4 g4 c4 m4 0 f5 g5 c5 m5 1 (nI (sp_E S 0).2.length) (sp_E S 0).1.2.1 (sp_E S 0).1.2.2.1 (sp_E S 0).1.2.2.2 (sp_E S 0).1.1 ef0 (nI (sp_E S 1).2.length) (sp_E S 1).1.2.1 (sp_E S 1).1.2.2.1 (sp_E S 1).1.2.2.2 (sp_E S 1).1.1 ef1 []))) 0 [(0, _), (1, _), (2, _), (3, _)] [] _ 0 0
  refine j_aload_n dX8_removePair_0 rfl rfl ?_
  refine j_iload_n dX8_removePair_1 rfl ?_
  refine j_iload_n dX8_removePair_2 rfl ?_
  refine j_callV (q := (RX8, TX8, 9)) dX8_removePair_3 kX8_tableFor_ lX8_126 inX8_tableFor_ seX8_tableFor_ rfl rfl (z_dirX (c_X8_tableFor__e hl _ _ _ _ _ _ _ _ _ _ _ _ _ _ _ _ _ _ _ _ _ _ _ _ _ _ _ _ _ _ _ _ _ _ _ _ _ _ _ _ _ _ _ _ _ _ _ _ _ _ _ _ _ _ _ _ _ _)) (Nat.le_of_ble_eq_true rfl) ⟨(Nat.le_of_ble_eq_true rfl), (Nat.le_of_ble_eq_true rfl)⟩ rfl (Nat.le_of_ble_eq_true rfl) rfl rfl (fun _ _ h => by obtain ⟨_, ⟨h1, rfl⟩, rfl⟩ := h; exact ⟨rfl, rfl, h1.elim (fun z => Or.inl ⟨z.1, sp_k32_1 z.2⟩) (fun z => Or.inr ⟨z.1, sp_k32_2 z.2.1 (Or.inl (z.2.2))⟩), rfl⟩) ?_
  rintro _ _ ⟨_, ⟨_, rfl, hr, hk3, rfl⟩, rfl⟩
  have hk0 := hk3
  obtain ⟨q, hq, rfl⟩ := sp_nt (m := 19) rfl (by decide) hk0
  rcases hr with ⟨e_3, rfl⟩ | ⟨e_3, rfl⟩ | ⟨e_3, rfl⟩
  · subst e_3
    refine j_astore (lo' := [(4, _), (0, _), (1, _), (2, _), (3, _)]) dX8_removePair_6 rfl (by decide) rfl ?_
    refine j_iload_n dX8_removePair_8 rfl ?_
    refine j_callS dX8_removePair_9 kX8_checkValue lX8_50 stX8_checkValue (c_X8_checkValue_e hl _ _) (Nat.le_of_ble_eq_true rfl) ⟨(Nat.le_of_ble_eq_true rfl), (Nat.le_of_ble_eq_true rfl)⟩ rfl (Nat.le_of_ble_eq_true rfl) rfl rfl (fun _ _ h => by obtain ⟨h1, rfl⟩ := h; exact ⟨rfl, rfl, Or.inr ⟨h1.1, sp_k32_2 (Or.inl rfl) (Or.inr h1.2)⟩, rfl⟩) ?_
    rintro _ _ ⟨⟨rfl, hc9⟩, rfl⟩
    refine j_aload dX8_removePair_12 rfl rfl ?_
    refine j_iload_n dX8_removePair_14 rfl ?_
    refine j_callV (q := (RX4, TX4, 5)) dX8_removePair_15 kX4_look lX8_137 inX4_look seX4_look rfl rfl (z_frame [10, 11, 12, 13, 14] rfl (by decide) (Nat.le_of_ble_eq_true rfl) (c_X4_look_e hl false _ _ _ _ (sp_T S 0) q ht0 (by omega))) (Nat.le_of_ble_eq_true rfl) ⟨(Nat.le_of_ble_eq_true rfl), (Nat.le_of_ble_eq_true rfl)⟩ rfl (Nat.le_of_ble_eq_true rfl) rfl rfl (fun _ _ h => h.elim) ?_
    rintro _ _ ⟨_, _, ⟨rfl, rfl⟩, rfl, rfl⟩
    refine j_ws (L' := z_cw _ _ _ _ _ _ _ _ _ _ _ _ _ _ _ _ _ _ _ _ _ _ _ _ _ _ _ _ _ _ _ _ _ _ _ _ _ _ _ _ _ _ _ _ _ _ _ _ _ _ _ _ _ _ _ _ []) (by decide) rfl rfl ?_
    refine j_iload_n dX8_removePair_18 rfl ?_
    refine j_icmp_eq (tgt := 24) dX8_removePair_19 (by decide) (fun c_19 => ?_) (fun c_19 => ?_)
    · have e9 : sp_rmp (sp_T S 0) (sp_C S 2) q y = (some 1, sp_go (sp_T S 0) q, z_bp (sp_C S 2) 6) := if_pos c_19
      refine j_aload dX8_removePair_24 rfl rfl ?_
      refine j_iload_n dX8_removePair_26 rfl ?_
      refine j_callV (q := (RX4, TX4, 5)) dX8_removePair_27 kX4_sendAway lX8_134 inX4_sendAway seX4_sendAway rfl rfl (z_frame [10, 11, 12, 13, 14] rfl (by decide) (Nat.le_of_ble_eq_true rfl) (c_X4_sendAway_e hl false _ _ _ (sp_T S 0) q ht0 (by omega))) (Nat.le_of_ble_eq_true rfl) ⟨(Nat.le_of_ble_eq_true rfl), (Nat.le_of_ble_eq_true rfl)⟩ rfl (Nat.le_of_ble_eq_true rfl) rfl rfl (fun _ _ h => h.elim) ?_
      rintro _ _ ⟨_, _, ⟨rfl, f9, g9, ht9, rfl⟩, rfl, rfl⟩
      refine j_ws (L' := z_cw _ _ _ _ _ _ _ _ _ _ _ _ _ _ _ _ _ _ _ _ _ _ _ _ _ _ _ _ _ _ _ _ _ _ _ _ _ _ _ _ _ _ _ _ _ _ _ _ _ _ _ _ _ _ _ _ []) (by decide) rfl rfl ?_
      refine j_pop dX8_removePair_30 rfl ?_
      refine j_iconst (v := 1) dX8_removePair_31 (by decide) ?_
      refine j_iret dX8_removePair_32 rfl rfl ?_ (Nat.le_of_ble_eq_true rfl) (Nat.le_of_ble_eq_true rfl)
      refine ⟨rfl, (by first | exact z_cwl | rfl), ?_⟩
      rw [sp_i0, sp_in' (n := q) (by omega)]
      rw [e9]
      exact ⟨sp_k32_0 (Or.inl rfl) (fun z => z.elim hk0 hc9), rfl, (sp_CWe hra hrb ht9 ht1 ht2 he0 he1 hzm3 hzm4 hzm5 rfl)⟩
    · have e9 : sp_rmp (sp_T S 0) (sp_C S 2) q y = (some 0, (sp_T S 0), (sp_C S 2)) := if_neg c_19
      refine j_iconst (v := 0) dX8_removePair_22 (by decide) ?_
      refine j_iret dX8_removePair_23 rfl rfl ?_ (Nat.le_of_ble_eq_true rfl) (Nat.le_of_ble_eq_true rfl)
      refine ⟨rfl, (by first | exact z_cwl | rfl), ?_⟩
      rw [sp_i0, sp_in' (n := q) (by omega)]
      rw [e9]
      exact ⟨sp_k32_0 (Or.inl rfl) (fun z => z.elim hk0 hc9), rfl, (sp_CWe hra hrb ht0 ht1 ht2 he0 he1 hzm3 hzm4 hzm5 rfl)⟩
  · subst e_3
    refine j_astore (lo' := [(4, _), (0, _), (1, _), (2, _), (3, _)]) dX8_removePair_6 rfl (by decide) rfl ?_
    refine j_iload_n dX8_removePair_8 rfl ?_
    refine j_callS dX8_removePair_9 kX8_checkValue lX8_50 stX8_checkValue (c_X8_checkValue_e hl _ _) (Nat.le_of_ble_eq_true rfl) ⟨(Nat.le_of_ble_eq_true rfl), (Nat.le_of_ble_eq_true rfl)⟩ rfl (Nat.le_of_ble_eq_true rfl) rfl rfl (fun _ _ h => by obtain ⟨h1, rfl⟩ := h; exact ⟨rfl, rfl, Or.inr ⟨h1.1, sp_k32_2 (Or.inr (Or.inl rfl)) (Or.inr h1.2)⟩, rfl⟩) ?_
    rintro _ _ ⟨⟨rfl, hc9⟩, rfl⟩
    refine j_aload dX8_removePair_12 rfl rfl ?_
    refine j_iload_n dX8_removePair_14 rfl ?_
    refine j_callV (q := (RX4, TX4, 5)) dX8_removePair_15 kX4_look lX8_137 inX4_look seX4_look rfl rfl (z_frame [16, 17, 18, 19, 20] rfl (by decide) (Nat.le_of_ble_eq_true rfl) (c_X4_look_e hl false _ _ _ _ (sp_T S 1) q ht1 (by omega))) (Nat.le_of_ble_eq_true rfl) ⟨(Nat.le_of_ble_eq_true rfl), (Nat.le_of_ble_eq_true rfl)⟩ rfl (Nat.le_of_ble_eq_true rfl) rfl rfl (fun _ _ h => h.elim) ?_
    rintro _ _ ⟨_, _, ⟨rfl, rfl⟩, rfl, rfl⟩
    refine j_ws (L' := z_cw _ _ _ _ _ _ _ _ _ _ _ _ _ _ _ _ _ _ _ _ _ _ _ _ _ _ _ _ _ _ _ _ _ _ _ _ _ _ _ _ _ _ _ _ _ _ _ _ _ _ _ _ _ _ _ _ []) (by decide) rfl rfl ?_
    refine j_iload_n dX8_removePair_18 rfl ?_
    refine j_icmp_eq (tgt := 24) dX8_removePair_19 (by decide) (fun c_19 => ?_) (fun c_19 => ?_)
    · have e9 : sp_rmp (sp_T S 1) (sp_C S 2) q y = (some 1, sp_go (sp_T S 1) q, z_bp (sp_C S 2) 6) := if_pos c_19
      refine j_aload dX8_removePair_24 rfl rfl ?_
      refine j_iload_n dX8_removePair_26 rfl ?_
      refine j_callV (q := (RX4, TX4, 5)) dX8_removePair_27 kX4_sendAway lX8_134 inX4_sendAway seX4_sendAway rfl rfl (z_frame [16, 17, 18, 19, 20] rfl (by decide) (Nat.le_of_ble_eq_true rfl) (c_X4_sendAway_e hl false _ _ _ (sp_T S 1) q ht1 (by omega))) (Nat.le_of_ble_eq_true rfl) ⟨(Nat.le_of_ble_eq_true rfl), (Nat.le_of_ble_eq_true rfl)⟩ rfl (Nat.le_of_ble_eq_true rfl) rfl rfl (fun _ _ h => h.elim) ?_
      rintro _ _ ⟨_, _, ⟨rfl, f9, g9, ht9, rfl⟩, rfl, rfl⟩
      refine j_ws (L' := z_cw _ _ _ _ _ _ _ _ _ _ _ _ _ _ _ _ _ _ _ _ _ _ _ _ _ _ _ _ _ _ _ _ _ _ _ _ _ _ _ _ _ _ _ _ _ _ _ _ _ _ _ _ _ _ _ _ []) (by decide) rfl rfl ?_
      refine j_pop dX8_removePair_30 rfl ?_
      refine j_iconst (v := 1) dX8_removePair_31 (by decide) ?_
      refine j_iret dX8_removePair_32 rfl rfl ?_ (Nat.le_of_ble_eq_true rfl) (Nat.le_of_ble_eq_true rfl)
      refine ⟨rfl, (by first | exact z_cwl | rfl), ?_⟩
      rw [sp_i1, sp_in' (n := q) (by omega)]
      rw [e9]
      exact ⟨sp_k32_0 (Or.inr (Or.inl rfl)) (fun z => z.elim hk0 hc9), rfl, (sp_CWe hra hrb ht0 ht9 ht2 he0 he1 hzm3 hzm4 hzm5 rfl)⟩
    · have e9 : sp_rmp (sp_T S 1) (sp_C S 2) q y = (some 0, (sp_T S 1), (sp_C S 2)) := if_neg c_19
      refine j_iconst (v := 0) dX8_removePair_22 (by decide) ?_
      refine j_iret dX8_removePair_23 rfl rfl ?_ (Nat.le_of_ble_eq_true rfl) (Nat.le_of_ble_eq_true rfl)
      refine ⟨rfl, (by first | exact z_cwl | rfl), ?_⟩
      rw [sp_i1, sp_in' (n := q) (by omega)]
      rw [e9]
      exact ⟨sp_k32_0 (Or.inr (Or.inl rfl)) (fun z => z.elim hk0 hc9), rfl, (sp_CWe hra hrb ht0 ht1 ht2 he0 he1 hzm3 hzm4 hzm5 rfl)⟩
  · subst e_3
    refine j_astore (lo' := [(4, _), (0, _), (1, _), (2, _), (3, _)]) dX8_removePair_6 rfl (by decide) rfl ?_
    refine j_iload_n dX8_removePair_8 rfl ?_
    refine j_callS dX8_removePair_9 kX8_checkValue lX8_50 stX8_checkValue (c_X8_checkValue_e hl _ _) (Nat.le_of_ble_eq_true rfl) ⟨(Nat.le_of_ble_eq_true rfl), (Nat.le_of_ble_eq_true rfl)⟩ rfl (Nat.le_of_ble_eq_true rfl) rfl rfl (fun _ _ h => by obtain ⟨h1, rfl⟩ := h; exact ⟨rfl, rfl, Or.inr ⟨h1.1, sp_k32_2 (Or.inr (Or.inr rfl)) (Or.inr h1.2)⟩, rfl⟩) ?_
    rintro _ _ ⟨⟨rfl, hc9⟩, rfl⟩
    refine j_aload dX8_removePair_12 rfl rfl ?_
    refine j_iload_n dX8_removePair_14 rfl ?_
    refine j_callV (q := (RX4, TX4, 5)) dX8_removePair_15 kX4_look lX8_137 inX4_look seX4_look rfl rfl (z_frame [21, 22, 23, 24, 25] rfl (by decide) (Nat.le_of_ble_eq_true rfl) (c_X4_look_e hl true _ _ _ _ (sp_T S 2) q ht2 (by omega))) (Nat.le_of_ble_eq_true rfl) ⟨(Nat.le_of_ble_eq_true rfl), (Nat.le_of_ble_eq_true rfl)⟩ rfl (Nat.le_of_ble_eq_true rfl) rfl rfl (fun _ _ h => h.elim) ?_
    rintro _ _ ⟨_, _, ⟨rfl, rfl⟩, rfl, rfl⟩
    refine j_ws (L' := z_cw _ _ _ _ _ _ _ _ _ _ _ _ _ _ _ _ _ _ _ _ _ _ _ _ _ _ _ _ _ _ _ _ _ _ _ _ _ _ _ _ _ _ _ _ _ _ _ _ _ _ _ _ _ _ _ _ []) (by decide) rfl rfl ?_
    refine j_iload_n dX8_removePair_18 rfl ?_
    refine j_icmp_eq (tgt := 24) dX8_removePair_19 (by decide) (fun c_19 => ?_) (fun c_19 => ?_)
    · have e9 : sp_rmp (sp_T S 2) (sp_C S 2) q y = (some 1, sp_go (sp_T S 2) q, z_bp (sp_C S 2) 6) := if_pos c_19
      refine j_aload dX8_removePair_24 rfl rfl ?_
      refine j_iload_n dX8_removePair_26 rfl ?_
      refine j_callV (q := (RX4, TX4, 5)) dX8_removePair_27 kX4_sendAway lX8_134 inX4_sendAway seX4_sendAway rfl rfl (z_frame [21, 22, 23, 24, 25] rfl (by decide) (Nat.le_of_ble_eq_true rfl) (c_X4_sendAway_e hl true _ _ _ (sp_T S 2) q ht2 (by omega))) (Nat.le_of_ble_eq_true rfl) ⟨(Nat.le_of_ble_eq_true rfl), (Nat.le_of_ble_eq_true rfl)⟩ rfl (Nat.le_of_ble_eq_true rfl) rfl rfl (fun _ _ h => h.elim) ?_
      rintro _ _ ⟨_, _, ⟨rfl, f9, g9, ht9, rfl⟩, rfl, rfl⟩
      refine j_ws (L' := z_cw _ _ _ _ _ _ _ _ _ _ _ _ _ _ _ _ _ _ _ _ _ _ _ _ _ _ _ _ _ _ _ _ _ _ _ _ _ _ _ _ _ _ _ _ _ _ _ _ _ _ _ _ _ _ _ _ []) (by decide) rfl rfl ?_
      refine j_pop dX8_removePair_30 rfl ?_
      refine j_iconst (v := 1) dX8_removePair_31 (by decide) ?_
      refine j_iret dX8_removePair_32 rfl rfl ?_ (Nat.le_of_ble_eq_true rfl) (Nat.le_of_ble_eq_true rfl)
      refine ⟨rfl, (by first | exact z_cwl | rfl), ?_⟩
      rw [sp_i2, sp_in' (n := q) (by omega)]
      rw [e9]
      exact ⟨sp_k32_0 (Or.inr (Or.inr rfl)) (fun z => z.elim hk0 hc9), rfl, (sp_CWe hra hrb ht0 ht1 ht9 he0 he1 hzm3 hzm4 hzm5 rfl)⟩
    · have e9 : sp_rmp (sp_T S 2) (sp_C S 2) q y = (some 0, (sp_T S 2), (sp_C S 2)) := if_neg c_19
      refine j_iconst (v := 0) dX8_removePair_22 (by decide) ?_
      refine j_iret dX8_removePair_23 rfl rfl ?_ (Nat.le_of_ble_eq_true rfl) (Nat.le_of_ble_eq_true rfl)
      refine ⟨rfl, (by first | exact z_cwl | rfl), ?_⟩
      rw [sp_i2, sp_in' (n := q) (by omega)]
      rw [e9]
      exact ⟨sp_k32_0 (Or.inr (Or.inr rfl)) (fun z => z.elim hk0 hc9), rfl, (sp_CWe hra hrb ht0 ht1 ht2 he0 he1 hzm3 hzm4 hzm5 rfl)⟩
set_option maxRecDepth 100000 in
set_option maxHeartbeats 8000000 in
theorem c_X8_computeIfAbsent_p (hl : l.stackTraces = false) (S : sp_S) (fa : Nat → Int32) (fb : Nat → Int32) (mt : Int32) (ft : Nat → Int32) (ct : Nat → Int32) (f0 : Nat → Int32) (g0 : Nat → Int32) (f1 : Nat → Int32) (g1 : Nat → Int32) (c1 : Nat → Int32) (f2 : Nat → Int32) (g2 : Nat → Int32) (c2 : Nat → Int32) (f3 : Nat → Int32) (g3 : Nat → Int32) (c3 : Nat → Int32) (m3 : Int32) (f4 : Nat → Int32) (g4 : Nat → Int32) (c4 : Nat → Int32) (m4 : Int32) (f5 : Nat → Int32) (g5 : Nat → Int32) (c5 : Nat → Int32) (m5 : Int32) (ef0 : Nat → Int32) (ef1 : Nat → Int32) (t : Int32) (k : Int32) (r : Int32) (n : Int32) (ok : sp_ok S) (hra : z_row 12 (nI (sp_R S 0).length) fa (sp_R S 0)) (hrb : z_row 12 (nI (sp_R S 1).length) fb (sp_R S 1)) (ht0 : z_tba f0 g0 (sp_T S 0)) (ht1 : z_tba f1 g1 (sp_T S 1)) (ht2 : z_tba f2 g2 (sp_T S 2)) (he0 : z_row 10 (nI (sp_E S 0).2.length) ef0 (sp_E S 0).2) (he1 : z_row 10 (nI (sp_E S 1).2.length) ef1 (sp_E S 1).2) (hzm3 : z_m20 m3) (hzm4 : z_m20 m4) (hzm5 : z_m20 m5) : z_CX G l mX8_computeIfAbsent 20 14 120 (z_cw S.1.1 S.1.2 (nI (sp_R S 0).length) (sp_F S 0) fa (sp_C S 0) (nI (sp_R S 1).length) (sp_F S 1) fb (sp_C S 1) mt false ft ct f0 g0 (sp_C S 2) (nI (sp_T S 0).length) 0 f1 g1 c1 (nI (sp_T S 1).length) 0 f2 g2 c2 (nI (sp_T S 2).length) 1 f3 g3 c3 m3 0 f4 g4 c4 m4 0 f5 g5 c5 m5 1 (nI (sp_E S 0).2.length) (sp_E S 0).1.2.1 (sp_E S 0).1.2.2.1 (sp_E S 0).1.2.2.2 (sp_E S 0).1.1 ef0 (nI (sp_E S 1).2.length) (sp_E S 1).1.2.1 (sp_E S 1).1.2.2.1 (sp_E S 1).1.2.2.2 (sp_E S 1).1.1 ef1 []) [.ref 0, .int t, .int k, .int r, .int n] (fun v L => sp_k32 t (sp_bk k ∨ (r < 0 ∨ 5 < r) ∨ sp_bv n) = 0 ∧ v = some (.int ((sp_cia (sp_srt (sp_i t)) (sp_T S (sp_i t)) (sp_C S 2) (sp_i k) r n).1.getD (-9))) ∧ sp_CW (sp_tb S (sp_i t) (sp_cia (sp_srt (sp_i t)) (sp_T S (sp_i t)) (sp_C S 2) (sp_i k) r n)) L) (fun E L => ((z_xI E ∧ sp_k32 t (sp_bk k ∨ (r < 0 ∨ 5 < r) ∨ sp_bv n) = 1) ∨ (z_xA E ∧ sp_k32 t (sp_bk k ∨ (r < 0 ∨ 5 < r) ∨ sp_bv n) = 2)) ∧ L = (z_cw S.1.1 S.1.2 (nI (sp_R S 0).length) (sp_F S 0) fa (sp_C S 0) (nI (sp_R S 1).length) (sp_F S 1) fb (sp_C S 1) mt false ft ct f0 g0 (sp_C S 2) (nI (sp_T S 0).length) 0 f1 g1 c1 (nI (sp_T S 1).length) 0 f2 g2 c2 (nI (sp_T S 2).length) 1 f3 g3 c3 m3 0 f4 g4 c4 m4 0 f5 g5 c5 m5 1 (nI (sp_E S 0).2.length) (sp_E S 0).1.2.1 (sp_E S 0).1.2.2.1 (sp_E S 0).1.2.2.2 (sp_E S 0).1.1 ef0 (nI (sp_E S 1).2.length) (sp_E S 1).1.2.1 (sp_E S 1).1.2.2.1 (sp_E S 1).1.2.2.2 (sp_E S 1).1.1 ef1 [])) := by
  refine z_body hl (by decide) rfl (Nat.le_of_ble_eq_true rfl) ?_
  show z_J G l mX8_computeIfAbsent (z_SX 20 14 120 (z_cw S.1.1 S.1.2 (nI (sp_R S 0).length) (sp_F S 0) fa (sp_C S 0) (nI (sp_R S 1).length) (sp_F S 1) fb (sp_C S 1) mt false ft ct f0 g0 (sp_C S 2) (nI (sp_T S 0).length) 0 f1 g1 c1 (nI (sp_T S 1).length) 0 f2 g2 c2 (nI (sp_T S 2).length) 1 f3 g3 c3 m3 0 f4 g4 c4 m4 0 f5 g5 c5 m5 1 (nI (sp_E S 0).2.length) (sp_E S 0).1.2.1 (sp_E S 0).1.2.2.1 (sp_E S 0).1.2.2.2 (sp_E S 0).1.1 ef0 (nI (sp_E S 1).2.length) (sp_E S 1).1.2.1 (sp_E S 1).1.2.2.1 (sp_E S 1).1.2.2.2 (sp_E S 1).1.1 ef1 []) (fun v L => sp_k32 t (sp_bk k ∨ (r < 0 ∨ 5 < r) ∨ sp_bv n) = 0 ∧ v = some (.int ((sp_cia (sp_srt (sp_i t)) (sp_T S (sp_i t)) (sp_C S 2) (sp_i k) r n).1.getD (-9))) ∧ sp_CW (sp_tb S (sp_i t) (sp_cia (sp_srt (sp_i t)) (sp_T S (sp_i t)) (sp_C S 2) (sp_i k) r n)) L) (fun E L => ((z_xI E ∧ sp_k32 t (sp_bk k ∨ (r < 0 ∨ 5 < r) ∨ sp_bv n) = 1) ∨ (z_xA E ∧ sp_k32 t (sp_bk k ∨ (r < 0 ∨ 5 < r) ∨ sp_bv n) = 2)) ∧ L = (z_cw S.1.1 S.1.2 (nI (sp_R S 0).length) (sp_F S 0) fa (sp_C S 0) (nI (sp_R S 1).length) (sp_F S 1) fb (sp_C S 1) mt false ft ct f0 g0 (sp_C S 2) (nI (sp_T S 0).length) 0 f1 g1 c1 (nI (sp_T S 1).length) 0 f2 g2 c2 (nI (sp_T S 2).length) 1 f3 g3 c3 m3 0 f4 g4 c4 m4 0 f5 g5 c5 m5 1 (nI (sp_E S 0).2.length) (sp_E S 0).1.2.1 (sp_E S 0).1.2.2.1 (sp_E S 0).1.2.2.2 (sp_E S 0).1.1 ef0 (nI (sp_E S 1).2.length) (sp_E S 1).1.2.1 (sp_E S 1).1.2.2.1 (sp_E S 1).1.2.2.2 (sp_E S 1).1.1 ef1 []))) 0 [(0, _), (1, _), (2, _), (3, _), (4, _)] [] _ 0 0
  refine j_aload_n dX8_computeIfAbsent_0 rfl rfl ?_
  refine j_iload_n dX8_computeIfAbsent_1 rfl ?_
  refine j_iload_n dX8_computeIfAbsent_2 rfl ?_
  refine j_iload_n dX8_computeIfAbsent_3 rfl ?_
  refine j_iload dX8_computeIfAbsent_4 rfl ?_
  refine j_callV (q := (RX8, TX8, 9)) dX8_computeIfAbsent_6 kX8_tableToReckon lX8_140 inX8_tableToReckon seX8_tableToReckon rfl rfl (z_dirX (c_X8_tableToReckon_e hl _ _ _ _ _ _ _ _ _ _ _ _ _ _ _ _ _ _ _ _ _ _ _ _ _ _ _ _ _ _ _ _ _ _ _ _ _ _ _ _ _ _ _ _ _ _ _ _ _ _ _ _ _ _ _ _ _ _ _ _)) (Nat.le_of_ble_eq_true rfl) ⟨(Nat.le_of_ble_eq_true rfl), (Nat.le_of_ble_eq_true rfl)⟩ rfl (Nat.le_of_ble_eq_true rfl) rfl rfl (fun _ _ h => by obtain ⟨_, ⟨h1, rfl⟩, rfl⟩ := h; exact ⟨rfl, rfl, h1.elim (fun z => Or.inl ⟨z.1, sp_k32_1 z.2⟩) (fun z => Or.inr ⟨z.1, sp_k32_2 z.2.1 z.2.2⟩), rfl⟩) ?_
  rintro _ _ ⟨_, ⟨_, rfl, hr, hk6, rfl⟩, rfl⟩
  have hk0 := hk6
  obtain ⟨q, hq, rfl⟩ := sp_nt (m := 19) rfl (by decide) (fun z => hk0 (Or.inl z))
  rcases hr with ⟨e_6, rfl⟩ | ⟨e_6, rfl⟩ | ⟨e_6, rfl⟩
  · subst e_6
    refine j_astore (lo' := [(5, _), (0, _), (1, _), (2, _), (3, _), (4, _)]) dX8_computeIfAbsent_9 rfl (by decide) rfl ?_
    refine j_aload_n dX8_computeIfAbsent_11 rfl rfl ?_
    refine j_aload dX8_computeIfAbsent_12 rfl rfl ?_
    refine j_iload_n dX8_computeIfAbsent_14 rfl ?_
    refine j_iload_n dX8_computeIfAbsent_15 rfl ?_
    refine j_iload dX8_computeIfAbsent_16 rfl ?_
    refine j_callV (q := (RX4, TX4, 5)) dX8_computeIfAbsent_18 kX4_reckonAbsent lX8_144 inX4_reckonAbsent seX4_reckonAbsent rfl rfl (z_frame [10, 11, 12, 13, 14] rfl (by decide) (Nat.le_of_ble_eq_true rfl) (c_X4_reckonAbsent_c hl (sp_C S 2) false _ _ (sp_C S 2) (sp_T S 0) q r n ht0 (by omega) (sp_vl (fun z => hk0 (Or.inr (Or.inr z)))))) (Nat.le_of_ble_eq_true rfl) ⟨(Nat.le_of_ble_eq_true rfl), (Nat.le_of_ble_eq_true rfl)⟩ rfl (Nat.le_of_ble_eq_true rfl) rfl rfl (fun _ _ h => h.elim) ?_
    rintro _ _ ⟨_, _, ⟨rfl, f9, g9, ht9, rfl⟩, rfl, rfl⟩
    refine j_ws (L' := z_cw _ _ _ _ _ _ _ _ _ _ _ _ _ _ _ _ _ _ _ _ _ _ _ _ _ _ _ _ _ _ _ _ _ _ _ _ _ _ _ _ _ _ _ _ _ _ _ _ _ _ _ _ _ _ _ _ []) (by decide) rfl rfl ?_
    refine j_callV (q := (RX8, TX8, 9)) dX8_computeIfAbsent_21 kX8_answer lX8_100 inX8_answer seX8_answer rfl rfl (z_dirF (c_X8_answer_e hl _ _ _ _ _ _ _ _ _ _ _ _ _ _ _ _ _ _ _ _ _ _ _ _ _ _ _ _ _ _ _ _ _ _ _ _ _ _ _ _ _ _ _ _ _ _ _ _ _ _ _ _ _ _ _ _ (sp_cia false (sp_T S 0) (sp_C S 2) q r n).1 (sp_cia_n ht0.1 (sp_vl (fun z => hk0 (Or.inr (Or.inr z))))))) (Nat.le_of_ble_eq_true rfl) ⟨(Nat.le_of_ble_eq_true rfl), (Nat.le_of_ble_eq_true rfl)⟩ rfl (Nat.le_of_ble_eq_true rfl) rfl rfl (fun _ _ h => h.elim) ?_
    rintro _ _ ⟨_, ⟨rfl, rfl⟩, rfl⟩
    refine j_iret dX8_computeIfAbsent_24 rfl rfl ?_ (Nat.le_of_ble_eq_true rfl) (Nat.le_of_ble_eq_true rfl)
    refine ⟨rfl, (by first | exact z_cwl | rfl), ?_⟩
    rw [sp_i0, sp_in' (n := q) (by omega)]
    exact ⟨sp_k32_0 (Or.inl rfl) hk0, rfl, (sp_CWe hra hrb ht9 ht1 ht2 he0 he1 hzm3 hzm4 hzm5 rfl)⟩
  · subst e_6
    refine j_astore (lo' := [(5, _), (0, _), (1, _), (2, _), (3, _), (4, _)]) dX8_computeIfAbsent_9 rfl (by decide) rfl ?_
    refine j_aload_n dX8_computeIfAbsent_11 rfl rfl ?_
    refine j_aload dX8_computeIfAbsent_12 rfl rfl ?_
    refine j_iload_n dX8_computeIfAbsent_14 rfl ?_
    refine j_iload_n dX8_computeIfAbsent_15 rfl ?_
    refine j_iload dX8_computeIfAbsent_16 rfl ?_
    refine j_callV (q := (RX4, TX4, 5)) dX8_computeIfAbsent_18 kX4_reckonAbsent lX8_144 inX4_reckonAbsent seX4_reckonAbsent rfl rfl (z_frame [16, 17, 18, 19, 20] rfl (by decide) (Nat.le_of_ble_eq_true rfl) (c_X4_reckonAbsent_c hl (sp_C S 2) false _ _ _ (sp_T S 1) q r n ht1 (by omega) (sp_vl (fun z => hk0 (Or.inr (Or.inr z)))))) (Nat.le_of_ble_eq_true rfl) ⟨(Nat.le_of_ble_eq_true rfl), (Nat.le_of_ble_eq_true rfl)⟩ rfl (Nat.le_of_ble_eq_true rfl) rfl rfl (fun _ _ h => h.elim) ?_
    rintro _ _ ⟨_, _, ⟨rfl, f9, g9, ht9, rfl⟩, rfl, rfl⟩
    refine j_ws (L' := z_cw _ _ _ _ _ _ _ _ _ _ _ _ _ _ _ _ _ _ _ _ _ _ _ _ _ _ _ _ _ _ _ _ _ _ _ _ _ _ _ _ _ _ _ _ _ _ _ _ _ _ _ _ _ _ _ _ []) (by decide) rfl rfl ?_
    refine j_callV (q := (RX8, TX8, 9)) dX8_computeIfAbsent_21 kX8_answer lX8_100 inX8_answer seX8_answer rfl rfl (z_dirF (c_X8_answer_e hl _ _ _ _ _ _ _ _ _ _ _ _ _ _ _ _ _ _ _ _ _ _ _ _ _ _ _ _ _ _ _ _ _ _ _ _ _ _ _ _ _ _ _ _ _ _ _ _ _ _ _ _ _ _ _ _ (sp_cia false (sp_T S 1) (sp_C S 2) q r n).1 (sp_cia_n ht1.1 (sp_vl (fun z => hk0 (Or.inr (Or.inr z))))))) (Nat.le_of_ble_eq_true rfl) ⟨(Nat.le_of_ble_eq_true rfl), (Nat.le_of_ble_eq_true rfl)⟩ rfl (Nat.le_of_ble_eq_true rfl) rfl rfl (fun _ _ h => h.elim) ?_
    rintro _ _ ⟨_, ⟨rfl, rfl⟩, rfl⟩
    refine j_iret dX8_computeIfAbsent_24 rfl rfl ?_ (Nat.le_of_ble_eq_true rfl) (Nat.le_of_ble_eq_true rfl)
    refine ⟨rfl, (by first | exact z_cwl | rfl), ?_⟩
    rw [sp_i1, sp_in' (n := q) (by omega)]
    exact ⟨sp_k32_0 (Or.inr (Or.inl rfl)) hk0, rfl, (sp_CWe hra hrb ht0 ht9 ht2 he0 he1 hzm3 hzm4 hzm5 rfl)⟩
  · subst e_6
    refine j_astore (lo' := [(5, _), (0, _), (1, _), (2, _), (3, _), (4, _)]) dX8_computeIfAbsent_9 rfl (by decide) rfl ?_
    refine j_aload_n dX8_computeIfAbsent_11 rfl rfl ?_
    refine j_aload dX8_computeIfAbsent_12 rfl rfl ?_
    refine j_iload_n dX8_computeIfAbsent_14 rfl ?_
    refine j_iload_n dX8_computeIfAbsent_15 rfl ?_
    refine j_iload dX8_computeIfAbsent_16 rfl ?_
    refine j_callV (q := (RX4, TX4, 5)) dX8_computeIfAbsent_18 kX4_reckonAbsent lX8_144 inX4_reckonAbsent seX4_reckonAbsent rfl rfl (z_frame [21, 22, 23, 24, 25] rfl (by decide) (Nat.le_of_ble_eq_true rfl) (c_X4_reckonAbsent_c hl (sp_C S 2) true _ _ _ (sp_T S 2) q r n ht2 (by omega) (sp_vl (fun z => hk0 (Or.inr (Or.inr z)))))) (Nat.le_of_ble_eq_true rfl) ⟨(Nat.le_of_ble_eq_true rfl), (Nat.le_of_ble_eq_true rfl)⟩ rfl (Nat.le_of_ble_eq_true rfl) rfl rfl (fun _ _ h => h.elim) ?_
    rintro _ _ ⟨_, _, ⟨rfl, f9, g9, ht9, rfl⟩, rfl, rfl⟩
    refine j_ws (L' := z_cw _ _ _ _ _ _ _ _ _ _ _ _ _ _ _ _ _ _ _ _ _ _ _ _ _ _ _ _ _ _ _ _ _ _ _ _ _ _ _ _ _ _ _ _ _ _ _ _ _ _ _ _ _ _ _ _ []) (by decide) rfl rfl ?_
    refine j_callV (q := (RX8, TX8, 9)) dX8_computeIfAbsent_21 kX8_answer lX8_100 inX8_answer seX8_answer rfl rfl (z_dirF (c_X8_answer_e hl _ _ _ _ _ _ _ _ _ _ _ _ _ _ _ _ _ _ _ _ _ _ _ _ _ _ _ _ _ _ _ _ _ _ _ _ _ _ _ _ _ _ _ _ _ _ _ _ _ _ _ _ _ _ _ _ (sp_cia true (sp_T S 2) (sp_C S 2) q r n).1 (sp_cia_n ht2.1 (sp_vl (fun z => hk0 (Or.inr (Or.inr z))))))) (Nat.le_of_ble_eq_true rfl) ⟨(Nat.le_of_ble_eq_true rfl), (Nat.le_of_ble_eq_true rfl)⟩ rfl (Nat.le_of_ble_eq_true rfl) rfl rfl (fun _ _ h => h.elim) ?_
    rintro _ _ ⟨_, ⟨rfl, rfl⟩, rfl⟩
    refine j_iret dX8_computeIfAbsent_24 rfl rfl ?_ (Nat.le_of_ble_eq_true rfl) (Nat.le_of_ble_eq_true rfl)
    refine ⟨rfl, (by first | exact z_cwl | rfl), ?_⟩
    rw [sp_i2, sp_in' (n := q) (by omega)]
    exact ⟨sp_k32_0 (Or.inr (Or.inr rfl)) hk0, rfl, (sp_CWe hra hrb ht0 ht1 ht9 he0 he1 hzm3 hzm4 hzm5 rfl)⟩
set_option maxRecDepth 100000 in
set_option maxHeartbeats 8000000 in
theorem c_X8_computeIfPresent_p (hl : l.stackTraces = false) (S : sp_S) (fa : Nat → Int32) (fb : Nat → Int32) (mt : Int32) (ft : Nat → Int32) (ct : Nat → Int32) (f0 : Nat → Int32) (g0 : Nat → Int32) (f1 : Nat → Int32) (g1 : Nat → Int32) (c1 : Nat → Int32) (f2 : Nat → Int32) (g2 : Nat → Int32) (c2 : Nat → Int32) (f3 : Nat → Int32) (g3 : Nat → Int32) (c3 : Nat → Int32) (m3 : Int32) (f4 : Nat → Int32) (g4 : Nat → Int32) (c4 : Nat → Int32) (m4 : Int32) (f5 : Nat → Int32) (g5 : Nat → Int32) (c5 : Nat → Int32) (m5 : Int32) (ef0 : Nat → Int32) (ef1 : Nat → Int32) (t : Int32) (k : Int32) (r : Int32) (n : Int32) (ok : sp_ok S) (hra : z_row 12 (nI (sp_R S 0).length) fa (sp_R S 0)) (hrb : z_row 12 (nI (sp_R S 1).length) fb (sp_R S 1)) (ht0 : z_tba f0 g0 (sp_T S 0)) (ht1 : z_tba f1 g1 (sp_T S 1)) (ht2 : z_tba f2 g2 (sp_T S 2)) (he0 : z_row 10 (nI (sp_E S 0).2.length) ef0 (sp_E S 0).2) (he1 : z_row 10 (nI (sp_E S 1).2.length) ef1 (sp_E S 1).2) (hzm3 : z_m20 m3) (hzm4 : z_m20 m4) (hzm5 : z_m20 m5) : z_CX G l mX8_computeIfPresent 20 14 120 (z_cw S.1.1 S.1.2 (nI (sp_R S 0).length) (sp_F S 0) fa (sp_C S 0) (nI (sp_R S 1).length) (sp_F S 1) fb (sp_C S 1) mt false ft ct f0 g0 (sp_C S 2) (nI (sp_T S 0).length) 0 f1 g1 c1 (nI (sp_T S 1).length) 0 f2 g2 c2 (nI (sp_T S 2).length) 1 f3 g3 c3 m3 0 f4 g4 c4 m4 0 f5 g5 c5 m5 1 (nI (sp_E S 0).2.length) (sp_E S 0).1.2.1 (sp_E S 0).1.2.2.1 (sp_E S 0).1.2.2.2 (sp_E S 0).1.1 ef0 (nI (sp_E S 1).2.length) (sp_E S 1).1.2.1 (sp_E S 1).1.2.2.1 (sp_E S 1).1.2.2.2 (sp_E S 1).1.1 ef1 []) [.ref 0, .int t, .int k, .int r, .int n] (fun v L => sp_k32 t (sp_bk k ∨ (r < 0 ∨ 5 < r) ∨ sp_bv n) = 0 ∧ v = some (.int ((sp_cip (sp_srt (sp_i t)) (sp_T S (sp_i t)) (sp_C S 2) (sp_i k) r n).1.getD (-9))) ∧ sp_CW (sp_tb S (sp_i t) (sp_cip (sp_srt (sp_i t)) (sp_T S (sp_i t)) (sp_C S 2) (sp_i k) r n)) L) (fun E L => ((z_xI E ∧ sp_k32 t (sp_bk k ∨ (r < 0 ∨ 5 < r) ∨ sp_bv n) = 1) ∨ (z_xA E ∧ sp_k32 t (sp_bk k ∨ (r < 0 ∨ 5 < r) ∨ sp_bv n) = 2)) ∧ L = (z_cw S.1.1 S.1.2 (nI (sp_R S 0).length) (sp_F S 0) fa (sp_C S 0) (nI (sp_R S 1).length) (sp_F S 1) fb (sp_C S 1) mt false ft ct f0 g0 (sp_C S 2) (nI (sp_T S 0).length) 0 f1 g1 c1 (nI (sp_T S 1).length) 0 f2 g2 c2 (nI (sp_T S 2).length) 1 f3 g3 c3 m3 0 f4 g4 c4 m4 0 f5 g5 c5 m5 1 (nI (sp_E S 0).2.length) (sp_E S 0).1.2.1 (sp_E S 0).1.2.2.1 (sp_E S 0).1.2.2.2 (sp_E S 0).1.1 ef0 (nI (sp_E S 1).2.length) (sp_E S 1).1.2.1 (sp_E S 1).1.2.2.1 (sp_E S 1).1.2.2.2 (sp_E S 1).1.1 ef1 [])) := by
  refine z_body hl (by decide) rfl (Nat.le_of_ble_eq_true rfl) ?_
  show z_J G l mX8_computeIfPresent (z_SX 20 14 120 (z_cw S.1.1 S.1.2 (nI (sp_R S 0).length) (sp_F S 0) fa (sp_C S 0) (nI (sp_R S 1).length) (sp_F S 1) fb (sp_C S 1) mt false ft ct f0 g0 (sp_C S 2) (nI (sp_T S 0).length) 0 f1 g1 c1 (nI (sp_T S 1).length) 0 f2 g2 c2 (nI (sp_T S 2).length) 1 f3 g3 c3 m3 0 f4 g4 c4 m4 0 f5 g5 c5 m5 1 (nI (sp_E S 0).2.length) (sp_E S 0).1.2.1 (sp_E S 0).1.2.2.1 (sp_E S 0).1.2.2.2 (sp_E S 0).1.1 ef0 (nI (sp_E S 1).2.length) (sp_E S 1).1.2.1 (sp_E S 1).1.2.2.1 (sp_E S 1).1.2.2.2 (sp_E S 1).1.1 ef1 []) (fun v L => sp_k32 t (sp_bk k ∨ (r < 0 ∨ 5 < r) ∨ sp_bv n) = 0 ∧ v = some (.int ((sp_cip (sp_srt (sp_i t)) (sp_T S (sp_i t)) (sp_C S 2) (sp_i k) r n).1.getD (-9))) ∧ sp_CW (sp_tb S (sp_i t) (sp_cip (sp_srt (sp_i t)) (sp_T S (sp_i t)) (sp_C S 2) (sp_i k) r n)) L) (fun E L => ((z_xI E ∧ sp_k32 t (sp_bk k ∨ (r < 0 ∨ 5 < r) ∨ sp_bv n) = 1) ∨ (z_xA E ∧ sp_k32 t (sp_bk k ∨ (r < 0 ∨ 5 < r) ∨ sp_bv n) = 2)) ∧ L = (z_cw S.1.1 S.1.2 (nI (sp_R S 0).length) (sp_F S 0) fa (sp_C S 0) (nI (sp_R S 1).length) (sp_F S 1) fb (sp_C S 1) mt false ft ct f0 g0 (sp_C S 2) (nI (sp_T S 0).length) 0 f1 g1 c1 (nI (sp_T S 1).length) 0 f2 g2 c2 (nI (sp_T S 2).length) 1 f3 g3 c3 m3 0 f4 g4 c4 m4 0 f5 g5 c5 m5 1 (nI (sp_E S 0).2.length) (sp_E S 0).1.2.1 (sp_E S 0).1.2.2.1 (sp_E S 0).1.2.2.2 (sp_E S 0).1.1 ef0 (nI (sp_E S 1).2.length) (sp_E S 1).1.2.1 (sp_E S 1).1.2.2.1 (sp_E S 1).1.2.2.2 (sp_E S 1).1.1 ef1 []))) 0 [(0, _), (1, _), (2, _), (3, _), (4, _)] [] _ 0 0
  refine j_aload_n dX8_computeIfPresent_0 rfl rfl ?_
  refine j_iload_n dX8_computeIfPresent_1 rfl ?_
  refine j_iload_n dX8_computeIfPresent_2 rfl ?_
  refine j_iload_n dX8_computeIfPresent_3 rfl ?_
  refine j_iload dX8_computeIfPresent_4 rfl ?_
  refine j_callV (q := (RX8, TX8, 9)) dX8_computeIfPresent_6 kX8_tableToReckon lX8_140 inX8_tableToReckon seX8_tableToReckon rfl rfl (z_dirX (c_X8_tableToReckon_e hl _ _ _ _ _ _ _ _ _ _ _ _ _ _ _ _ _ _ _ _ _ _ _ _ _ _ _ _ _ _ _ _ _ _ _ _ _ _ _ _ _ _ _ _ _ _ _ _ _ _ _ _ _ _ _ _ _ _ _ _)) (Nat.le_of_ble_eq_true rfl) ⟨(Nat.le_of_ble_eq_true rfl), (Nat.le_of_ble_eq_true rfl)⟩ rfl (Nat.le_of_ble_eq_true rfl) rfl rfl (fun _ _ h => by obtain ⟨_, ⟨h1, rfl⟩, rfl⟩ := h; exact ⟨rfl, rfl, h1.elim (fun z => Or.inl ⟨z.1, sp_k32_1 z.2⟩) (fun z => Or.inr ⟨z.1, sp_k32_2 z.2.1 z.2.2⟩), rfl⟩) ?_
  rintro _ _ ⟨_, ⟨_, rfl, hr, hk6, rfl⟩, rfl⟩
  have hk0 := hk6
  obtain ⟨q, hq, rfl⟩ := sp_nt (m := 19) rfl (by decide) (fun z => hk0 (Or.inl z))
  rcases hr with ⟨e_6, rfl⟩ | ⟨e_6, rfl⟩ | ⟨e_6, rfl⟩
  · subst e_6
    refine j_astore (lo' := [(5, _), (0, _), (1, _), (2, _), (3, _), (4, _)]) dX8_computeIfPresent_9 rfl (by decide) rfl ?_
    refine j_aload_n dX8_computeIfPresent_11 rfl rfl ?_
    refine j_aload dX8_computeIfPresent_12 rfl rfl ?_
    refine j_iload_n dX8_computeIfPresent_14 rfl ?_
    refine j_iload_n dX8_computeIfPresent_15 rfl ?_
    refine j_iload dX8_computeIfPresent_16 rfl ?_
    refine j_callV (q := (RX4, TX4, 5)) dX8_computeIfPresent_18 kX4_reckonPresent lX8_148 inX4_reckonPresent seX4_reckonPresent rfl rfl (z_frame [10, 11, 12, 13, 14] rfl (by decide) (Nat.le_of_ble_eq_true rfl) (c_X4_reckonPresent_c hl (sp_C S 2) false _ _ (sp_C S 2) (sp_T S 0) q r n ht0 (by omega) (sp_vl (fun z => hk0 (Or.inr (Or.inr z)))))) (Nat.le_of_ble_eq_true rfl) ⟨(Nat.le_of_ble_eq_true rfl), (Nat.le_of_ble_eq_true rfl)⟩ rfl (Nat.le_of_ble_eq_true rfl) rfl rfl (fun _ _ h => h.elim) ?_
    rintro _ _ ⟨_, _, ⟨rfl, f9, g9, ht9, rfl⟩, rfl, rfl⟩
    refine j_ws (L' := z_cw _ _ _ _ _ _ _ _ _ _ _ _ _ _ _ _ _ _ _ _ _ _ _ _ _ _ _ _ _ _ _ _ _ _ _ _ _ _ _ _ _ _ _ _ _ _ _ _ _ _ _ _ _ _ _ _ []) (by decide) rfl rfl ?_
    refine j_callV (q := (RX8, TX8, 9)) dX8_computeIfPresent_21 kX8_answer lX8_100 inX8_answer seX8_answer rfl rfl (z_dirF (c_X8_answer_e hl _ _ _ _ _ _ _ _ _ _ _ _ _ _ _ _ _ _ _ _ _ _ _ _ _ _ _ _ _ _ _ _ _ _ _ _ _ _ _ _ _ _ _ _ _ _ _ _ _ _ _ _ _ _ _ _ (sp_cip false (sp_T S 0) (sp_C S 2) q r n).1 (sp_cip_n ht0.1 (sp_vl (fun z => hk0 (Or.inr (Or.inr z))))))) (Nat.le_of_ble_eq_true rfl) ⟨(Nat.le_of_ble_eq_true rfl), (Nat.le_of_ble_eq_true rfl)⟩ rfl (Nat.le_of_ble_eq_true rfl) rfl rfl (fun _ _ h => h.elim) ?_
    rintro _ _ ⟨_, ⟨rfl, rfl⟩, rfl⟩
    refine j_iret dX8_computeIfPresent_24 rfl rfl ?_ (Nat.le_of_ble_eq_true rfl) (Nat.le_of_ble_eq_true rfl)
    refine ⟨rfl, (by first | exact z_cwl | rfl), ?_⟩
    rw [sp_i0, sp_in' (n := q) (by omega)]
    exact ⟨sp_k32_0 (Or.inl rfl) hk0, rfl, (sp_CWe hra hrb ht9 ht1 ht2 he0 he1 hzm3 hzm4 hzm5 rfl)⟩
  · subst e_6
    refine j_astore (lo' := [(5, _), (0, _), (1, _), (2, _), (3, _), (4, _)]) dX8_computeIfPresent_9 rfl (by decide) rfl ?_
    refine j_aload_n dX8_computeIfPresent_11 rfl rfl ?_
    refine j_aload dX8_computeIfPresent_12 rfl rfl ?_
    refine j_iload_n dX8_computeIfPresent_14 rfl ?_
    refine j_iload_n dX8_computeIfPresent_15 rfl ?_
    refine j_iload dX8_computeIfPresent_16 rfl ?_
    refine j_callV (q := (RX4, TX4, 5)) dX8_computeIfPresent_18 kX4_reckonPresent lX8_148 inX4_reckonPresent seX4_reckonPresent rfl rfl (z_frame [16, 17, 18, 19, 20] rfl (by decide) (Nat.le_of_ble_eq_true rfl) (c_X4_reckonPresent_c hl (sp_C S 2) false _ _ _ (sp_T S 1) q r n ht1 (by omega) (sp_vl (fun z => hk0 (Or.inr (Or.inr z)))))) (Nat.le_of_ble_eq_true rfl) ⟨(Nat.le_of_ble_eq_true rfl), (Nat.le_of_ble_eq_true rfl)⟩ rfl (Nat.le_of_ble_eq_true rfl) rfl rfl (fun _ _ h => h.elim) ?_
    rintro _ _ ⟨_, _, ⟨rfl, f9, g9, ht9, rfl⟩, rfl, rfl⟩
    refine j_ws (L' := z_cw _ _ _ _ _ _ _ _ _ _ _ _ _ _ _ _ _ _ _ _ _ _ _ _ _ _ _ _ _ _ _ _ _ _ _ _ _ _ _ _ _ _ _ _ _ _ _ _ _ _ _ _ _ _ _ _ []) (by decide) rfl rfl ?_
    refine j_callV (q := (RX8, TX8, 9)) dX8_computeIfPresent_21 kX8_answer lX8_100 inX8_answer seX8_answer rfl rfl (z_dirF (c_X8_answer_e hl _ _ _ _ _ _ _ _ _ _ _ _ _ _ _ _ _ _ _ _ _ _ _ _ _ _ _ _ _ _ _ _ _ _ _ _ _ _ _ _ _ _ _ _ _ _ _ _ _ _ _ _ _ _ _ _ (sp_cip false (sp_T S 1) (sp_C S 2) q r n).1 (sp_cip_n ht1.1 (sp_vl (fun z => hk0 (Or.inr (Or.inr z))))))) (Nat.le_of_ble_eq_true rfl) ⟨(Nat.le_of_ble_eq_true rfl), (Nat.le_of_ble_eq_true rfl)⟩ rfl (Nat.le_of_ble_eq_true rfl) rfl rfl (fun _ _ h => h.elim) ?_
    rintro _ _ ⟨_, ⟨rfl, rfl⟩, rfl⟩
    refine j_iret dX8_computeIfPresent_24 rfl rfl ?_ (Nat.le_of_ble_eq_true rfl) (Nat.le_of_ble_eq_true rfl)
    refine ⟨rfl, (by first | exact z_cwl | rfl), ?_⟩
    rw [sp_i1, sp_in' (n := q) (by omega)]
    exact ⟨sp_k32_0 (Or.inr (Or.inl rfl)) hk0, rfl, (sp_CWe hra hrb ht0 ht9 ht2 he0 he1 hzm3 hzm4 hzm5 rfl)⟩
  · subst e_6
    refine j_astore (lo' := [(5, _), (0, _), (1, _), (2, _), (3, _), (4, _)]) dX8_computeIfPresent_9 rfl (by decide) rfl ?_
    refine j_aload_n dX8_computeIfPresent_11 rfl rfl ?_
    refine j_aload dX8_computeIfPresent_12 rfl rfl ?_
    refine j_iload_n dX8_computeIfPresent_14 rfl ?_
    refine j_iload_n dX8_computeIfPresent_15 rfl ?_
    refine j_iload dX8_computeIfPresent_16 rfl ?_
    refine j_callV (q := (RX4, TX4, 5)) dX8_computeIfPresent_18 kX4_reckonPresent lX8_148 inX4_reckonPresent seX4_reckonPresent rfl rfl (z_frame [21, 22, 23, 24, 25] rfl (by decide) (Nat.le_of_ble_eq_true rfl) (c_X4_reckonPresent_c hl (sp_C S 2) true _ _ _ (sp_T S 2) q r n ht2 (by omega) (sp_vl (fun z => hk0 (Or.inr (Or.inr z)))))) (Nat.le_of_ble_eq_true rfl) ⟨(Nat.le_of_ble_eq_true rfl), (Nat.le_of_ble_eq_true rfl)⟩ rfl (Nat.le_of_ble_eq_true rfl) rfl rfl (fun _ _ h => h.elim) ?_
    rintro _ _ ⟨_, _, ⟨rfl, f9, g9, ht9, rfl⟩, rfl, rfl⟩
    refine j_ws (L' := z_cw _ _ _ _ _ _ _ _ _ _ _ _ _ _ _ _ _ _ _ _ _ _ _ _ _ _ _ _ _ _ _ _ _ _ _ _ _ _ _ _ _ _ _ _ _ _ _ _ _ _ _ _ _ _ _ _ []) (by decide) rfl rfl ?_
    refine j_callV (q := (RX8, TX8, 9)) dX8_computeIfPresent_21 kX8_answer lX8_100 inX8_answer seX8_answer rfl rfl (z_dirF (c_X8_answer_e hl _ _ _ _ _ _ _ _ _ _ _ _ _ _ _ _ _ _ _ _ _ _ _ _ _ _ _ _ _ _ _ _ _ _ _ _ _ _ _ _ _ _ _ _ _ _ _ _ _ _ _ _ _ _ _ _ (sp_cip true (sp_T S 2) (sp_C S 2) q r n).1 (sp_cip_n ht2.1 (sp_vl (fun z => hk0 (Or.inr (Or.inr z))))))) (Nat.le_of_ble_eq_true rfl) ⟨(Nat.le_of_ble_eq_true rfl), (Nat.le_of_ble_eq_true rfl)⟩ rfl (Nat.le_of_ble_eq_true rfl) rfl rfl (fun _ _ h => h.elim) ?_
    rintro _ _ ⟨_, ⟨rfl, rfl⟩, rfl⟩
    refine j_iret dX8_computeIfPresent_24 rfl rfl ?_ (Nat.le_of_ble_eq_true rfl) (Nat.le_of_ble_eq_true rfl)
    refine ⟨rfl, (by first | exact z_cwl | rfl), ?_⟩
    rw [sp_i2, sp_in' (n := q) (by omega)]
    exact ⟨sp_k32_0 (Or.inr (Or.inr rfl)) hk0, rfl, (sp_CWe hra hrb ht0 ht1 ht9 he0 he1 hzm3 hzm4 hzm5 rfl)⟩
set_option maxRecDepth 100000 in
set_option maxHeartbeats 8000000 in
theorem c_X8_compute_p (hl : l.stackTraces = false) (S : sp_S) (fa : Nat → Int32) (fb : Nat → Int32) (mt : Int32) (ft : Nat → Int32) (ct : Nat → Int32) (f0 : Nat → Int32) (g0 : Nat → Int32) (f1 : Nat → Int32) (g1 : Nat → Int32) (c1 : Nat → Int32) (f2 : Nat → Int32) (g2 : Nat → Int32) (c2 : Nat → Int32) (f3 : Nat → Int32) (g3 : Nat → Int32) (c3 : Nat → Int32) (m3 : Int32) (f4 : Nat → Int32) (g4 : Nat → Int32) (c4 : Nat → Int32) (m4 : Int32) (f5 : Nat → Int32) (g5 : Nat → Int32) (c5 : Nat → Int32) (m5 : Int32) (ef0 : Nat → Int32) (ef1 : Nat → Int32) (t : Int32) (k : Int32) (r : Int32) (n : Int32) (ok : sp_ok S) (hra : z_row 12 (nI (sp_R S 0).length) fa (sp_R S 0)) (hrb : z_row 12 (nI (sp_R S 1).length) fb (sp_R S 1)) (ht0 : z_tba f0 g0 (sp_T S 0)) (ht1 : z_tba f1 g1 (sp_T S 1)) (ht2 : z_tba f2 g2 (sp_T S 2)) (he0 : z_row 10 (nI (sp_E S 0).2.length) ef0 (sp_E S 0).2) (he1 : z_row 10 (nI (sp_E S 1).2.length) ef1 (sp_E S 1).2) (hzm3 : z_m20 m3) (hzm4 : z_m20 m4) (hzm5 : z_m20 m5) : z_CX G l mX8_compute 20 14 120 (z_cw S.1.1 S.1.2 (nI (sp_R S 0).length) (sp_F S 0) fa (sp_C S 0) (nI (sp_R S 1).length) (sp_F S 1) fb (sp_C S 1) mt false ft ct f0 g0 (sp_C S 2) (nI (sp_T S 0).length) 0 f1 g1 c1 (nI (sp_T S 1).length) 0 f2 g2 c2 (nI (sp_T S 2).length) 1 f3 g3 c3 m3 0 f4 g4 c4 m4 0 f5 g5 c5 m5 1 (nI (sp_E S 0).2.length) (sp_E S 0).1.2.1 (sp_E S 0).1.2.2.1 (sp_E S 0).1.2.2.2 (sp_E S 0).1.1 ef0 (nI (sp_E S 1).2.length) (sp_E S 1).1.2.1 (sp_E S 1).1.2.2.1 (sp_E S 1).1.2.2.2 (sp_E S 1).1.1 ef1 []) [.ref 0, .int t, .int k, .int r, .int n] (fun v L => sp_k32 t (sp_bk k ∨ (r < 0 ∨ 5 < r) ∨ sp_bv n) = 0 ∧ v = some (.int ((sp_cmp (sp_srt (sp_i t)) (sp_T S (sp_i t)) (sp_C S 2) (sp_i k) r n).1.getD (-9))) ∧ sp_CW (sp_tb S (sp_i t) (sp_cmp (sp_srt (sp_i t)) (sp_T S (sp_i t)) (sp_C S 2) (sp_i k) r n)) L) (fun E L => ((z_xI E ∧ sp_k32 t (sp_bk k ∨ (r < 0 ∨ 5 < r) ∨ sp_bv n) = 1) ∨ (z_xA E ∧ sp_k32 t (sp_bk k ∨ (r < 0 ∨ 5 < r) ∨ sp_bv n) = 2)) ∧ L = (z_cw S.1.1 S.1.2 (nI (sp_R S 0).length) (sp_F S 0) fa (sp_C S 0) (nI (sp_R S 1).length) (sp_F S 1) fb (sp_C S 1) mt false ft ct f0 g0 (sp_C S 2) (nI (sp_T S 0).length) 0 f1 g1 c1 (nI (sp_T S 1).length) 0 f2 g2 c2 (nI (sp_T S 2).length) 1 f3 g3 c3 m3 0 f4 g4 c4 m4 0 f5 g5 c5 m5 1 (nI (sp_E S 0).2.length) (sp_E S 0).1.2.1 (sp_E S 0).1.2.2.1 (sp_E S 0).1.2.2.2 (sp_E S 0).1.1 ef0 (nI (sp_E S 1).2.length) (sp_E S 1).1.2.1 (sp_E S 1).1.2.2.1 (sp_E S 1).1.2.2.2 (sp_E S 1).1.1 ef1 [])) := by
  refine z_body hl (by decide) rfl (Nat.le_of_ble_eq_true rfl) ?_
  show z_J G l mX8_compute (z_SX 20 14 120 (z_cw S.1.1 S.1.2 (nI (sp_R S 0).length) (sp_F S 0) fa (sp_C S 0) (nI (sp_R S 1).length) (sp_F S 1) fb (sp_C S 1) mt false ft ct f0 g0 (sp_C S 2) (nI (sp_T S 0).length) 0 f1 g1 c1 (nI (sp_T S 1).length) 0 f2 g2 c2 (nI (sp_T S 2).length) 1 f3 g3 c3 m3 0 f4 g4 c4 m4 0 f5 g5 c5 m5 1 (nI (sp_E S 0).2.length) (sp_E S 0).1.2.1 (sp_E S 0).1.2.2.1 (sp_E S 0).1.2.2.2 (sp_E S 0).1.1 ef0 (nI (sp_E S 1).2.length) (sp_E S 1).1.2.1 (sp_E S 1).1.2.2.1 (sp_E S 1).1.2.2.2 (sp_E S 1).1.1 ef1 []) (fun v L => sp_k32 t (sp_bk k ∨ (r < 0 ∨ 5 < r) ∨ sp_bv n) = 0 ∧ v = some (.int ((sp_cmp (sp_srt (sp_i t)) (sp_T S (sp_i t)) (sp_C S 2) (sp_i k) r n).1.getD (-9))) ∧ sp_CW (sp_tb S (sp_i t) (sp_cmp (sp_srt (sp_i t)) (sp_T S (sp_i t)) (sp_C S 2) (sp_i k) r n)) L) (fun E L => ((z_xI E ∧ sp_k32 t (sp_bk k ∨ (r < 0 ∨ 5 < r) ∨ sp_bv n) = 1) ∨ (z_xA E ∧ sp_k32 t (sp_bk k ∨ (r < 0 ∨ 5 < r) ∨ sp_bv n) = 2)) ∧ L = (z_cw S.1.1 S.1.2 (nI (sp_R S 0).length) (sp_F S 0) fa (sp_C S 0) (nI (sp_R S 1).length) (sp_F S 1) fb (sp_C S 1) mt false ft ct f0 g0 (sp_C S 2) (nI (sp_T S 0).length) 0 f1 g1 c1 (nI (sp_T S 1).length) 0 f2 g2 c2 (nI (sp_T S 2).length) 1 f3 g3 c3 m3 0 f4 g4 c4 m4 0 f5 g5 c5 m5 1 (nI (sp_E S 0).2.length) (sp_E S 0).1.2.1 (sp_E S 0).1.2.2.1 (sp_E S 0).1.2.2.2 (sp_E S 0).1.1 ef0 (nI (sp_E S 1).2.length) (sp_E S 1).1.2.1 (sp_E S 1).1.2.2.1 (sp_E S 1).1.2.2.2 (sp_E S 1).1.1 ef1 []))) 0 [(0, _), (1, _), (2, _), (3, _), (4, _)] [] _ 0 0
  refine j_aload_n dX8_compute_0 rfl rfl ?_
  refine j_iload_n dX8_compute_1 rfl ?_
  refine j_iload_n dX8_compute_2 rfl ?_
  refine j_iload_n dX8_compute_3 rfl ?_
  refine j_iload dX8_compute_4 rfl ?_
  refine j_callV (q := (RX8, TX8, 9)) dX8_compute_6 kX8_tableToReckon lX8_140 inX8_tableToReckon seX8_tableToReckon rfl rfl (z_dirX (c_X8_tableToReckon_e hl _ _ _ _ _ _ _ _ _ _ _ _ _ _ _ _ _ _ _ _ _ _ _ _ _ _ _ _ _ _ _ _ _ _ _ _ _ _ _ _ _ _ _ _ _ _ _ _ _ _ _ _ _ _ _ _ _ _ _ _)) (Nat.le_of_ble_eq_true rfl) ⟨(Nat.le_of_ble_eq_true rfl), (Nat.le_of_ble_eq_true rfl)⟩ rfl (Nat.le_of_ble_eq_true rfl) rfl rfl (fun _ _ h => by obtain ⟨_, ⟨h1, rfl⟩, rfl⟩ := h; exact ⟨rfl, rfl, h1.elim (fun z => Or.inl ⟨z.1, sp_k32_1 z.2⟩) (fun z => Or.inr ⟨z.1, sp_k32_2 z.2.1 z.2.2⟩), rfl⟩) ?_
  rintro _ _ ⟨_, ⟨_, rfl, hr, hk6, rfl⟩, rfl⟩
  have hk0 := hk6
  obtain ⟨q, hq, rfl⟩ := sp_nt (m := 19) rfl (by decide) (fun z => hk0 (Or.inl z))
  rcases hr with ⟨e_6, rfl⟩ | ⟨e_6, rfl⟩ | ⟨e_6, rfl⟩
  · subst e_6
    refine j_astore (lo' := [(5, _), (0, _), (1, _), (2, _), (3, _), (4, _)]) dX8_compute_9 rfl (by decide) rfl ?_
    refine j_aload_n dX8_compute_11 rfl rfl ?_
    refine j_aload dX8_compute_12 rfl rfl ?_
    refine j_iload_n dX8_compute_14 rfl ?_
    refine j_iload_n dX8_compute_15 rfl ?_
    refine j_iload dX8_compute_16 rfl ?_
    refine j_callV (q := (RX4, TX4, 5)) dX8_compute_18 kX4_reckon lX8_151 inX4_reckon seX4_reckon rfl rfl (z_frame [10, 11, 12, 13, 14] rfl (by decide) (Nat.le_of_ble_eq_true rfl) (c_X4_reckon_c hl (sp_C S 2) false _ _ (sp_C S 2) (sp_T S 0) q r n ht0 (by omega) (sp_vl (fun z => hk0 (Or.inr (Or.inr z)))))) (Nat.le_of_ble_eq_true rfl) ⟨(Nat.le_of_ble_eq_true rfl), (Nat.le_of_ble_eq_true rfl)⟩ rfl (Nat.le_of_ble_eq_true rfl) rfl rfl (fun _ _ h => h.elim) ?_
    rintro _ _ ⟨_, _, ⟨rfl, f9, g9, ht9, rfl⟩, rfl, rfl⟩
    refine j_ws (L' := z_cw _ _ _ _ _ _ _ _ _ _ _ _ _ _ _ _ _ _ _ _ _ _ _ _ _ _ _ _ _ _ _ _ _ _ _ _ _ _ _ _ _ _ _ _ _ _ _ _ _ _ _ _ _ _ _ _ []) (by decide) rfl rfl ?_
    refine j_callV (q := (RX8, TX8, 9)) dX8_compute_21 kX8_answer lX8_100 inX8_answer seX8_answer rfl rfl (z_dirF (c_X8_answer_e hl _ _ _ _ _ _ _ _ _ _ _ _ _ _ _ _ _ _ _ _ _ _ _ _ _ _ _ _ _ _ _ _ _ _ _ _ _ _ _ _ _ _ _ _ _ _ _ _ _ _ _ _ _ _ _ _ (sp_cmp false (sp_T S 0) (sp_C S 2) q r n).1 (sp_cmp_n ht0.1 (sp_vl (fun z => hk0 (Or.inr (Or.inr z))))))) (Nat.le_of_ble_eq_true rfl) ⟨(Nat.le_of_ble_eq_true rfl), (Nat.le_of_ble_eq_true rfl)⟩ rfl (Nat.le_of_ble_eq_true rfl) rfl rfl (fun _ _ h => h.elim) ?_
    rintro _ _ ⟨_, ⟨rfl, rfl⟩, rfl⟩
    refine j_iret dX8_compute_24 rfl rfl ?_ (Nat.le_of_ble_eq_true rfl) (Nat.le_of_ble_eq_true rfl)
    refine ⟨rfl, (by first | exact z_cwl | rfl), ?_⟩
    rw [sp_i0, sp_in' (n := q) (by omega)]
    exact ⟨sp_k32_0 (Or.inl rfl) hk0, rfl, (sp_CWe hra hrb ht9 ht1 ht2 he0 he1 hzm3 hzm4 hzm5 rfl)⟩
  · subst e_6
    refine j_astore (lo' := [(5, _), (0, _), (1, _), (2, _), (3, _), (4, _)]) dX8_compute_9 rfl (by decide) rfl ?_
    refine j_aload_n dX8_compute_11 rfl rfl ?_
    refine j_aload dX8_compute_12 rfl rfl ?_
    refine j_iload_n dX8_compute_14 rfl ?_
    refine j_iload_n dX8_compute_15 rfl ?_
    refine j_iload dX8_compute_16 rfl ?_
    refine j_callV (q := (RX4, TX4, 5)) dX8_compute_18 kX4_reckon lX8_151 inX4_reckon seX4_reckon rfl rfl (z_frame [16, 17, 18, 19, 20] rfl (by decide) (Nat.le_of_ble_eq_true rfl) (c_X4_reckon_c hl (sp_C S 2) false _ _ _ (sp_T S 1) q r n ht1 (by omega) (sp_vl (fun z => hk0 (Or.inr (Or.inr z)))))) (Nat.le_of_ble_eq_true rfl) ⟨(Nat.le_of_ble_eq_true rfl), (Nat.le_of_ble_eq_true rfl)⟩ rfl (Nat.le_of_ble_eq_true rfl) rfl rfl (fun _ _ h => h.elim) ?_
    rintro _ _ ⟨_, _, ⟨rfl, f9, g9, ht9, rfl⟩, rfl, rfl⟩
    refine j_ws (L' := z_cw _ _ _ _ _ _ _ _ _ _ _ _ _ _ _ _ _ _ _ _ _ _ _ _ _ _ _ _ _ _ _ _ _ _ _ _ _ _ _ _ _ _ _ _ _ _ _ _ _ _ _ _ _ _ _ _ []) (by decide) rfl rfl ?_
    refine j_callV (q := (RX8, TX8, 9)) dX8_compute_21 kX8_answer lX8_100 inX8_answer seX8_answer rfl rfl (z_dirF (c_X8_answer_e hl _ _ _ _ _ _ _ _ _ _ _ _ _ _ _ _ _ _ _ _ _ _ _ _ _ _ _ _ _ _ _ _ _ _ _ _ _ _ _ _ _ _ _ _ _ _ _ _ _ _ _ _ _ _ _ _ (sp_cmp false (sp_T S 1) (sp_C S 2) q r n).1 (sp_cmp_n ht1.1 (sp_vl (fun z => hk0 (Or.inr (Or.inr z))))))) (Nat.le_of_ble_eq_true rfl) ⟨(Nat.le_of_ble_eq_true rfl), (Nat.le_of_ble_eq_true rfl)⟩ rfl (Nat.le_of_ble_eq_true rfl) rfl rfl (fun _ _ h => h.elim) ?_
    rintro _ _ ⟨_, ⟨rfl, rfl⟩, rfl⟩
    refine j_iret dX8_compute_24 rfl rfl ?_ (Nat.le_of_ble_eq_true rfl) (Nat.le_of_ble_eq_true rfl)
    refine ⟨rfl, (by first | exact z_cwl | rfl), ?_⟩
    rw [sp_i1, sp_in' (n := q) (by omega)]
    exact ⟨sp_k32_0 (Or.inr (Or.inl rfl)) hk0, rfl, (sp_CWe hra hrb ht0 ht9 ht2 he0 he1 hzm3 hzm4 hzm5 rfl)⟩
  · subst e_6
    refine j_astore (lo' := [(5, _), (0, _), (1, _), (2, _), (3, _), (4, _)]) dX8_compute_9 rfl (by decide) rfl ?_
    refine j_aload_n dX8_compute_11 rfl rfl ?_
    refine j_aload dX8_compute_12 rfl rfl ?_
    refine j_iload_n dX8_compute_14 rfl ?_
    refine j_iload_n dX8_compute_15 rfl ?_
    refine j_iload dX8_compute_16 rfl ?_
    refine j_callV (q := (RX4, TX4, 5)) dX8_compute_18 kX4_reckon lX8_151 inX4_reckon seX4_reckon rfl rfl (z_frame [21, 22, 23, 24, 25] rfl (by decide) (Nat.le_of_ble_eq_true rfl) (c_X4_reckon_c hl (sp_C S 2) true _ _ _ (sp_T S 2) q r n ht2 (by omega) (sp_vl (fun z => hk0 (Or.inr (Or.inr z)))))) (Nat.le_of_ble_eq_true rfl) ⟨(Nat.le_of_ble_eq_true rfl), (Nat.le_of_ble_eq_true rfl)⟩ rfl (Nat.le_of_ble_eq_true rfl) rfl rfl (fun _ _ h => h.elim) ?_
    rintro _ _ ⟨_, _, ⟨rfl, f9, g9, ht9, rfl⟩, rfl, rfl⟩
    refine j_ws (L' := z_cw _ _ _ _ _ _ _ _ _ _ _ _ _ _ _ _ _ _ _ _ _ _ _ _ _ _ _ _ _ _ _ _ _ _ _ _ _ _ _ _ _ _ _ _ _ _ _ _ _ _ _ _ _ _ _ _ []) (by decide) rfl rfl ?_
    refine j_callV (q := (RX8, TX8, 9)) dX8_compute_21 kX8_answer lX8_100 inX8_answer seX8_answer rfl rfl (z_dirF (c_X8_answer_e hl _ _ _ _ _ _ _ _ _ _ _ _ _ _ _ _ _ _ _ _ _ _ _ _ _ _ _ _ _ _ _ _ _ _ _ _ _ _ _ _ _ _ _ _ _ _ _ _ _ _ _ _ _ _ _ _ (sp_cmp true (sp_T S 2) (sp_C S 2) q r n).1 (sp_cmp_n ht2.1 (sp_vl (fun z => hk0 (Or.inr (Or.inr z))))))) (Nat.le_of_ble_eq_true rfl) ⟨(Nat.le_of_ble_eq_true rfl), (Nat.le_of_ble_eq_true rfl)⟩ rfl (Nat.le_of_ble_eq_true rfl) rfl rfl (fun _ _ h => h.elim) ?_
    rintro _ _ ⟨_, ⟨rfl, rfl⟩, rfl⟩
    refine j_iret dX8_compute_24 rfl rfl ?_ (Nat.le_of_ble_eq_true rfl) (Nat.le_of_ble_eq_true rfl)
    refine ⟨rfl, (by first | exact z_cwl | rfl), ?_⟩
    rw [sp_i2, sp_in' (n := q) (by omega)]
    exact ⟨sp_k32_0 (Or.inr (Or.inr rfl)) hk0, rfl, (sp_CWe hra hrb ht0 ht1 ht9 he0 he1 hzm3 hzm4 hzm5 rfl)⟩
set_option maxRecDepth 100000 in
set_option maxHeartbeats 8000000 in
theorem c_X8_merge_p (hl : l.stackTraces = false) (S : sp_S) (fa : Nat → Int32) (fb : Nat → Int32) (mt : Int32) (ft : Nat → Int32) (ct : Nat → Int32) (f0 : Nat → Int32) (g0 : Nat → Int32) (f1 : Nat → Int32) (g1 : Nat → Int32) (c1 : Nat → Int32) (f2 : Nat → Int32) (g2 : Nat → Int32) (c2 : Nat → Int32) (f3 : Nat → Int32) (g3 : Nat → Int32) (c3 : Nat → Int32) (m3 : Int32) (f4 : Nat → Int32) (g4 : Nat → Int32) (c4 : Nat → Int32) (m4 : Int32) (f5 : Nat → Int32) (g5 : Nat → Int32) (c5 : Nat → Int32) (m5 : Int32) (ef0 : Nat → Int32) (ef1 : Nat → Int32) (t : Int32) (k : Int32) (y : Int32) (r : Int32) (ok : sp_ok S) (hra : z_row 12 (nI (sp_R S 0).length) fa (sp_R S 0)) (hrb : z_row 12 (nI (sp_R S 1).length) fb (sp_R S 1)) (ht0 : z_tba f0 g0 (sp_T S 0)) (ht1 : z_tba f1 g1 (sp_T S 1)) (ht2 : z_tba f2 g2 (sp_T S 2)) (he0 : z_row 10 (nI (sp_E S 0).2.length) ef0 (sp_E S 0).2) (he1 : z_row 10 (nI (sp_E S 1).2.length) ef1 (sp_E S 1).2) (hzm3 : z_m20 m3) (hzm4 : z_m20 m4) (hzm5 : z_m20 m5) : z_CX G l mX8_merge 20 14 120 (z_cw S.1.1 S.1.2 (nI (sp_R S 0).length) (sp_F S 0) fa (sp_C S 0) (nI (sp_R S 1).length) (sp_F S 1) fb (sp_C S 1) mt false ft ct f0 g0 (sp_C S 2) (nI (sp_T S 0).length) 0 f1 g1 c1 (nI (sp_T S 1).length) 0 f2 g2 c2 (nI (sp_T S 2).length) 1 f3 g3 c3 m3 0 f4 g4 c4 m4 0 f5 g5 c5 m5 1 (nI (sp_E S 0).2.length) (sp_E S 0).1.2.1 (sp_E S 0).1.2.2.1 (sp_E S 0).1.2.2.2 (sp_E S 0).1.1 ef0 (nI (sp_E S 1).2.length) (sp_E S 1).1.2.1 (sp_E S 1).1.2.2.1 (sp_E S 1).1.2.2.2 (sp_E S 1).1.1 ef1 []) [.ref 0, .int t, .int k, .int y, .int r] (fun v L => sp_k32 t (sp_bk k ∨ (r < 0 ∨ 5 < r) ∨ sp_bv y) = 0 ∧ v = some (.int ((sp_mrg (sp_srt (sp_i t)) (sp_T S (sp_i t)) (sp_C S 2) (sp_i k) y r).1.getD (-9))) ∧ sp_CW (sp_tb S (sp_i t) (sp_mrg (sp_srt (sp_i t)) (sp_T S (sp_i t)) (sp_C S 2) (sp_i k) y r)) L) (fun E L => ((z_xI E ∧ sp_k32 t (sp_bk k ∨ (r < 0 ∨ 5 < r) ∨ sp_bv y) = 1) ∨ (z_xA E ∧ sp_k32 t (sp_bk k ∨ (r < 0 ∨ 5 < r) ∨ sp_bv y) = 2)) ∧ L = (z_cw S.1.1 S.1.2 (nI (sp_R S 0).length) (sp_F S 0) fa (sp_C S 0) (nI (sp_R S 1).length) (sp_F S 1) fb (sp_C S 1) mt false ft ct f0 g0 (sp_C S 2) (nI (sp_T S 0).length) 0 f1 g1 c1 (nI (sp_T S 1).length) 0 f2 g2 c2 (nI (sp_T S 2).length) 1 f3 g3 c3 m3 0 f4 g4 c4 m4 0 f5 g5 c5 m5 1 (nI (sp_E S 0).2.length) (sp_E S 0).1.2.1 (sp_E S 0).1.2.2.1 (sp_E S 0).1.2.2.2 (sp_E S 0).1.1 ef0 (nI (sp_E S 1).2.length) (sp_E S 1).1.2.1 (sp_E S 1).1.2.2.1 (sp_E S 1).1.2.2.2 (sp_E S 1).1.1 ef1 [])) := by
  refine z_body hl (by decide) rfl (Nat.le_of_ble_eq_true rfl) ?_
  show z_J G l mX8_merge (z_SX 20 14 120 (z_cw S.1.1 S.1.2 (nI (sp_R S 0).length) (sp_F S 0) fa (sp_C S 0) (nI (sp_R S 1).length) (sp_F S 1) fb (sp_C S 1) mt false ft ct f0 g0 (sp_C S 2) (nI (sp_T S 0).length) 0 f1 g1 c1 (nI (sp_T S 1).length) 0 f2 g2 c2 (nI (sp_T S 2).length) 1 f3 g3 c3 m3 0 f4 g4 c4 m4 0 f5 g5 c5 m5 1 (nI (sp_E S 0).2.length) (sp_E S 0).1.2.1 (sp_E S 0).1.2.2.1 (sp_E S 0).1.2.2.2 (sp_E S 0).1.1 ef0 (nI (sp_E S 1).2.length) (sp_E S 1).1.2.1 (sp_E S 1).1.2.2.1 (sp_E S 1).1.2.2.2 (sp_E S 1).1.1 ef1 []) (fun v L => sp_k32 t (sp_bk k ∨ (r < 0 ∨ 5 < r) ∨ sp_bv y) = 0 ∧ v = some (.int ((sp_mrg (sp_srt (sp_i t)) (sp_T S (sp_i t)) (sp_C S 2) (sp_i k) y r).1.getD (-9))) ∧ sp_CW (sp_tb S (sp_i t) (sp_mrg (sp_srt (sp_i t)) (sp_T S (sp_i t)) (sp_C S 2) (sp_i k) y r)) L) (fun E L => ((z_xI E ∧ sp_k32 t (sp_bk k ∨ (r < 0 ∨ 5 < r) ∨ sp_bv y) = 1) ∨ (z_xA E ∧ sp_k32 t (sp_bk k ∨ (r < 0 ∨ 5 < r) ∨ sp_bv y) = 2)) ∧ L = (z_cw S.1.1 S.1.2 (nI (sp_R S 0).length) (sp_F S 0) fa (sp_C S 0) (nI (sp_R S 1).length) (sp_F S 1) fb (sp_C S 1) mt false ft ct f0 g0 (sp_C S 2) (nI (sp_T S 0).length) 0 f1 g1 c1 (nI (sp_T S 1).length) 0 f2 g2 c2 (nI (sp_T S 2).length) 1 f3 g3 c3 m3 0 f4 g4 c4 m4 0 f5 g5 c5 m5 1 (nI (sp_E S 0).2.length) (sp_E S 0).1.2.1 (sp_E S 0).1.2.2.1 (sp_E S 0).1.2.2.2 (sp_E S 0).1.1 ef0 (nI (sp_E S 1).2.length) (sp_E S 1).1.2.1 (sp_E S 1).1.2.2.1 (sp_E S 1).1.2.2.2 (sp_E S 1).1.1 ef1 []))) 0 [(0, _), (1, _), (2, _), (3, _), (4, _)] [] _ 0 0
  refine j_aload_n dX8_merge_0 rfl rfl ?_
  refine j_iload_n dX8_merge_1 rfl ?_
  refine j_iload_n dX8_merge_2 rfl ?_
  refine j_iload dX8_merge_3 rfl ?_
  refine j_iload_n dX8_merge_5 rfl ?_
  refine j_callV (q := (RX8, TX8, 9)) dX8_merge_6 kX8_tableToReckon lX8_140 inX8_tableToReckon seX8_tableToReckon rfl rfl (z_dirX (c_X8_tableToReckon_e hl _ _ _ _ _ _ _ _ _ _ _ _ _ _ _ _ _ _ _ _ _ _ _ _ _ _ _ _ _ _ _ _ _ _ _ _ _ _ _ _ _ _ _ _ _ _ _ _ _ _ _ _ _ _ _ _ _ _ _ _)) (Nat.le_of_ble_eq_true rfl) ⟨(Nat.le_of_ble_eq_true rfl), (Nat.le_of_ble_eq_true rfl)⟩ rfl (Nat.le_of_ble_eq_true rfl) rfl rfl (fun _ _ h => by obtain ⟨_, ⟨h1, rfl⟩, rfl⟩ := h; exact ⟨rfl, rfl, h1.elim (fun z => Or.inl ⟨z.1, sp_k32_1 z.2⟩) (fun z => Or.inr ⟨z.1, sp_k32_2 z.2.1 z.2.2⟩), rfl⟩) ?_
  rintro _ _ ⟨_, ⟨_, rfl, hr, hk6, rfl⟩, rfl⟩
  have hk0 := hk6
  obtain ⟨q, hq, rfl⟩ := sp_nt (m := 19) rfl (by decide) (fun z => hk0 (Or.inl z))
  rcases hr with ⟨e_6, rfl⟩ | ⟨e_6, rfl⟩ | ⟨e_6, rfl⟩
  · subst e_6
    refine j_astore (lo' := [(5, _), (0, _), (1, _), (2, _), (3, _), (4, _)]) dX8_merge_9 rfl (by decide) rfl ?_
    refine j_aload_n dX8_merge_11 rfl rfl ?_
    refine j_aload dX8_merge_12 rfl rfl ?_
    refine j_iload_n dX8_merge_14 rfl ?_
    refine j_iload_n dX8_merge_15 rfl ?_
    refine j_iload dX8_merge_16 rfl ?_
    refine j_callV (q := (RX4, TX4, 5)) dX8_merge_18 kX4_join lX8_154 inX4_join seX4_join rfl rfl (z_frame [10, 11, 12, 13, 14] rfl (by decide) (Nat.le_of_ble_eq_true rfl) (c_X4_join_c hl (sp_C S 2) false _ _ (sp_C S 2) (sp_T S 0) q y r ht0 (by omega) (sp_vl (fun z => hk0 (Or.inr (Or.inr z)))))) (Nat.le_of_ble_eq_true rfl) ⟨(Nat.le_of_ble_eq_true rfl), (Nat.le_of_ble_eq_true rfl)⟩ rfl (Nat.le_of_ble_eq_true rfl) rfl rfl (fun _ _ h => h.elim) ?_
    rintro _ _ ⟨_, _, ⟨rfl, f9, g9, ht9, rfl⟩, rfl, rfl⟩
    refine j_ws (L' := z_cw _ _ _ _ _ _ _ _ _ _ _ _ _ _ _ _ _ _ _ _ _ _ _ _ _ _ _ _ _ _ _ _ _ _ _ _ _ _ _ _ _ _ _ _ _ _ _ _ _ _ _ _ _ _ _ _ []) (by decide) rfl rfl ?_
    refine j_callV (q := (RX8, TX8, 9)) dX8_merge_21 kX8_answer lX8_100 inX8_answer seX8_answer rfl rfl (z_dirF (c_X8_answer_e hl _ _ _ _ _ _ _ _ _ _ _ _ _ _ _ _ _ _ _ _ _ _ _ _ _ _ _ _ _ _ _ _ _ _ _ _ _ _ _ _ _ _ _ _ _ _ _ _ _ _ _ _ _ _ _ _ (sp_mrg false (sp_T S 0) (sp_C S 2) q y r).1 (sp_mrg_n ht0.1 (sp_vl (fun z => hk0 (Or.inr (Or.inr z))))))) (Nat.le_of_ble_eq_true rfl) ⟨(Nat.le_of_ble_eq_true rfl), (Nat.le_of_ble_eq_true rfl)⟩ rfl (Nat.le_of_ble_eq_true rfl) rfl rfl (fun _ _ h => h.elim) ?_
    rintro _ _ ⟨_, ⟨rfl, rfl⟩, rfl⟩
    refine j_iret dX8_merge_24 rfl rfl ?_ (Nat.le_of_ble_eq_true rfl) (Nat.le_of_ble_eq_true rfl)
    refine ⟨rfl, (by first | exact z_cwl | rfl), ?_⟩
    rw [sp_i0, sp_in' (n := q) (by omega)]
    exact ⟨sp_k32_0 (Or.inl rfl) hk0, rfl, (sp_CWe hra hrb ht9 ht1 ht2 he0 he1 hzm3 hzm4 hzm5 rfl)⟩
  · subst e_6
    refine j_astore (lo' := [(5, _), (0, _), (1, _), (2, _), (3, _), (4, _)]) dX8_merge_9 rfl (by decide) rfl ?_
    refine j_aload_n dX8_merge_11 rfl rfl ?_
    refine j_aload dX8_merge_12 rfl rfl ?_
    refine j_iload_n dX8_merge_14 rfl ?_
    refine j_iload_n dX8_merge_15 rfl ?_
    refine j_iload dX8_merge_16 rfl ?_
    refine j_callV (q := (RX4, TX4, 5)) dX8_merge_18 kX4_join lX8_154 inX4_join seX4_join rfl rfl (z_frame [16, 17, 18, 19, 20] rfl (by decide) (Nat.le_of_ble_eq_true rfl) (c_X4_join_c hl (sp_C S 2) false _ _ _ (sp_T S 1) q y r ht1 (by omega) (sp_vl (fun z => hk0 (Or.inr (Or.inr z)))))) (Nat.le_of_ble_eq_true rfl) ⟨(Nat.le_of_ble_eq_true rfl), (Nat.le_of_ble_eq_true rfl)⟩ rfl (Nat.le_of_ble_eq_true rfl) rfl rfl (fun _ _ h => h.elim) ?_
    rintro _ _ ⟨_, _, ⟨rfl, f9, g9, ht9, rfl⟩, rfl, rfl⟩
    refine j_ws (L' := z_cw _ _ _ _ _ _ _ _ _ _ _ _ _ _ _ _ _ _ _ _ _ _ _ _ _ _ _ _ _ _ _ _ _ _ _ _ _ _ _ _ _ _ _ _ _ _ _ _ _ _ _ _ _ _ _ _ []) (by decide) rfl rfl ?_
    refine j_callV (q := (RX8, TX8, 9)) dX8_merge_21 kX8_answer lX8_100 inX8_answer seX8_answer rfl rfl (z_dirF (c_X8_answer_e hl _ _ _ _ _ _ _ _ _ _ _ _ _ _ _ _ _ _ _ _ _ _ _ _ _ _ _ _ _ _ _ _ _ _ _ _ _ _ _ _ _ _ _ _ _ _ _ _ _ _ _ _ _ _ _ _ (sp_mrg false (sp_T S 1) (sp_C S 2) q y r).1 (sp_mrg_n ht1.1 (sp_vl (fun z => hk0 (Or.inr (Or.inr z))))))) (Nat.le_of_ble_eq_true rfl) ⟨(Nat.le_of_ble_eq_true rfl), (Nat.le_of_ble_eq_true rfl)⟩ rfl (Nat.le_of_ble_eq_true rfl) rfl rfl (fun _ _ h => h.elim) ?_
    rintro _ _ ⟨_, ⟨rfl, rfl⟩, rfl⟩
    refine j_iret dX8_merge_24 rfl rfl ?_ (Nat.le_of_ble_eq_true rfl) (Nat.le_of_ble_eq_true rfl)
    refine ⟨rfl, (by first | exact z_cwl | rfl), ?_⟩
    rw [sp_i1, sp_in' (n := q) (by omega)]
    exact ⟨sp_k32_0 (Or.inr (Or.inl rfl)) hk0, rfl, (sp_CWe hra hrb ht0 ht9 ht2 he0 he1 hzm3 hzm4 hzm5 rfl)⟩
  · subst e_6
    refine j_astore (lo' := [(5, _), (0, _), (1, _), (2, _), (3, _), (4, _)]) dX8_merge_9 rfl (by decide) rfl ?_
    refine j_aload_n dX8_merge_11 rfl rfl ?_
    refine j_aload dX8_merge_12 rfl rfl ?_
    refine j_iload_n dX8_merge_14 rfl ?_
    refine j_iload_n dX8_merge_15 rfl ?_
    refine j_iload dX8_merge_16 rfl ?_
    refine j_callV (q := (RX4, TX4, 5)) dX8_merge_18 kX4_join lX8_154 inX4_join seX4_join rfl rfl (z_frame [21, 22, 23, 24, 25] rfl (by decide) (Nat.le_of_ble_eq_true rfl) (c_X4_join_c hl (sp_C S 2) true _ _ _ (sp_T S 2) q y r ht2 (by omega) (sp_vl (fun z => hk0 (Or.inr (Or.inr z)))))) (Nat.le_of_ble_eq_true rfl) ⟨(Nat.le_of_ble_eq_true rfl), (Nat.le_of_ble_eq_true rfl)⟩ rfl (Nat.le_of_ble_eq_true rfl) rfl rfl (fun _ _ h => h.elim) ?_
    rintro _ _ ⟨_, _, ⟨rfl, f9, g9, ht9, rfl⟩, rfl, rfl⟩
    refine j_ws (L' := z_cw _ _ _ _ _ _ _ _ _ _ _ _ _ _ _ _ _ _ _ _ _ _ _ _ _ _ _ _ _ _ _ _ _ _ _ _ _ _ _ _ _ _ _ _ _ _ _ _ _ _ _ _ _ _ _ _ []) (by decide) rfl rfl ?_
    refine j_callV (q := (RX8, TX8, 9)) dX8_merge_21 kX8_answer lX8_100 inX8_answer seX8_answer rfl rfl (z_dirF (c_X8_answer_e hl _ _ _ _ _ _ _ _ _ _ _ _ _ _ _ _ _ _ _ _ _ _ _ _ _ _ _ _ _ _ _ _ _ _ _ _ _ _ _ _ _ _ _ _ _ _ _ _ _ _ _ _ _ _ _ _ (sp_mrg true (sp_T S 2) (sp_C S 2) q y r).1 (sp_mrg_n ht2.1 (sp_vl (fun z => hk0 (Or.inr (Or.inr z))))))) (Nat.le_of_ble_eq_true rfl) ⟨(Nat.le_of_ble_eq_true rfl), (Nat.le_of_ble_eq_true rfl)⟩ rfl (Nat.le_of_ble_eq_true rfl) rfl rfl (fun _ _ h => h.elim) ?_
    rintro _ _ ⟨_, ⟨rfl, rfl⟩, rfl⟩
    refine j_iret dX8_merge_24 rfl rfl ?_ (Nat.le_of_ble_eq_true rfl) (Nat.le_of_ble_eq_true rfl)
    refine ⟨rfl, (by first | exact z_cwl | rfl), ?_⟩
    rw [sp_i2, sp_in' (n := q) (by omega)]
    exact ⟨sp_k32_0 (Or.inr (Or.inr rfl)) hk0, rfl, (sp_CWe hra hrb ht0 ht1 ht9 he0 he1 hzm3 hzm4 hzm5 rfl)⟩
set_option maxRecDepth 100000 in
set_option maxHeartbeats 8000000 in
theorem c_X8_hearTable_p (hl : l.stackTraces = false) (S : sp_S) (fa : Nat → Int32) (fb : Nat → Int32) (mt : Int32) (ft : Nat → Int32) (ct : Nat → Int32) (f0 : Nat → Int32) (g0 : Nat → Int32) (f1 : Nat → Int32) (g1 : Nat → Int32) (c1 : Nat → Int32) (f2 : Nat → Int32) (g2 : Nat → Int32) (c2 : Nat → Int32) (f3 : Nat → Int32) (g3 : Nat → Int32) (c3 : Nat → Int32) (m3 : Int32) (f4 : Nat → Int32) (g4 : Nat → Int32) (c4 : Nat → Int32) (m4 : Int32) (f5 : Nat → Int32) (g5 : Nat → Int32) (c5 : Nat → Int32) (m5 : Int32) (ef0 : Nat → Int32) (ef1 : Nat → Int32) (t : Int32) (g : Int32) (ok : sp_ok S) (hra : z_row 12 (nI (sp_R S 0).length) fa (sp_R S 0)) (hrb : z_row 12 (nI (sp_R S 1).length) fb (sp_R S 1)) (ht0 : z_tba f0 g0 (sp_T S 0)) (ht1 : z_tba f1 g1 (sp_T S 1)) (ht2 : z_tba f2 g2 (sp_T S 2)) (he0 : z_row 10 (nI (sp_E S 0).2.length) ef0 (sp_E S 0).2) (he1 : z_row 10 (nI (sp_E S 1).2.length) ef1 (sp_E S 1).2) (hzm3 : z_m20 m3) (hzm4 : z_m20 m4) (hzm5 : z_m20 m5) : z_CX G l mX8_hearTable 20 14 120 (z_cw S.1.1 S.1.2 (nI (sp_R S 0).length) (sp_F S 0) fa (sp_C S 0) (nI (sp_R S 1).length) (sp_F S 1) fb (sp_C S 1) mt false ft ct f0 g0 (sp_C S 2) (nI (sp_T S 0).length) 0 f1 g1 c1 (nI (sp_T S 1).length) 0 f2 g2 c2 (nI (sp_T S 2).length) 1 f3 g3 c3 m3 0 f4 g4 c4 m4 0 f5 g5 c5 m5 1 (nI (sp_E S 0).2.length) (sp_E S 0).1.2.1 (sp_E S 0).1.2.2.1 (sp_E S 0).1.2.2.2 (sp_E S 0).1.1 ef0 (nI (sp_E S 1).2.length) (sp_E S 1).1.2.1 (sp_E S 1).1.2.2.1 (sp_E S 1).1.2.2.2 (sp_E S 1).1.1 ef1 []) [.ref 0, .int t, .int g] (fun v L => sp_k3b t g = 0 ∧ v = some (.int (sp_an (sp_htb S (sp_i t) (sp_i g)).1)) ∧ sp_CW (sp_htbS S (sp_i t) (sp_i g)) L) (fun E L => ((z_xI E ∧ sp_k3b t g = 1)) ∧ L = (z_cw S.1.1 S.1.2 (nI (sp_R S 0).length) (sp_F S 0) fa (sp_C S 0) (nI (sp_R S 1).length) (sp_F S 1) fb (sp_C S 1) mt false ft ct f0 g0 (sp_C S 2) (nI (sp_T S 0).length) 0 f1 g1 c1 (nI (sp_T S 1).length) 0 f2 g2 c2 (nI (sp_T S 2).length) 1 f3 g3 c3 m3 0 f4 g4 c4 m4 0 f5 g5 c5 m5 1 (nI (sp_E S 0).2.length) (sp_E S 0).1.2.1 (sp_E S 0).1.2.2.1 (sp_E S 0).1.2.2.2 (sp_E S 0).1.1 ef0 (nI (sp_E S 1).2.length) (sp_E S 1).1.2.1 (sp_E S 1).1.2.2.1 (sp_E S 1).1.2.2.2 (sp_E S 1).1.1 ef1 [])) := by
  refine z_body hl (by decide) rfl (Nat.le_of_ble_eq_true rfl) ?_
  show z_J G l mX8_hearTable (z_SX 20 14 120 (z_cw S.1.1 S.1.2 (nI (sp_R S 0).length) (sp_F S 0) fa (sp_C S 0) (nI (sp_R S 1).length) (sp_F S 1) fb (sp_C S 1) mt false ft ct f0 g0 (sp_C S 2) (nI (sp_T S 0).length) 0 f1 g1 c1 (nI (sp_T S 1).length) 0 f2 g2 c2 (nI (sp_T S 2).length) 1 f3 g3 c3 m3 0 f4 g4 c4 m4 0 f5 g5 c5 m5 1 (nI (sp_E S 0).2.length) (sp_E S 0).1.2.1 (sp_E S 0).1.2.2.1 (sp_E S 0).1.2.2.2 (sp_E S 0).1.1 ef0 (nI (sp_E S 1).2.length) (sp_E S 1).1.2.1 (sp_E S 1).1.2.2.1 (sp_E S 1).1.2.2.2 (sp_E S 1).1.1 ef1 []) (fun v L => sp_k3b t g = 0 ∧ v = some (.int (sp_an (sp_htb S (sp_i t) (sp_i g)).1)) ∧ sp_CW (sp_htbS S (sp_i t) (sp_i g)) L) (fun E L => ((z_xI E ∧ sp_k3b t g = 1)) ∧ L = (z_cw S.1.1 S.1.2 (nI (sp_R S 0).length) (sp_F S 0) fa (sp_C S 0) (nI (sp_R S 1).length) (sp_F S 1) fb (sp_C S 1) mt false ft ct f0 g0 (sp_C S 2) (nI (sp_T S 0).length) 0 f1 g1 c1 (nI (sp_T S 1).length) 0 f2 g2 c2 (nI (sp_T S 2).length) 1 f3 g3 c3 m3 0 f4 g4 c4 m4 0 f5 g5 c5 m5 1 (nI (sp_E S 0).2.length) (sp_E S 0).1.2.1 (sp_E S 0).1.2.2.1 (sp_E S 0).1.2.2.2 (sp_E S 0).1.1 ef0 (nI (sp_E S 1).2.length) (sp_E S 1).1.2.1 (sp_E S 1).1.2.2.1 (sp_E S 1).1.2.2.2 (sp_E S 1).1.1 ef1 []))) 0 [(0, _), (1, _), (2, _)] [] _ 0 0
  refine j_aload_n dX8_hearTable_0 rfl rfl ?_
  refine j_iload_n dX8_hearTable_1 rfl ?_
  refine j_callV (q := (RX8, TX8, 9)) dX8_hearTable_2 kX8_tableFor lX8_157 inX8_tableFor seX8_tableFor rfl rfl (z_dirX (c_X8_tableFor_e hl _ _ _ _ _ _ _ _ _ _ _ _ _ _ _ _ _ _ _ _ _ _ _ _ _ _ _ _ _ _ _ _ _ _ _ _ _ _ _ _ _ _ _ _ _ _ _ _ _ _ _ _ _ _ _ _ _)) (Nat.le_of_ble_eq_true rfl) ⟨(Nat.le_of_ble_eq_true rfl), (Nat.le_of_ble_eq_true rfl)⟩ rfl (Nat.le_of_ble_eq_true rfl) rfl rfl (fun _ _ h => by obtain ⟨_, ⟨h1, rfl⟩, rfl⟩ := h; exact ⟨rfl, rfl, ⟨h1.1, sp_k3b_1 h1.2⟩, rfl⟩) ?_
  rintro _ _ ⟨_, ⟨_, rfl, hr, rfl⟩, rfl⟩
  rcases hr with ⟨e_2, rfl⟩ | ⟨e_2, rfl⟩ | ⟨e_2, rfl⟩
  · subst e_2
    refine j_astore_n (lo' := [(3, _), (0, _), (1, _), (2, _)]) dX8_hearTable_5 rfl (by decide) rfl ?_
    refine j_aload_n dX8_hearTable_6 rfl rfl ?_
    refine j_iload_n dX8_hearTable_7 rfl ?_
    refine j_callV (q := (RX8, TX8, 9)) dX8_hearTable_8 kX8_hearerFor lX8_87 inX8_hearerFor seX8_hearerFor rfl rfl (z_dirX (c_X8_hearerFor_e hl _ _ _ _ _ _ _ _ _ _ _ _ _ _ _ _ _ _ _ _ _ _ _ _ _ _ _ _ _ _ _ _ _ _ _ _ _ _ _ _ _ _ _ _ _ _ _ _ _ _ _ _ _ _ _ _ _)) (Nat.le_of_ble_eq_true rfl) ⟨(Nat.le_of_ble_eq_true rfl), (Nat.le_of_ble_eq_true rfl)⟩ rfl (Nat.le_of_ble_eq_true rfl) rfl rfl (fun _ _ h => by obtain ⟨_, ⟨h1, rfl⟩, rfl⟩ := h; exact ⟨rfl, rfl, ⟨h1.1, sp_k3b_1' h1.2⟩, rfl⟩) ?_
    rintro _ _ ⟨_, ⟨_, rfl, hr, rfl⟩, rfl⟩
    rcases hr with ⟨e_8, rfl⟩ | ⟨e_8, rfl⟩
    · subst e_8
      refine j_astore (lo' := [(4, _), (3, _), (0, _), (1, _), (2, _)]) dX8_hearTable_11 rfl (by decide) rfl ?_
      refine j_aload_n dX8_hearTable_13 rfl rfl ?_
      refine j_new (w' := (z_cw _ _ _ _ _ _ _ _ _ _ _ _ _ _ _ _ _ _ _ _ _ _ _ _ _ _ _ _ _ _ _ _ _ _ _ _ _ _ _ _ _ _ _ _ _ _ _ _ _ _ _ _ _ _ _ _ [.inr (10, [_, _, _, _, _])], z_no)) (n := 51) dX8_hearTable_14 nX8_160 rfl (z_al_l rfl rfl) (Nat.le_of_ble_eq_true rfl) (Nat.le_of_ble_eq_true rfl) ?_
      refine j_dup dX8_hearTable_17 rfl ?_
      refine j_aload_n dX8_hearTable_18 rfl rfl ?_
      refine j_callI dX8_hearTable_19 kX5_init rfl lX8_162 inX5_init rfl (z_frame [51, 10, 11, 12, 13, 14] rfl (by decide) (Nat.le_of_ble_eq_true rfl) (c_X5_init_e hl false _ _ _ _)) (Nat.le_of_ble_eq_true rfl) ⟨(Nat.le_of_ble_eq_true rfl), (Nat.le_of_ble_eq_true rfl)⟩ rfl (Nat.le_of_ble_eq_true rfl) rfl rfl (fun _ _ h => h.elim) ?_
      rintro _ _ ⟨_, _, ⟨rfl, rfl⟩, rfl, rfl⟩
      refine j_ws (L' := z_cw _ _ _ _ _ _ _ _ _ _ _ _ _ _ _ _ _ _ _ _ _ _ _ _ _ _ _ _ _ _ _ _ _ _ _ _ _ _ _ _ _ _ _ _ _ _ _ _ _ _ _ _ _ _ _ _ [.inr (10, [_, _, _, _, _])]) (by decide) rfl rfl ?_
      refine j_aload dX8_hearTable_22 rfl rfl ?_
      refine j_callS dX8_hearTable_24 kX8_hearOut lX8_96 stX8_hearOut (z_frame [51, 10, 11, 12, 13, 14, 27, 28] rfl (by decide) (Nat.le_of_ble_eq_true rfl) (c_X8_hearOut_X5_c hl (z_bp (sp_C S 2) 0) _ _ false _ _ _ _ (sp_T S 0) (sp_E S 0) _ ht0 rfl he0)) (Nat.le_of_ble_eq_true rfl) ⟨(Nat.le_of_ble_eq_true rfl), (Nat.le_of_ble_eq_true rfl)⟩ rfl (Nat.le_of_ble_eq_true rfl) rfl rfl (fun _ _ h => h.elim) ?_
      rintro _ _ ⟨_, _, ⟨rfl, _, _, _, ef9, he9, rfl⟩, rfl, rfl⟩
      refine j_ws (L' := z_cw _ _ _ _ _ _ _ _ _ _ _ _ _ _ _ _ _ _ _ _ _ _ _ _ _ _ _ _ _ _ _ _ _ _ _ _ _ _ _ _ _ _ _ _ _ _ _ _ _ _ _ _ _ _ _ _ [.inr (10, [_, _, _, _, _])]) (by decide) rfl rfl ?_
      refine j_lo (lo' := []) z_q0 ?_
      refine j_dropL (n := 51) rfl (Nat.le_of_ble_eq_true rfl) (Nat.le_of_ble_eq_true rfl) (Nat.le_of_ble_eq_true rfl) z_cwc rfl rfl ?_
      refine j_w (z_cw _ _ _ _ _ _ _ _ _ _ _ _ _ _ _ _ _ _ _ _ _ _ _ _ _ _ _ _ _ _ _ _ _ _ _ _ _ _ _ _ _ _ _ _ _ _ _ _ _ _ _ _ _ _ _ _ [], z_no) rfl ?_
      refine j_callV (q := (RX8, TX8, 9)) dX8_hearTable_27 kX8_answer lX8_100 inX8_answer seX8_answer rfl rfl (z_dirF (c_X8_answer_f_e hl _ _ _ _ _ _ _ _ _ _ _ _ _ _ _ _ _ _ _ _ _ _ _ _ _ _ _ _ _ _ _ _ _ _ _ _ _ _ _ _ _ _ _ _ _ _ _ _ _ _ _ _ _ _ _ _ (sp_htb S 0 0).1 nI (fun y hy z => absurd (nI_pos' (n := y) (by have h8 := sp_ho_n _ _ _ _ hy; rw [sp_prl] at h8; have := ht0.len; omega)) (by rw [z]; decide)))) (Nat.le_of_ble_eq_true rfl) ⟨(Nat.le_of_ble_eq_true rfl), (Nat.le_of_ble_eq_true rfl)⟩ rfl (Nat.le_of_ble_eq_true rfl) rfl rfl (fun _ _ h => h.elim) ?_
      rintro _ _ ⟨_, ⟨rfl, rfl⟩, rfl⟩
      refine j_iret dX8_hearTable_30 rfl rfl ?_ (Nat.le_of_ble_eq_true rfl) (Nat.le_of_ble_eq_true rfl)
      refine ⟨rfl, (by first | exact z_cwl | rfl), ?_⟩
      try rw [sp_i0]
      exact ⟨sp_k3b_0 (Or.inl rfl) (Or.inl rfl), rfl, (sp_CWe hra hrb ht0 ht1 ht2 he9 he1 hzm3 hzm4 hzm5 rfl)⟩
    · subst e_8
      refine j_astore (lo' := [(4, _), (3, _), (0, _), (1, _), (2, _)]) dX8_hearTable_11 rfl (by decide) rfl ?_
      refine j_aload_n dX8_hearTable_13 rfl rfl ?_
      refine j_new (w' := (z_cw _ _ _ _ _ _ _ _ _ _ _ _ _ _ _ _ _ _ _ _ _ _ _ _ _ _ _ _ _ _ _ _ _ _ _ _ _ _ _ _ _ _ _ _ _ _ _ _ _ _ _ _ _ _ _ _ [.inr (10, [_, _, _, _, _])], z_no)) (n := 51) dX8_hearTable_14 nX8_160 rfl (z_al_l rfl rfl) (Nat.le_of_ble_eq_true rfl) (Nat.le_of_ble_eq_true rfl) ?_
      refine j_dup dX8_hearTable_17 rfl ?_
      refine j_aload_n dX8_hearTable_18 rfl rfl ?_
      refine j_callI dX8_hearTable_19 kX5_init rfl lX8_162 inX5_init rfl (z_frame [51, 10, 11, 12, 13, 14] rfl (by decide) (Nat.le_of_ble_eq_true rfl) (c_X5_init_e hl false _ _ _ _)) (Nat.le_of_ble_eq_true rfl) ⟨(Nat.le_of_ble_eq_true rfl), (Nat.le_of_ble_eq_true rfl)⟩ rfl (Nat.le_of_ble_eq_true rfl) rfl rfl (fun _ _ h => h.elim) ?_
      rintro _ _ ⟨_, _, ⟨rfl, rfl⟩, rfl, rfl⟩
      refine j_ws (L' := z_cw _ _ _ _ _ _ _ _ _ _ _ _ _ _ _ _ _ _ _ _ _ _ _ _ _ _ _ _ _ _ _ _ _ _ _ _ _ _ _ _ _ _ _ _ _ _ _ _ _ _ _ _ _ _ _ _ [.inr (10, [_, _, _, _, _])]) (by decide) rfl rfl ?_
      refine j_aload dX8_hearTable_22 rfl rfl ?_
      refine j_callS dX8_hearTable_24 kX8_hearOut lX8_96 stX8_hearOut (z_frame [51, 10, 11, 12, 13, 14, 29, 30] rfl (by decide) (Nat.le_of_ble_eq_true rfl) (c_X8_hearOut_X5_c hl (z_bp (sp_C S 2) 0) _ _ false _ _ _ _ (sp_T S 0) (sp_E S 1) _ ht0 rfl he1)) (Nat.le_of_ble_eq_true rfl) ⟨(Nat.le_of_ble_eq_true rfl), (Nat.le_of_ble_eq_true rfl)⟩ rfl (Nat.le_of_ble_eq_true rfl) rfl rfl (fun _ _ h => h.elim) ?_
      rintro _ _ ⟨_, _, ⟨rfl, _, _, _, ef9, he9, rfl⟩, rfl, rfl⟩
      refine j_ws (L' := z_cw _ _ _ _ _ _ _ _ _ _ _ _ _ _ _ _ _ _ _ _ _ _ _ _ _ _ _ _ _ _ _ _ _ _ _ _ _ _ _ _ _ _ _ _ _ _ _ _ _ _ _ _ _ _ _ _ [.inr (10, [_, _, _, _, _])]) (by decide) rfl rfl ?_
      refine j_lo (lo' := []) z_q0 ?_
      refine j_dropL (n := 51) rfl (Nat.le_of_ble_eq_true rfl) (Nat.le_of_ble_eq_true rfl) (Nat.le_of_ble_eq_true rfl) z_cwc rfl rfl ?_
      refine j_w (z_cw _ _ _ _ _ _ _ _ _ _ _ _ _ _ _ _ _ _ _ _ _ _ _ _ _ _ _ _ _ _ _ _ _ _ _ _ _ _ _ _ _ _ _ _ _ _ _ _ _ _ _ _ _ _ _ _ [], z_no) rfl ?_
      refine j_callV (q := (RX8, TX8, 9)) dX8_hearTable_27 kX8_answer lX8_100 inX8_answer seX8_answer rfl rfl (z_dirF (c_X8_answer_f_e hl _ _ _ _ _ _ _ _ _ _ _ _ _ _ _ _ _ _ _ _ _ _ _ _ _ _ _ _ _ _ _ _ _ _ _ _ _ _ _ _ _ _ _ _ _ _ _ _ _ _ _ _ _ _ _ _ (sp_htb S 0 1).1 nI (fun y hy z => absurd (nI_pos' (n := y) (by have h8 := sp_ho_n _ _ _ _ hy; rw [sp_prl] at h8; have := ht0.len; omega)) (by rw [z]; decide)))) (Nat.le_of_ble_eq_true rfl) ⟨(Nat.le_of_ble_eq_true rfl), (Nat.le_of_ble_eq_true rfl)⟩ rfl (Nat.le_of_ble_eq_true rfl) rfl rfl (fun _ _ h => h.elim) ?_
      rintro _ _ ⟨_, ⟨rfl, rfl⟩, rfl⟩
      refine j_iret dX8_hearTable_30 rfl rfl ?_ (Nat.le_of_ble_eq_true rfl) (Nat.le_of_ble_eq_true rfl)
      refine ⟨rfl, (by first | exact z_cwl | rfl), ?_⟩
      try rw [sp_i0]
      try rw [sp_i1]
      exact ⟨sp_k3b_0 (Or.inl rfl) (Or.inr rfl), rfl, (sp_CWe hra hrb ht0 ht1 ht2 he0 he9 hzm3 hzm4 hzm5 rfl)⟩
  · subst e_2
    refine j_astore_n (lo' := [(3, _), (0, _), (1, _), (2, _)]) dX8_hearTable_5 rfl (by decide) rfl ?_
    refine j_aload_n dX8_hearTable_6 rfl rfl ?_
    refine j_iload_n dX8_hearTable_7 rfl ?_
    refine j_callV (q := (RX8, TX8, 9)) dX8_hearTable_8 kX8_hearerFor lX8_87 inX8_hearerFor seX8_hearerFor rfl rfl (z_dirX (c_X8_hearerFor_e hl _ _ _ _ _ _ _ _ _ _ _ _ _ _ _ _ _ _ _ _ _ _ _ _ _ _ _ _ _ _ _ _ _ _ _ _ _ _ _ _ _ _ _ _ _ _ _ _ _ _ _ _ _ _ _ _ _)) (Nat.le_of_ble_eq_true rfl) ⟨(Nat.le_of_ble_eq_true rfl), (Nat.le_of_ble_eq_true rfl)⟩ rfl (Nat.le_of_ble_eq_true rfl) rfl rfl (fun _ _ h => by obtain ⟨_, ⟨h1, rfl⟩, rfl⟩ := h; exact ⟨rfl, rfl, ⟨h1.1, sp_k3b_1' h1.2⟩, rfl⟩) ?_
    rintro _ _ ⟨_, ⟨_, rfl, hr, rfl⟩, rfl⟩
    rcases hr with ⟨e_8, rfl⟩ | ⟨e_8, rfl⟩
    · subst e_8
      refine j_astore (lo' := [(4, _), (3, _), (0, _), (1, _), (2, _)]) dX8_hearTable_11 rfl (by decide) rfl ?_
      refine j_aload_n dX8_hearTable_13 rfl rfl ?_
      refine j_new (w' := (z_cw _ _ _ _ _ _ _ _ _ _ _ _ _ _ _ _ _ _ _ _ _ _ _ _ _ _ _ _ _ _ _ _ _ _ _ _ _ _ _ _ _ _ _ _ _ _ _ _ _ _ _ _ _ _ _ _ [.inr (10, [_, _, _, _, _])], z_no)) (n := 51) dX8_hearTable_14 nX8_160 rfl (z_al_l rfl rfl) (Nat.le_of_ble_eq_true rfl) (Nat.le_of_ble_eq_true rfl) ?_
      refine j_dup dX8_hearTable_17 rfl ?_
      refine j_aload_n dX8_hearTable_18 rfl rfl ?_
      refine j_callI dX8_hearTable_19 kX5_init rfl lX8_162 inX5_init rfl (z_frame [51, 16, 17, 18, 19, 20] rfl (by decide) (Nat.le_of_ble_eq_true rfl) (c_X5_init_e hl false _ _ _ _)) (Nat.le_of_ble_eq_true rfl) ⟨(Nat.le_of_ble_eq_true rfl), (Nat.le_of_ble_eq_true rfl)⟩ rfl (Nat.le_of_ble_eq_true rfl) rfl rfl (fun _ _ h => h.elim) ?_
      rintro _ _ ⟨_, _, ⟨rfl, rfl⟩, rfl, rfl⟩
      refine j_ws (L' := z_cw _ _ _ _ _ _ _ _ _ _ _ _ _ _ _ _ _ _ _ _ _ _ _ _ _ _ _ _ _ _ _ _ _ _ _ _ _ _ _ _ _ _ _ _ _ _ _ _ _ _ _ _ _ _ _ _ [.inr (10, [_, _, _, _, _])]) (by decide) rfl rfl ?_
      refine j_aload dX8_hearTable_22 rfl rfl ?_
      refine j_callS dX8_hearTable_24 kX8_hearOut lX8_96 stX8_hearOut (z_frame [51, 16, 17, 18, 19, 20, 27, 28] rfl (by decide) (Nat.le_of_ble_eq_true rfl) (c_X8_hearOut_X5_c hl (z_bp (sp_C S 2) 0) _ _ false _ _ _ _ (sp_T S 1) (sp_E S 0) _ ht1 rfl he0)) (Nat.le_of_ble_eq_true rfl) ⟨(Nat.le_of_ble_eq_true rfl), (Nat.le_of_ble_eq_true rfl)⟩ rfl (Nat.le_of_ble_eq_true rfl) rfl rfl (fun _ _ h => h.elim) ?_
      rintro _ _ ⟨_, _, ⟨rfl, _, _, _, ef9, he9, rfl⟩, rfl, rfl⟩
      refine j_ws (L' := z_cw _ _ _ _ _ _ _ _ _ _ _ _ _ _ _ _ _ _ _ _ _ _ _ _ _ _ _ _ _ _ _ _ _ _ _ _ _ _ _ _ _ _ _ _ _ _ _ _ _ _ _ _ _ _ _ _ [.inr (10, [_, _, _, _, _])]) (by decide) rfl rfl ?_
      refine j_lo (lo' := []) z_q0 ?_
      refine j_dropL (n := 51) rfl (Nat.le_of_ble_eq_true rfl) (Nat.le_of_ble_eq_true rfl) (Nat.le_of_ble_eq_true rfl) z_cwc rfl rfl ?_
      refine j_w (z_cw _ _ _ _ _ _ _ _ _ _ _ _ _ _ _ _ _ _ _ _ _ _ _ _ _ _ _ _ _ _ _ _ _ _ _ _ _ _ _ _ _ _ _ _ _ _ _ _ _ _ _ _ _ _ _ _ [], z_no) rfl ?_
      refine j_callV (q := (RX8, TX8, 9)) dX8_hearTable_27 kX8_answer lX8_100 inX8_answer seX8_answer rfl rfl (z_dirF (c_X8_answer_f_e hl _ _ _ _ _ _ _ _ _ _ _ _ _ _ _ _ _ _ _ _ _ _ _ _ _ _ _ _ _ _ _ _ _ _ _ _ _ _ _ _ _ _ _ _ _ _ _ _ _ _ _ _ _ _ _ _ (sp_htb S 1 0).1 nI (fun y hy z => absurd (nI_pos' (n := y) (by have h8 := sp_ho_n _ _ _ _ hy; rw [sp_prl] at h8; have := ht1.len; omega)) (by rw [z]; decide)))) (Nat.le_of_ble_eq_true rfl) ⟨(Nat.le_of_ble_eq_true rfl), (Nat.le_of_ble_eq_true rfl)⟩ rfl (Nat.le_of_ble_eq_true rfl) rfl rfl (fun _ _ h => h.elim) ?_
      rintro _ _ ⟨_, ⟨rfl, rfl⟩, rfl⟩
      refine j_iret dX8_hearTable_30 rfl rfl ?_ (Nat.le_of_ble_eq_true rfl) (Nat.le_of_ble_eq_true rfl)
      refine ⟨rfl, (by first | exact z_cwl | rfl), ?_⟩
      try rw [sp_i0]
      try rw [sp_i1]
      exact ⟨sp_k3b_0 (Or.inr (Or.inl rfl)) (Or.inl rfl), rfl, (sp_CWe hra hrb ht0 ht1 ht2 he9 he1 hzm3 hzm4 hzm5 rfl)⟩
    · subst e_8
      refine j_astore (lo' := [(4, _), (3, _), (0, _), (1, _), (2, _)]) dX8_hearTable_11 rfl (by decide) rfl ?_
      refine j_aload_n dX8_hearTable_13 rfl rfl ?_
      refine j_new (w' := (z_cw _ _ _ _ _ _ _ _ _ _ _ _ _ _ _ _ _ _ _ _ _ _ _ _ _ _ _ _ _ _ _ _ _ _ _ _ _ _ _ _ _ _ _ _ _ _ _ _ _ _ _ _ _ _ _ _ [.inr (10, [_, _, _, _, _])], z_no)) (n := 51) dX8_hearTable_14 nX8_160 rfl (z_al_l rfl rfl) (Nat.le_of_ble_eq_true rfl) (Nat.le_of_ble_eq_true rfl) ?_
      refine j_dup dX8_hearTable_17 rfl ?_
      refine j_aload_n dX8_hearTable_18 rfl rfl ?_
      refine j_callI dX8_hearTable_19 kX5_init rfl lX8_162 inX5_init rfl (z_frame [51, 16, 17, 18, 19, 20] rfl (by decide) (Nat.le_of_ble_eq_true rfl) (c_X5_init_e hl false _ _ _ _)) (Nat.le_of_ble_eq_true rfl) ⟨(Nat.le_of_ble_eq_true rfl), (Nat.le_of_ble_eq_true rfl)⟩ rfl (Nat.le_of_ble_eq_true rfl) rfl rfl (fun _ _ h => h.elim) ?_
      rintro _ _ ⟨_, _, ⟨rfl, rfl⟩, rfl, rfl⟩
      refine j_ws (L' := z_cw _ _ _ _ _ _ _ _ _ _ _ _ _ _ _ _ _ _ _ _ _ _ _ _ _ _ _ _ _ _ _ _ _ _ _ _ _ _ _ _ _ _ _ _ _ _ _ _ _ _ _ _ _ _ _ _ [.inr (10, [_, _, _, _, _])]) (by decide) rfl rfl ?_
      refine j_aload dX8_hearTable_22 rfl rfl ?_
      refine j_callS dX8_hearTable_24 kX8_hearOut lX8_96 stX8_hearOut (z_frame [51, 16, 17, 18, 19, 20, 29, 30] rfl (by decide) (Nat.le_of_ble_eq_true rfl) (c_X8_hearOut_X5_c hl (z_bp (sp_C S 2) 0) _ _ false _ _ _ _ (sp_T S 1) (sp_E S 1) _ ht1 rfl he1)) (Nat.le_of_ble_eq_true rfl) ⟨(Nat.le_of_ble_eq_true rfl), (Nat.le_of_ble_eq_true rfl)⟩ rfl (Nat.le_of_ble_eq_true rfl) rfl rfl (fun _ _ h => h.elim) ?_
      rintro _ _ ⟨_, _, ⟨rfl, _, _, _, ef9, he9, rfl⟩, rfl, rfl⟩
      refine j_ws (L' := z_cw _ _ _ _ _ _ _ _ _ _ _ _ _ _ _ _ _ _ _ _ _ _ _ _ _ _ _ _ _ _ _ _ _ _ _ _ _ _ _ _ _ _ _ _ _ _ _ _ _ _ _ _ _ _ _ _ [.inr (10, [_, _, _, _, _])]) (by decide) rfl rfl ?_
      refine j_lo (lo' := []) z_q0 ?_
      refine j_dropL (n := 51) rfl (Nat.le_of_ble_eq_true rfl) (Nat.le_of_ble_eq_true rfl) (Nat.le_of_ble_eq_true rfl) z_cwc rfl rfl ?_
      refine j_w (z_cw _ _ _ _ _ _ _ _ _ _ _ _ _ _ _ _ _ _ _ _ _ _ _ _ _ _ _ _ _ _ _ _ _ _ _ _ _ _ _ _ _ _ _ _ _ _ _ _ _ _ _ _ _ _ _ _ [], z_no) rfl ?_
      refine j_callV (q := (RX8, TX8, 9)) dX8_hearTable_27 kX8_answer lX8_100 inX8_answer seX8_answer rfl rfl (z_dirF (c_X8_answer_f_e hl _ _ _ _ _ _ _ _ _ _ _ _ _ _ _ _ _ _ _ _ _ _ _ _ _ _ _ _ _ _ _ _ _ _ _ _ _ _ _ _ _ _ _ _ _ _ _ _ _ _ _ _ _ _ _ _ (sp_htb S 1 1).1 nI (fun y hy z => absurd (nI_pos' (n := y) (by have h8 := sp_ho_n _ _ _ _ hy; rw [sp_prl] at h8; have := ht1.len; omega)) (by rw [z]; decide)))) (Nat.le_of_ble_eq_true rfl) ⟨(Nat.le_of_ble_eq_true rfl), (Nat.le_of_ble_eq_true rfl)⟩ rfl (Nat.le_of_ble_eq_true rfl) rfl rfl (fun _ _ h => h.elim) ?_
      rintro _ _ ⟨_, ⟨rfl, rfl⟩, rfl⟩
      refine j_iret dX8_hearTable_30 rfl rfl ?_ (Nat.le_of_ble_eq_true rfl) (Nat.le_of_ble_eq_true rfl)
      refine ⟨rfl, (by first | exact z_cwl | rfl), ?_⟩
      try rw [sp_i1]
      exact ⟨sp_k3b_0 (Or.inr (Or.inl rfl)) (Or.inr rfl), rfl, (sp_CWe hra hrb ht0 ht1 ht2 he0 he9 hzm3 hzm4 hzm5 rfl)⟩
  · subst e_2
    refine j_astore_n (lo' := [(3, _), (0, _), (1, _), (2, _)]) dX8_hearTable_5 rfl (by decide) rfl ?_
    refine j_aload_n dX8_hearTable_6 rfl rfl ?_
    refine j_iload_n dX8_hearTable_7 rfl ?_
    refine j_callV (q := (RX8, TX8, 9)) dX8_hearTable_8 kX8_hearerFor lX8_87 inX8_hearerFor seX8_hearerFor rfl rfl (z_dirX (c_X8_hearerFor_e hl _ _ _ _ _ _ _ _ _ _ _ _ _ _ _ _ _ _ _ _ _ _ _ _ _ _ _ _ _ _ _ _ _ _ _ _ _ _ _ _ _ _ _ _ _ _ _ _ _ _ _ _ _ _ _ _ _)) (Nat.le_of_ble_eq_true rfl) ⟨(Nat.le_of_ble_eq_true rfl), (Nat.le_of_ble_eq_true rfl)⟩ rfl (Nat.le_of_ble_eq_true rfl) rfl rfl (fun _ _ h => by obtain ⟨_, ⟨h1, rfl⟩, rfl⟩ := h; exact ⟨rfl, rfl, ⟨h1.1, sp_k3b_1' h1.2⟩, rfl⟩) ?_
    rintro _ _ ⟨_, ⟨_, rfl, hr, rfl⟩, rfl⟩
    rcases hr with ⟨e_8, rfl⟩ | ⟨e_8, rfl⟩
    · subst e_8
      refine j_astore (lo' := [(4, _), (3, _), (0, _), (1, _), (2, _)]) dX8_hearTable_11 rfl (by decide) rfl ?_
      refine j_aload_n dX8_hearTable_13 rfl rfl ?_
      refine j_new (w' := (z_cw _ _ _ _ _ _ _ _ _ _ _ _ _ _ _ _ _ _ _ _ _ _ _ _ _ _ _ _ _ _ _ _ _ _ _ _ _ _ _ _ _ _ _ _ _ _ _ _ _ _ _ _ _ _ _ _ [.inr (10, [_, _, _, _, _])], z_no)) (n := 51) dX8_hearTable_14 nX8_160 rfl (z_al_l rfl rfl) (Nat.le_of_ble_eq_true rfl) (Nat.le_of_ble_eq_true rfl) ?_
      refine j_dup dX8_hearTable_17 rfl ?_
      refine j_aload_n dX8_hearTable_18 rfl rfl ?_
      refine j_callI dX8_hearTable_19 kX5_init rfl lX8_162 inX5_init rfl (z_frame [51, 21, 22, 23, 24, 25] rfl (by decide) (Nat.le_of_ble_eq_true rfl) (c_X5_init_e hl true _ _ _ _)) (Nat.le_of_ble_eq_true rfl) ⟨(Nat.le_of_ble_eq_true rfl), (Nat.le_of_ble_eq_true rfl)⟩ rfl (Nat.le_of_ble_eq_true rfl) rfl rfl (fun _ _ h => h.elim) ?_
      rintro _ _ ⟨_, _, ⟨rfl, rfl⟩, rfl, rfl⟩
      refine j_ws (L' := z_cw _ _ _ _ _ _ _ _ _ _ _ _ _ _ _ _ _ _ _ _ _ _ _ _ _ _ _ _ _ _ _ _ _ _ _ _ _ _ _ _ _ _ _ _ _ _ _ _ _ _ _ _ _ _ _ _ [.inr (10, [_, _, _, _, _])]) (by decide) rfl rfl ?_
      refine j_aload dX8_hearTable_22 rfl rfl ?_
      refine j_callS dX8_hearTable_24 kX8_hearOut lX8_96 stX8_hearOut (z_frame [51, 21, 22, 23, 24, 25, 27, 28] rfl (by decide) (Nat.le_of_ble_eq_true rfl) (c_X8_hearOut_X5_c hl (z_bp (sp_C S 2) 0) _ _ true _ _ _ _ (sp_T S 2) (sp_E S 0) _ ht2 rfl he0)) (Nat.le_of_ble_eq_true rfl) ⟨(Nat.le_of_ble_eq_true rfl), (Nat.le_of_ble_eq_true rfl)⟩ rfl (Nat.le_of_ble_eq_true rfl) rfl rfl (fun _ _ h => h.elim) ?_
      rintro _ _ ⟨_, _, ⟨rfl, _, _, _, ef9, he9, rfl⟩, rfl, rfl⟩
      refine j_ws (L' := z_cw _ _ _ _ _ _ _ _ _ _ _ _ _ _ _ _ _ _ _ _ _ _ _ _ _ _ _ _ _ _ _ _ _ _ _ _ _ _ _ _ _ _ _ _ _ _ _ _ _ _ _ _ _ _ _ _ [.inr (10, [_, _, _, _, _])]) (by decide) rfl rfl ?_
      refine j_lo (lo' := []) z_q0 ?_
      refine j_dropL (n := 51) rfl (Nat.le_of_ble_eq_true rfl) (Nat.le_of_ble_eq_true rfl) (Nat.le_of_ble_eq_true rfl) z_cwc rfl rfl ?_
      refine j_w (z_cw _ _ _ _ _ _ _ _ _ _ _ _ _ _ _ _ _ _ _ _ _ _ _ _ _ _ _ _ _ _ _ _ _ _ _ _ _ _ _ _ _ _ _ _ _ _ _ _ _ _ _ _ _ _ _ _ [], z_no) rfl ?_
      refine j_callV (q := (RX8, TX8, 9)) dX8_hearTable_27 kX8_answer lX8_100 inX8_answer seX8_answer rfl rfl (z_dirF (c_X8_answer_f_e hl _ _ _ _ _ _ _ _ _ _ _ _ _ _ _ _ _ _ _ _ _ _ _ _ _ _ _ _ _ _ _ _ _ _ _ _ _ _ _ _ _ _ _ _ _ _ _ _ _ _ _ _ _ _ _ _ (sp_htb S 2 0).1 nI (fun y hy z => absurd (nI_pos' (n := y) (by have h8 := sp_ho_n _ _ _ _ hy; rw [sp_prl] at h8; have := ht2.len; omega)) (by rw [z]; decide)))) (Nat.le_of_ble_eq_true rfl) ⟨(Nat.le_of_ble_eq_true rfl), (Nat.le_of_ble_eq_true rfl)⟩ rfl (Nat.le_of_ble_eq_true rfl) rfl rfl (fun _ _ h => h.elim) ?_
      rintro _ _ ⟨_, ⟨rfl, rfl⟩, rfl⟩
      refine j_iret dX8_hearTable_30 rfl rfl ?_ (Nat.le_of_ble_eq_true rfl) (Nat.le_of_ble_eq_true rfl)
      refine ⟨rfl, (by first | exact z_cwl | rfl), ?_⟩
      try rw [sp_i0]
      try rw [sp_i2]
      exact ⟨sp_k3b_0 (Or.inr (Or.inr rfl)) (Or.inl rfl), rfl, (sp_CWe hra hrb ht0 ht1 ht2 he9 he1 hzm3 hzm4 hzm5 rfl)⟩
    · subst e_8
      refine j_astore (lo' := [(4, _), (3, _), (0, _), (1, _), (2, _)]) dX8_hearTable_11 rfl (by decide) rfl ?_
      refine j_aload_n dX8_hearTable_13 rfl rfl ?_
      refine j_new (w' := (z_cw _ _ _ _ _ _ _ _ _ _ _ _ _ _ _ _ _ _ _ _ _ _ _ _ _ _ _ _ _ _ _ _ _ _ _ _ _ _ _ _ _ _ _ _ _ _ _ _ _ _ _ _ _ _ _ _ [.inr (10, [_, _, _, _, _])], z_no)) (n := 51) dX8_hearTable_14 nX8_160 rfl (z_al_l rfl rfl) (Nat.le_of_ble_eq_true rfl) (Nat.le_of_ble_eq_true rfl) ?_
      refine j_dup dX8_hearTable_17 rfl ?_
      refine j_aload_n dX8_hearTable_18 rfl rfl ?_
      refine j_callI dX8_hearTable_19 kX5_init rfl lX8_162 inX5_init rfl (z_frame [51, 21, 22, 23, 24, 25] rfl (by decide) (Nat.le_of_ble_eq_true rfl) (c_X5_init_e hl true _ _ _ _)) (Nat.le_of_ble_eq_true rfl) ⟨(Nat.le_of_ble_eq_true rfl), (Nat.le_of_ble_eq_true rfl)⟩ rfl (Nat.le_of_ble_eq_true rfl) rfl rfl (fun _ _ h => h.elim) ?_
      rintro _ _ ⟨_, _, ⟨rfl, rfl⟩, rfl, rfl⟩
      refine j_ws (L' := z_cw _ _ _ _ _ _ _ _ _ _ _ _ _ _ _ _ _ _ _ _ _ _ _ _ _ _ _ _ _ _ _ _ _ _ _ _ _ _ _ _ _ _ _ _ _ _ _ _ _ _ _ _ _ _ _ _ [.inr (10, [_, _, _, _, _])]) (by decide) rfl rfl ?_
      refine j_aload dX8_hearTable_22 rfl rfl ?_
      refine j_callS dX8_hearTable_24 kX8_hearOut lX8_96 stX8_hearOut (z_frame [51, 21, 22, 23, 24, 25, 29, 30] rfl (by decide) (Nat.le_of_ble_eq_true rfl) (c_X8_hearOut_X5_c hl (z_bp (sp_C S 2) 0) _ _ true _ _ _ _ (sp_T S 2) (sp_E S 1) _ ht2 rfl he1)) (Nat.le_of_ble_eq_true rfl) ⟨(Nat.le_of_ble_eq_true rfl), (Nat.le_of_ble_eq_true rfl)⟩ rfl (Nat.le_of_ble_eq_true rfl) rfl rfl (fun _ _ h => h.elim) ?_
      rintro _ _ ⟨_, _, ⟨rfl, _, _, _, ef9, he9, rfl⟩, rfl, rfl⟩
      refine j_ws (L' := z_cw _ _ _ _ _ _ _ _ _ _ _ _ _ _ _ _ _ _ _ _ _ _ _ _ _ _ _ _ _ _ _ _ _ _ _ _ _ _ _ _ _ _ _ _ _ _ _ _ _ _ _ _ _ _ _ _ [.inr (10, [_, _, _, _, _])]) (by decide) rfl rfl ?_
      refine j_lo (lo' := []) z_q0 ?_
      refine j_dropL (n := 51) rfl (Nat.le_of_ble_eq_true rfl) (Nat.le_of_ble_eq_true rfl) (Nat.le_of_ble_eq_true rfl) z_cwc rfl rfl ?_
      refine j_w (z_cw _ _ _ _ _ _ _ _ _ _ _ _ _ _ _ _ _ _ _ _ _ _ _ _ _ _ _ _ _ _ _ _ _ _ _ _ _ _ _ _ _ _ _ _ _ _ _ _ _ _ _ _ _ _ _ _ [], z_no) rfl ?_
      refine j_callV (q := (RX8, TX8, 9)) dX8_hearTable_27 kX8_answer lX8_100 inX8_answer seX8_answer rfl rfl (z_dirF (c_X8_answer_f_e hl _ _ _ _ _ _ _ _ _ _ _ _ _ _ _ _ _ _ _ _ _ _ _ _ _ _ _ _ _ _ _ _ _ _ _ _ _ _ _ _ _ _ _ _ _ _ _ _ _ _ _ _ _ _ _ _ (sp_htb S 2 1).1 nI (fun y hy z => absurd (nI_pos' (n := y) (by have h8 := sp_ho_n _ _ _ _ hy; rw [sp_prl] at h8; have := ht2.len; omega)) (by rw [z]; decide)))) (Nat.le_of_ble_eq_true rfl) ⟨(Nat.le_of_ble_eq_true rfl), (Nat.le_of_ble_eq_true rfl)⟩ rfl (Nat.le_of_ble_eq_true rfl) rfl rfl (fun _ _ h => h.elim) ?_
      rintro _ _ ⟨_, ⟨rfl, rfl⟩, rfl⟩
      refine j_iret dX8_hearTable_30 rfl rfl ?_ (Nat.le_of_ble_eq_true rfl) (Nat.le_of_ble_eq_true rfl)
      refine ⟨rfl, (by first | exact z_cwl | rfl), ?_⟩
      try rw [sp_i1]
      try rw [sp_i2]
      exact ⟨sp_k3b_0 (Or.inr (Or.inr rfl)) (Or.inr rfl), rfl, (sp_CWe hra hrb ht0 ht1 ht2 he0 he9 hzm3 hzm4 hzm5 rfl)⟩
set_option maxRecDepth 100000 in
set_option maxHeartbeats 8000000 in
theorem c_X8_replaceTable_p (hl : l.stackTraces = false) (S : sp_S) (fa : Nat → Int32) (fb : Nat → Int32) (mt : Int32) (ft : Nat → Int32) (ct : Nat → Int32) (f0 : Nat → Int32) (g0 : Nat → Int32) (f1 : Nat → Int32) (g1 : Nat → Int32) (c1 : Nat → Int32) (f2 : Nat → Int32) (g2 : Nat → Int32) (c2 : Nat → Int32) (f3 : Nat → Int32) (g3 : Nat → Int32) (c3 : Nat → Int32) (m3 : Int32) (f4 : Nat → Int32) (g4 : Nat → Int32) (c4 : Nat → Int32) (m4 : Int32) (f5 : Nat → Int32) (g5 : Nat → Int32) (c5 : Nat → Int32) (m5 : Int32) (ef0 : Nat → Int32) (ef1 : Nat → Int32) (t : Int32) (r : Int32) (n : Int32) (ok : sp_ok S) (hra : z_row 12 (nI (sp_R S 0).length) fa (sp_R S 0)) (hrb : z_row 12 (nI (sp_R S 1).length) fb (sp_R S 1)) (ht0 : z_tba f0 g0 (sp_T S 0)) (ht1 : z_tba f1 g1 (sp_T S 1)) (ht2 : z_tba f2 g2 (sp_T S 2)) (he0 : z_row 10 (nI (sp_E S 0).2.length) ef0 (sp_E S 0).2) (he1 : z_row 10 (nI (sp_E S 1).2.length) ef1 (sp_E S 1).2) (hzm3 : z_m20 m3) (hzm4 : z_m20 m4) (hzm5 : z_m20 m5) : z_CX G l mX8_replaceTable 20 14 120 (z_cw S.1.1 S.1.2 (nI (sp_R S 0).length) (sp_F S 0) fa (sp_C S 0) (nI (sp_R S 1).length) (sp_F S 1) fb (sp_C S 1) mt false ft ct f0 g0 (sp_C S 2) (nI (sp_T S 0).length) 0 f1 g1 c1 (nI (sp_T S 1).length) 0 f2 g2 c2 (nI (sp_T S 2).length) 1 f3 g3 c3 m3 0 f4 g4 c4 m4 0 f5 g5 c5 m5 1 (nI (sp_E S 0).2.length) (sp_E S 0).1.2.1 (sp_E S 0).1.2.2.1 (sp_E S 0).1.2.2.2 (sp_E S 0).1.1 ef0 (nI (sp_E S 1).2.length) (sp_E S 1).1.2.1 (sp_E S 1).1.2.2.1 (sp_E S 1).1.2.2.2 (sp_E S 1).1.1 ef1 []) [.ref 0, .int t, .int r, .int n] (fun v L => sp_k32 t (¬ (r = 0 ∨ r = 1 ∨ r = 4 ∨ r = 5) ∨ sp_bv n) = 0 ∧ v = some (.int (cond (sp_ctb S (sp_i t) r n).1 (nI (sp_ctb S (sp_i t) r n).2.2.length) (-9))) ∧ sp_CW (sp_ctbS S (sp_i t) r n) L) (fun E L => ((z_xI E ∧ sp_k32 t (¬ (r = 0 ∨ r = 1 ∨ r = 4 ∨ r = 5) ∨ sp_bv n) = 1) ∨ (z_xA E ∧ sp_k32 t (¬ (r = 0 ∨ r = 1 ∨ r = 4 ∨ r = 5) ∨ sp_bv n) = 2)) ∧ L = (z_cw S.1.1 S.1.2 (nI (sp_R S 0).length) (sp_F S 0) fa (sp_C S 0) (nI (sp_R S 1).length) (sp_F S 1) fb (sp_C S 1) mt false ft ct f0 g0 (sp_C S 2) (nI (sp_T S 0).length) 0 f1 g1 c1 (nI (sp_T S 1).length) 0 f2 g2 c2 (nI (sp_T S 2).length) 1 f3 g3 c3 m3 0 f4 g4 c4 m4 0 f5 g5 c5 m5 1 (nI (sp_E S 0).2.length) (sp_E S 0).1.2.1 (sp_E S 0).1.2.2.1 (sp_E S 0).1.2.2.2 (sp_E S 0).1.1 ef0 (nI (sp_E S 1).2.length) (sp_E S 1).1.2.1 (sp_E S 1).1.2.2.1 (sp_E S 1).1.2.2.2 (sp_E S 1).1.1 ef1 [])) := by
  refine z_body hl (by decide) rfl (Nat.le_of_ble_eq_true rfl) ?_
  show z_J G l mX8_replaceTable (z_SX 20 14 120 (z_cw S.1.1 S.1.2 (nI (sp_R S 0).length) (sp_F S 0) fa (sp_C S 0) (nI (sp_R S 1).length) (sp_F S 1) fb (sp_C S 1) mt false ft ct f0 g0 (sp_C S 2) (nI (sp_T S 0).length) 0 f1 g1 c1 (nI (sp_T S 1).length) 0 f2 g2 c2 (nI (sp_T S 2).length) 1 f3 g3 c3 m3 0 f4 g4 c4 m4 0 f5 g5 c5 m5 1 (nI (sp_E S 0).2.length) (sp_E S 0).1.2.1 (sp_E S 0).1.2.2.1 (sp_E S 0).1.2.2.2 (sp_E S 0).1.1 ef0 (nI (sp_E S 1).2.length) (sp_E S 1).1.2.1 (sp_E S 1).1.2.2.1 (sp_E S 1).1.2.2.2 (sp_E S 1).1.1 ef1 []) (fun v L => sp_k32 t (¬ (r = 0 ∨ r = 1 ∨ r = 4 ∨ r = 5) ∨ sp_bv n) = 0 ∧ v = some (.int (cond (sp_ctb S (sp_i t) r n).1 (nI (sp_ctb S (sp_i t) r n).2.2.length) (-9))) ∧ sp_CW (sp_ctbS S (sp_i t) r n) L) (fun E L => ((z_xI E ∧ sp_k32 t (¬ (r = 0 ∨ r = 1 ∨ r = 4 ∨ r = 5) ∨ sp_bv n) = 1) ∨ (z_xA E ∧ sp_k32 t (¬ (r = 0 ∨ r = 1 ∨ r = 4 ∨ r = 5) ∨ sp_bv n) = 2)) ∧ L = (z_cw S.1.1 S.1.2 (nI (sp_R S 0).length) (sp_F S 0) fa (sp_C S 0) (nI (sp_R S 1).length) (sp_F S 1) fb (sp_C S 1) mt false ft ct f0 g0 (sp_C S 2) (nI (sp_T S 0).length) 0 f1 g1 c1 (nI (sp_T S 1).length) 0 f2 g2 c2 (nI (sp_T S 2).length) 1 f3 g3 c3 m3 0 f4 g4 c4 m4 0 f5 g5 c5 m5 1 (nI (sp_E S 0).2.length) (sp_E S 0).1.2.1 (sp_E S 0).1.2.2.1 (sp_E S 0).1.2.2.2 (sp_E S 0).1.1 ef0 (nI (sp_E S 1).2.length) (sp_E S 1).1.2.1 (sp_E S 1).1.2.2.1 (sp_E S 1).1.2.2.2 (sp_E S 1).1.1 ef1 []))) 0 [(0, _), (1, _), (2, _), (3, _)] [] _ 0 0
  refine j_aload_n dX8_replaceTable_0 rfl rfl ?_
  refine j_iload_n dX8_replaceTable_1 rfl ?_
  refine j_callV (q := (RX8, TX8, 9)) dX8_replaceTable_2 kX8_tableFor lX8_157 inX8_tableFor seX8_tableFor rfl rfl (z_dirX (c_X8_tableFor_e hl _ _ _ _ _ _ _ _ _ _ _ _ _ _ _ _ _ _ _ _ _ _ _ _ _ _ _ _ _ _ _ _ _ _ _ _ _ _ _ _ _ _ _ _ _ _ _ _ _ _ _ _ _ _ _ _ _)) (Nat.le_of_ble_eq_true rfl) ⟨(Nat.le_of_ble_eq_true rfl), (Nat.le_of_ble_eq_true rfl)⟩ rfl (Nat.le_of_ble_eq_true rfl) rfl rfl (fun _ _ h => by obtain ⟨_, ⟨h1, rfl⟩, rfl⟩ := h; exact ⟨rfl, rfl, Or.inl ⟨h1.1, sp_k32_1 h1.2⟩, rfl⟩) ?_
  rintro _ _ ⟨_, ⟨_, rfl, hr, rfl⟩, rfl⟩
  rcases hr with ⟨e_2, rfl⟩ | ⟨e_2, rfl⟩ | ⟨e_2, rfl⟩
  · subst e_2
    refine j_astore (lo' := [(4, _), (0, _), (1, _), (2, _), (3, _)]) dX8_replaceTable_5 rfl (by decide) rfl ?_
    refine j_iload_n dX8_replaceTable_7 rfl ?_
    refine j_if_eq (tgt := 26) dX8_replaceTable_8 (by decide) (fun c_8 => ?_) (fun c_8 => ?_)
    · have hu : r = 0 ∨ r = 1 ∨ r = 4 ∨ r = 5 := Or.inl c_8
      refine j_iconst (v := 1) dX8_replaceTable_26 (by decide) ?_
      refine j_goto (tgt := 31) dX8_replaceTable_27 (by decide) ?_
      refine j_callS dX8_replaceTable_31 kX8_checkRule lX8_112 stX8_checkRule (c_X8_checkRule_e hl _ _) (Nat.le_of_ble_eq_true rfl) ⟨(Nat.le_of_ble_eq_true rfl), (Nat.le_of_ble_eq_true rfl)⟩ rfl (Nat.le_of_ble_eq_true rfl) rfl rfl (fun _ _ h => by obtain ⟨h1, rfl⟩ := h; exact ⟨rfl, rfl, absurd h1.2 (by decide), rfl⟩) ?_
      rintro _ _ ⟨⟨rfl, hcr⟩, rfl⟩
      have hu2 : ¬ r = 2 := by rintro rfl; exact absurd hu (by decide)
      have hu3 : ¬ r = 3 := by rintro rfl; exact absurd hu (by decide)
      refine j_iload_n dX8_replaceTable_34 rfl ?_
      refine j_callS dX8_replaceTable_35 kX8_checkValue lX8_50 stX8_checkValue (c_X8_checkValue_e hl _ _) (Nat.le_of_ble_eq_true rfl) ⟨(Nat.le_of_ble_eq_true rfl), (Nat.le_of_ble_eq_true rfl)⟩ rfl (Nat.le_of_ble_eq_true rfl) rfl rfl (fun _ _ h => by obtain ⟨h1, rfl⟩ := h; exact ⟨rfl, rfl, Or.inr ⟨h1.1, sp_k32_2 (Or.inl rfl) (Or.inr h1.2)⟩, rfl⟩) ?_
      rintro _ _ ⟨⟨rfl, hc35⟩, rfl⟩
      refine j_new (w' := (z_cw _ _ _ _ _ _ _ _ _ _ _ _ _ _ _ _ _ _ _ _ _ _ _ _ _ _ _ _ _ _ _ _ _ _ _ _ _ _ _ _ _ _ _ _ _ _ _ _ _ _ _ _ _ _ _ _ [.inr (10, [_, _, _, _, _])], z_no)) (n := 51) dX8_replaceTable_38 nX8_160 rfl (z_al_l rfl rfl) (Nat.le_of_ble_eq_true rfl) (Nat.le_of_ble_eq_true rfl) ?_
      refine j_dup dX8_replaceTable_41 rfl ?_
      refine j_aload dX8_replaceTable_42 rfl rfl ?_
      refine j_callI dX8_replaceTable_44 kX5_init rfl lX8_162 inX5_init rfl (z_frame [51, 10, 11, 12, 13, 14] rfl (by decide) (Nat.le_of_ble_eq_true rfl) (c_X5_init_e hl false _ _ _ _)) (Nat.le_of_ble_eq_true rfl) ⟨(Nat.le_of_ble_eq_true rfl), (Nat.le_of_ble_eq_true rfl)⟩ rfl (Nat.le_of_ble_eq_true rfl) rfl rfl (fun _ _ h => h.elim) ?_
      rintro _ _ ⟨_, _, ⟨rfl, rfl⟩, rfl, rfl⟩
      refine j_ws (L' := z_cw _ _ _ _ _ _ _ _ _ _ _ _ _ _ _ _ _ _ _ _ _ _ _ _ _ _ _ _ _ _ _ _ _ _ _ _ _ _ _ _ _ _ _ _ _ _ _ _ _ _ _ _ _ _ _ _ [.inr (10, [_, _, _, _, _])]) (by decide) rfl rfl ?_
      refine j_iload_n dX8_replaceTable_47 rfl ?_
      refine j_iload_n dX8_replaceTable_48 rfl ?_
      refine j_callS dX8_replaceTable_49 kX8_changeEach lX8_115 stX8_changeEach (z_frame [51, 10, 11, 12, 13, 14] rfl (by decide) (Nat.le_of_ble_eq_true rfl) (c_X8_changeEach_X5_c hl (z_bp (sp_C S 2) 0) _ _ false _ _ _ _ (sp_T S 0) _ _ ht0 rfl hu2 hu3 (sp_vl hc35))) (Nat.le_of_ble_eq_true rfl) ⟨(Nat.le_of_ble_eq_true rfl), (Nat.le_of_ble_eq_true rfl)⟩ rfl (Nat.le_of_ble_eq_true rfl) rfl rfl (fun _ _ h => h.elim) ?_
      rintro _ _ ⟨_, _, ⟨rfl, _, _, _, f9, ht9, rfl⟩, rfl, rfl⟩
      refine j_ws (L' := z_cw _ _ _ _ _ _ _ _ _ _ _ _ _ _ _ _ _ _ _ _ _ _ _ _ _ _ _ _ _ _ _ _ _ _ _ _ _ _ _ _ _ _ _ _ _ _ _ _ _ _ _ _ _ _ _ _ [.inr (10, [_, _, _, _, _])]) (by decide) rfl rfl ?_
      refine j_istore (lo' := [(5, _), (4, _), (0, _), (1, _), (2, _), (3, _)]) dX8_replaceTable_52 (by decide) rfl ?_
      refine j_dropL (n := 51) rfl (Nat.le_of_ble_eq_true rfl) (Nat.le_of_ble_eq_true rfl) (Nat.le_of_ble_eq_true rfl) z_cwc rfl rfl ?_
      refine j_w (z_cw _ _ _ _ _ _ _ _ _ _ _ _ _ _ _ _ _ _ _ _ _ _ _ _ _ _ _ _ _ _ _ _ _ _ _ _ _ _ _ _ _ _ _ _ _ _ _ _ _ _ _ _ _ _ _ _ [], z_no) rfl ?_
      refine j_iload dX8_replaceTable_54 rfl ?_
      refine j_if_eq (tgt := 67) dX8_replaceTable_56 (by decide) (fun c_56 => ?_) (fun c_56 => ?_)
      · have hb56 := z_bF c_56
        have hbl : (sp_ctb S 0 r n).1 = false := hb56
        refine j_aload_n dX8_replaceTable_67 rfl rfl ?_
        refine j_callV (q := (RX8, TX8, 9)) dX8_replaceTable_68 kX8_refused lX8_119 inX8_refused seX8_refused rfl rfl (z_dirF (c_X8_refused_e hl _ _ _ _ _ _ _ _ _ _ _ _ _ _ _ _ _ _ _ _ _ _ _ _ _ _ _ _ _ _ _ _ _ _ _ _ _ _ _ _ _ _ _ _ _ _ _ _ _ _ _ _ _ _ _ _)) (Nat.le_of_ble_eq_true rfl) ⟨(Nat.le_of_ble_eq_true rfl), (Nat.le_of_ble_eq_true rfl)⟩ rfl (Nat.le_of_ble_eq_true rfl) rfl rfl (fun _ _ h => h.elim) ?_
        rintro _ _ ⟨_, ⟨rfl, rfl⟩, rfl⟩
        refine j_iret dX8_replaceTable_71 rfl rfl ?_ (Nat.le_of_ble_eq_true rfl) (Nat.le_of_ble_eq_true rfl)
        refine ⟨rfl, (by first | exact z_cwl | rfl), ?_⟩
        try rw [sp_i0]
        exact ⟨sp_k32_0 (Or.inl rfl) (fun z => z.elim (fun z => z hu) hc35), (by rw [hbl]; rfl), (sp_CWe hra hrb ht9 ht1 ht2 he0 he1 hzm3 hzm4 hzm5 ((by unfold sp_ctbS; rw [hbl]; rfl)))⟩
      · have hb56 := z_bt c_56
        have hbl : (sp_ctb S 0 r n).1 = true := hb56
        refine j_aload dX8_replaceTable_59 rfl rfl ?_
        refine j_getf dX8_replaceTable_61 fX8_165 rfl rfl ?_
        refine j_goto (tgt := 71) dX8_replaceTable_64 (by decide) ?_
        refine j_iret dX8_replaceTable_71 rfl rfl ?_ (Nat.le_of_ble_eq_true rfl) (Nat.le_of_ble_eq_true rfl)
        refine ⟨rfl, (by first | exact z_cwl | rfl), ?_⟩
        try rw [sp_i0]
        exact ⟨sp_k32_0 (Or.inl rfl) (fun z => z.elim (fun z => z hu) hc35), (by rw [hbl]; rfl), (sp_CWe hra hrb ht9 ht1 ht2 he0 he1 hzm3 hzm4 hzm5 ((by unfold sp_ctbS; rw [hbl]; rfl)))⟩
    · refine j_iload_n dX8_replaceTable_11 rfl ?_
      refine j_iconst (v := 1) dX8_replaceTable_12 (by decide) ?_
      refine j_icmp_eq (tgt := 26) dX8_replaceTable_13 (by decide) (fun c_13 => ?_) (fun c_13 => ?_)
      · have hu : r = 0 ∨ r = 1 ∨ r = 4 ∨ r = 5 := Or.inr (Or.inl c_13)
        refine j_iconst (v := 1) dX8_replaceTable_26 (by decide) ?_
        refine j_goto (tgt := 31) dX8_replaceTable_27 (by decide) ?_
        refine j_callS dX8_replaceTable_31 kX8_checkRule lX8_112 stX8_checkRule (c_X8_checkRule_e hl _ _) (Nat.le_of_ble_eq_true rfl) ⟨(Nat.le_of_ble_eq_true rfl), (Nat.le_of_ble_eq_true rfl)⟩ rfl (Nat.le_of_ble_eq_true rfl) rfl rfl (fun _ _ h => by obtain ⟨h1, rfl⟩ := h; exact ⟨rfl, rfl, absurd h1.2 (by decide), rfl⟩) ?_
        rintro _ _ ⟨⟨rfl, hcr⟩, rfl⟩
        have hu2 : ¬ r = 2 := by rintro rfl; exact absurd hu (by decide)
        have hu3 : ¬ r = 3 := by rintro rfl; exact absurd hu (by decide)
        refine j_iload_n dX8_replaceTable_34 rfl ?_
        refine j_callS dX8_replaceTable_35 kX8_checkValue lX8_50 stX8_checkValue (c_X8_checkValue_e hl _ _) (Nat.le_of_ble_eq_true rfl) ⟨(Nat.le_of_ble_eq_true rfl), (Nat.le_of_ble_eq_true rfl)⟩ rfl (Nat.le_of_ble_eq_true rfl) rfl rfl (fun _ _ h => by obtain ⟨h1, rfl⟩ := h; exact ⟨rfl, rfl, Or.inr ⟨h1.1, sp_k32_2 (Or.inl rfl) (Or.inr h1.2)⟩, rfl⟩) ?_
        rintro _ _ ⟨⟨rfl, hc35⟩, rfl⟩
        refine j_new (w' := (z_cw _ _ _ _ _ _ _ _ _ _ _ _ _ _ _ _ _ _ _ _ _ _ _ _ _ _ _ _ _ _ _ _ _ _ _ _ _ _ _ _ _ _ _ _ _ _ _ _ _ _ _ _ _ _ _ _ [.inr (10, [_, _, _, _, _])], z_no)) (n := 51) dX8_replaceTable_38 nX8_160 rfl (z_al_l rfl rfl) (Nat.le_of_ble_eq_true rfl) (Nat.le_of_ble_eq_true rfl) ?_
        refine j_dup dX8_replaceTable_41 rfl ?_
        refine j_aload dX8_replaceTable_42 rfl rfl ?_
        refine j_callI dX8_replaceTable_44 kX5_init rfl lX8_162 inX5_init rfl (z_frame [51, 10, 11, 12, 13, 14] rfl (by decide) (Nat.le_of_ble_eq_true rfl) (c_X5_init_e hl false _ _ _ _)) (Nat.le_of_ble_eq_true rfl) ⟨(Nat.le_of_ble_eq_true rfl), (Nat.le_of_ble_eq_true rfl)⟩ rfl (Nat.le_of_ble_eq_true rfl) rfl rfl (fun _ _ h => h.elim) ?_
        rintro _ _ ⟨_, _, ⟨rfl, rfl⟩, rfl, rfl⟩
        refine j_ws (L' := z_cw _ _ _ _ _ _ _ _ _ _ _ _ _ _ _ _ _ _ _ _ _ _ _ _ _ _ _ _ _ _ _ _ _ _ _ _ _ _ _ _ _ _ _ _ _ _ _ _ _ _ _ _ _ _ _ _ [.inr (10, [_, _, _, _, _])]) (by decide) rfl rfl ?_
        refine j_iload_n dX8_replaceTable_47 rfl ?_
        refine j_iload_n dX8_replaceTable_48 rfl ?_
        refine j_callS dX8_replaceTable_49 kX8_changeEach lX8_115 stX8_changeEach (z_frame [51, 10, 11, 12, 13, 14] rfl (by decide) (Nat.le_of_ble_eq_true rfl) (c_X8_changeEach_X5_c hl (z_bp (sp_C S 2) 0) _ _ false _ _ _ _ (sp_T S 0) _ _ ht0 rfl hu2 hu3 (sp_vl hc35))) (Nat.le_of_ble_eq_true rfl) ⟨(Nat.le_of_ble_eq_true rfl), (Nat.le_of_ble_eq_true rfl)⟩ rfl (Nat.le_of_ble_eq_true rfl) rfl rfl (fun _ _ h => h.elim) ?_
        rintro _ _ ⟨_, _, ⟨rfl, _, _, _, f9, ht9, rfl⟩, rfl, rfl⟩
        refine j_ws (L' := z_cw _ _ _ _ _ _ _ _ _ _ _ _ _ _ _ _ _ _ _ _ _ _ _ _ _ _ _ _ _ _ _ _ _ _ _ _ _ _ _ _ _ _ _ _ _ _ _ _ _ _ _ _ _ _ _ _ [.inr (10, [_, _, _, _, _])]) (by decide) rfl rfl ?_
        refine j_istore (lo' := [(5, _), (4, _), (0, _), (1, _), (2, _), (3, _)]) dX8_replaceTable_52 (by decide) rfl ?_
        refine j_dropL (n := 51) rfl (Nat.le_of_ble_eq_true rfl) (Nat.le_of_ble_eq_true rfl) (Nat.le_of_ble_eq_true rfl) z_cwc rfl rfl ?_
        refine j_w (z_cw _ _ _ _ _ _ _ _ _ _ _ _ _ _ _ _ _ _ _ _ _ _ _ _ _ _ _ _ _ _ _ _ _ _ _ _ _ _ _ _ _ _ _ _ _ _ _ _ _ _ _ _ _ _ _ _ [], z_no) rfl ?_
        refine j_iload dX8_replaceTable_54 rfl ?_
        refine j_if_eq (tgt := 67) dX8_replaceTable_56 (by decide) (fun c_56 => ?_) (fun c_56 => ?_)
        · have hb56 := z_bF c_56
          have hbl : (sp_ctb S 0 r n).1 = false := hb56
          refine j_aload_n dX8_replaceTable_67 rfl rfl ?_
          refine j_callV (q := (RX8, TX8, 9)) dX8_replaceTable_68 kX8_refused lX8_119 inX8_refused seX8_refused rfl rfl (z_dirF (c_X8_refused_e hl _ _ _ _ _ _ _ _ _ _ _ _ _ _ _ _ _ _ _ _ _ _ _ _ _ _ _ _ _ _ _ _ _ _ _ _ _ _ _ _ _ _ _ _ _ _ _ _ _ _ _ _ _ _ _ _)) (Nat.le_of_ble_eq_true rfl) ⟨(Nat.le_of_ble_eq_true rfl), (Nat.le_of_ble_eq_true rfl)⟩ rfl (Nat.le_of_ble_eq_true rfl) rfl rfl (fun _ _ h => h.elim) ?_
          rintro _ _ ⟨_, ⟨rfl, rfl⟩, rfl⟩
          refine j_iret dX8_replaceTable_71 rfl rfl ?_ (Nat.le_of_ble_eq_true rfl) (Nat.le_of_ble_eq_true rfl)
          refine ⟨rfl, (by first | exact z_cwl | rfl), ?_⟩
          try rw [sp_i0]
          exact ⟨sp_k32_0 (Or.inl rfl) (fun z => z.elim (fun z => z hu) hc35), (by rw [hbl]; rfl), (sp_CWe hra hrb ht9 ht1 ht2 he0 he1 hzm3 hzm4 hzm5 ((by unfold sp_ctbS; rw [hbl]; rfl)))⟩
        · have hb56 := z_bt c_56
          have hbl : (sp_ctb S 0 r n).1 = true := hb56
          refine j_aload dX8_replaceTable_59 rfl rfl ?_
          refine j_getf dX8_replaceTable_61 fX8_165 rfl rfl ?_
          refine j_goto (tgt := 71) dX8_replaceTable_64 (by decide) ?_
          refine j_iret dX8_replaceTable_71 rfl rfl ?_ (Nat.le_of_ble_eq_true rfl) (Nat.le_of_ble_eq_true rfl)
          refine ⟨rfl, (by first | exact z_cwl | rfl), ?_⟩
          try rw [sp_i0]
          exact ⟨sp_k32_0 (Or.inl rfl) (fun z => z.elim (fun z => z hu) hc35), (by rw [hbl]; rfl), (sp_CWe hra hrb ht9 ht1 ht2 he0 he1 hzm3 hzm4 hzm5 ((by unfold sp_ctbS; rw [hbl]; rfl)))⟩
      · refine j_iload_n dX8_replaceTable_16 rfl ?_
        refine j_iconst (v := 4) dX8_replaceTable_17 (by decide) ?_
        refine j_icmp_eq (tgt := 26) dX8_replaceTable_18 (by decide) (fun c_18 => ?_) (fun c_18 => ?_)
        · have hu : r = 0 ∨ r = 1 ∨ r = 4 ∨ r = 5 := Or.inr (Or.inr (Or.inl c_18))
          refine j_iconst (v := 1) dX8_replaceTable_26 (by decide) ?_
          refine j_goto (tgt := 31) dX8_replaceTable_27 (by decide) ?_
          refine j_callS dX8_replaceTable_31 kX8_checkRule lX8_112 stX8_checkRule (c_X8_checkRule_e hl _ _) (Nat.le_of_ble_eq_true rfl) ⟨(Nat.le_of_ble_eq_true rfl), (Nat.le_of_ble_eq_true rfl)⟩ rfl (Nat.le_of_ble_eq_true rfl) rfl rfl (fun _ _ h => by obtain ⟨h1, rfl⟩ := h; exact ⟨rfl, rfl, absurd h1.2 (by decide), rfl⟩) ?_
          rintro _ _ ⟨⟨rfl, hcr⟩, rfl⟩
          have hu2 : ¬ r = 2 := by rintro rfl; exact absurd hu (by decide)
          have hu3 : ¬ r = 3 := by rintro rfl; exact absurd hu (by decide)
          refine j_iload_n dX8_replaceTable_34 rfl ?_
          refine j_callS dX8_replaceTable_35 kX8_checkValue lX8_50 stX8_checkValue (c_X8_checkValue_e hl _ _) (Nat.le_of_ble_eq_true rfl) ⟨(Nat.le_of_ble_eq_true rfl), (Nat.le_of_ble_eq_true rfl)⟩ rfl (Nat.le_of_ble_eq_true rfl) rfl rfl (fun _ _ h => by obtain ⟨h1, rfl⟩ := h; exact ⟨rfl, rfl, Or.inr ⟨h1.1, sp_k32_2 (Or.inl rfl) (Or.inr h1.2)⟩, rfl⟩) ?_
          rintro _ _ ⟨⟨rfl, hc35⟩, rfl⟩
          refine j_new (w' := (z_cw _ _ _ _ _ _ _ _ _ _ _ _ _ _ _ _ _ _ _ _ _ _ _ _ _ _ _ _ _ _ _ _ _ _ _ _ _ _ _ _ _ _ _ _ _ _ _ _ _ _ _ _ _ _ _ _ [.inr (10, [_, _, _, _, _])], z_no)) (n := 51) dX8_replaceTable_38 nX8_160 rfl (z_al_l rfl rfl) (Nat.le_of_ble_eq_true rfl) (Nat.le_of_ble_eq_true rfl) ?_
          refine j_dup dX8_replaceTable_41 rfl ?_
          refine j_aload dX8_replaceTable_42 rfl rfl ?_
          refine j_callI dX8_replaceTable_44 kX5_init rfl lX8_162 inX5_init rfl (z_frame [51, 10, 11, 12, 13, 14] rfl (by decide) (Nat.le_of_ble_eq_true rfl) (c_X5_init_e hl false _ _ _ _)) (Nat.le_of_ble_eq_true rfl) ⟨(Nat.le_of_ble_eq_true rfl), (Nat.le_of_ble_eq_true rfl)⟩ rfl (Nat.le_of_ble_eq_true rfl) rfl rfl (fun _ _ h => h.elim) ?_
          rintro _ _ ⟨_, _, ⟨rfl, rfl⟩, rfl, rfl⟩
          refine j_ws (L' := z_cw _ _ _ _ _ _ _ _ _ _ _ _ _ _ _ _ _ _ _ _ _ _ _ _ _ _ _ _ _ _ _ _ _ _ _ _ _ _ _ _ _ _ _ _ _ _ _ _ _ _ _ _ _ _ _ _ [.inr (10, [_, _, _, _, _])]) (by decide) rfl rfl ?_
          refine j_iload_n dX8_replaceTable_47 rfl ?_
          refine j_iload_n dX8_replaceTable_48 rfl ?_
          refine j_callS dX8_replaceTable_49 kX8_changeEach lX8_115 stX8_changeEach (z_frame [51, 10, 11, 12, 13, 14] rfl (by decide) (Nat.le_of_ble_eq_true rfl) (c_X8_changeEach_X5_c hl (z_bp (sp_C S 2) 0) _ _ false _ _ _ _ (sp_T S 0) _ _ ht0 rfl hu2 hu3 (sp_vl hc35))) (Nat.le_of_ble_eq_true rfl) ⟨(Nat.le_of_ble_eq_true rfl), (Nat.le_of_ble_eq_true rfl)⟩ rfl (Nat.le_of_ble_eq_true rfl) rfl rfl (fun _ _ h => h.elim) ?_
          rintro _ _ ⟨_, _, ⟨rfl, _, _, _, f9, ht9, rfl⟩, rfl, rfl⟩
          refine j_ws (L' := z_cw _ _ _ _ _ _ _ _ _ _ _ _ _ _ _ _ _ _ _ _ _ _ _ _ _ _ _ _ _ _ _ _ _ _ _ _ _ _ _ _ _ _ _ _ _ _ _ _ _ _ _ _ _ _ _ _ [.inr (10, [_, _, _, _, _])]) (by decide) rfl rfl ?_
          refine j_istore (lo' := [(5, _), (4, _), (0, _), (1, _), (2, _), (3, _)]) dX8_replaceTable_52 (by decide) rfl ?_
          refine j_dropL (n := 51) rfl (Nat.le_of_ble_eq_true rfl) (Nat.le_of_ble_eq_true rfl) (Nat.le_of_ble_eq_true rfl) z_cwc rfl rfl ?_
          refine j_w (z_cw _ _ _ _ _ _ _ _ _ _ _ _ _ _ _ _ _ _ _ _ _ _ _ _ _ _ _ _ _ _ _ _ _ _ _ _ _ _ _ _ _ _ _ _ _ _ _ _ _ _ _ _ _ _ _ _ [], z_no) rfl ?_
          refine j_iload dX8_replaceTable_54 rfl ?_
          refine j_if_eq (tgt := 67) dX8_replaceTable_56 (by decide) (fun c_56 => ?_) (fun c_56 => ?_)
          · have hb56 := z_bF c_56
            have hbl : (sp_ctb S 0 r n).1 = false := hb56
            refine j_aload_n dX8_replaceTable_67 rfl rfl ?_
            refine j_callV (q := (RX8, TX8, 9)) dX8_replaceTable_68 kX8_refused lX8_119 inX8_refused seX8_refused rfl rfl (z_dirF (c_X8_refused_e hl _ _ _ _ _ _ _ _ _ _ _ _ _ _ _ _ _ _ _ _ _ _ _ _ _ _ _ _ _ _ _ _ _ _ _ _ _ _ _ _ _ _ _ _ _ _ _ _ _ _ _ _ _ _ _ _)) (Nat.le_of_ble_eq_true rfl) ⟨(Nat.le_of_ble_eq_true rfl), (Nat.le_of_ble_eq_true rfl)⟩ rfl (Nat.le_of_ble_eq_true rfl) rfl rfl (fun _ _ h => h.elim) ?_
            rintro _ _ ⟨_, ⟨rfl, rfl⟩, rfl⟩
            refine j_iret dX8_replaceTable_71 rfl rfl ?_ (Nat.le_of_ble_eq_true rfl) (Nat.le_of_ble_eq_true rfl)
            refine ⟨rfl, (by first | exact z_cwl | rfl), ?_⟩
            try rw [sp_i0]
            exact ⟨sp_k32_0 (Or.inl rfl) (fun z => z.elim (fun z => z hu) hc35), (by rw [hbl]; rfl), (sp_CWe hra hrb ht9 ht1 ht2 he0 he1 hzm3 hzm4 hzm5 ((by unfold sp_ctbS; rw [hbl]; rfl)))⟩
          · have hb56 := z_bt c_56
            have hbl : (sp_ctb S 0 r n).1 = true := hb56
            refine j_aload dX8_replaceTable_59 rfl rfl ?_
            refine j_getf dX8_replaceTable_61 fX8_165 rfl rfl ?_
            refine j_goto (tgt := 71) dX8_replaceTable_64 (by decide) ?_
            refine j_iret dX8_replaceTable_71 rfl rfl ?_ (Nat.le_of_ble_eq_true rfl) (Nat.le_of_ble_eq_true rfl)
            refine ⟨rfl, (by first | exact z_cwl | rfl), ?_⟩
            try rw [sp_i0]
            exact ⟨sp_k32_0 (Or.inl rfl) (fun z => z.elim (fun z => z hu) hc35), (by rw [hbl]; rfl), (sp_CWe hra hrb ht9 ht1 ht2 he0 he1 hzm3 hzm4 hzm5 ((by unfold sp_ctbS; rw [hbl]; rfl)))⟩
        · refine j_iload_n dX8_replaceTable_21 rfl ?_
          refine j_iconst (v := 5) dX8_replaceTable_22 (by decide) ?_
          refine j_icmp_ne (tgt := 30) dX8_replaceTable_23 (by decide) (fun c_23 => ?_) (fun c_23 => ?_)
          · have hnu : ¬ (r = 0 ∨ r = 1 ∨ r = 4 ∨ r = 5) := (fun z => z.elim c_8 (fun z => z.elim c_13 (fun z => z.elim c_18 c_23)))
            refine j_iconst (v := 0) dX8_replaceTable_30 (by decide) ?_
            refine j_callS dX8_replaceTable_31 kX8_checkRule lX8_112 stX8_checkRule (c_X8_checkRule_e hl _ _) (Nat.le_of_ble_eq_true rfl) ⟨(Nat.le_of_ble_eq_true rfl), (Nat.le_of_ble_eq_true rfl)⟩ rfl (Nat.le_of_ble_eq_true rfl) rfl rfl (fun _ _ h => by obtain ⟨h1, rfl⟩ := h; exact ⟨rfl, rfl, Or.inr ⟨h1.1, sp_k32_2 (Or.inl rfl) (Or.inl hnu)⟩, rfl⟩) ?_
            rintro _ _ ⟨⟨rfl, hcr⟩, rfl⟩
            exact absurd rfl hcr
          · have hu : r = 0 ∨ r = 1 ∨ r = 4 ∨ r = 5 := Or.inr (Or.inr (Or.inr (c_23)))
            refine j_iconst (v := 1) dX8_replaceTable_26 (by decide) ?_
            refine j_goto (tgt := 31) dX8_replaceTable_27 (by decide) ?_
            refine j_callS dX8_replaceTable_31 kX8_checkRule lX8_112 stX8_checkRule (c_X8_checkRule_e hl _ _) (Nat.le_of_ble_eq_true rfl) ⟨(Nat.le_of_ble_eq_true rfl), (Nat.le_of_ble_eq_true rfl)⟩ rfl (Nat.le_of_ble_eq_true rfl) rfl rfl (fun _ _ h => by obtain ⟨h1, rfl⟩ := h; exact ⟨rfl, rfl, absurd h1.2 (by decide), rfl⟩) ?_
            rintro _ _ ⟨⟨rfl, hcr⟩, rfl⟩
            have hu2 : ¬ r = 2 := by rintro rfl; exact absurd hu (by decide)
            have hu3 : ¬ r = 3 := by rintro rfl; exact absurd hu (by decide)
            refine j_iload_n dX8_replaceTable_34 rfl ?_
            refine j_callS dX8_replaceTable_35 kX8_checkValue lX8_50 stX8_checkValue (c_X8_checkValue_e hl _ _) (Nat.le_of_ble_eq_true rfl) ⟨(Nat.le_of_ble_eq_true rfl), (Nat.le_of_ble_eq_true rfl)⟩ rfl (Nat.le_of_ble_eq_true rfl) rfl rfl (fun _ _ h => by obtain ⟨h1, rfl⟩ := h; exact ⟨rfl, rfl, Or.inr ⟨h1.1, sp_k32_2 (Or.inl rfl) (Or.inr h1.2)⟩, rfl⟩) ?_
            rintro _ _ ⟨⟨rfl, hc35⟩, rfl⟩
            refine j_new (w' := (z_cw _ _ _ _ _ _ _ _ _ _ _ _ _ _ _ _ _ _ _ _ _ _ _ _ _ _ _ _ _ _ _ _ _ _ _ _ _ _ _ _ _ _ _ _ _ _ _ _ _ _ _ _ _ _ _ _ [.inr (10, [_, _, _, _, _])], z_no)) (n := 51) dX8_replaceTable_38 nX8_160 rfl (z_al_l rfl rfl) (Nat.le_of_ble_eq_true rfl) (Nat.le_of_ble_eq_true rfl) ?_
            refine j_dup dX8_replaceTable_41 rfl ?_
            refine j_aload dX8_replaceTable_42 rfl rfl ?_
            refine j_callI dX8_replaceTable_44 kX5_init rfl lX8_162 inX5_init rfl (z_frame [51, 10, 11, 12, 13, 14] rfl (by decide) (Nat.le_of_ble_eq_true rfl) (c_X5_init_e hl false _ _ _ _)) (Nat.le_of_ble_eq_true rfl) ⟨(Nat.le_of_ble_eq_true rfl), (Nat.le_of_ble_eq_true rfl)⟩ rfl (Nat.le_of_ble_eq_true rfl) rfl rfl (fun _ _ h => h.elim) ?_
            rintro _ _ ⟨_, _, ⟨rfl, rfl⟩, rfl, rfl⟩
            refine j_ws (L' := z_cw _ _ _ _ _ _ _ _ _ _ _ _ _ _ _ _ _ _ _ _ _ _ _ _ _ _ _ _ _ _ _ _ _ _ _ _ _ _ _ _ _ _ _ _ _ _ _ _ _ _ _ _ _ _ _ _ [.inr (10, [_, _, _, _, _])]) (by decide) rfl rfl ?_
            refine j_iload_n dX8_replaceTable_47 rfl ?_
            refine j_iload_n dX8_replaceTable_48 rfl ?_
            refine j_callS dX8_replaceTable_49 kX8_changeEach lX8_115 stX8_changeEach (z_frame [51, 10, 11, 12, 13, 14] rfl (by decide) (Nat.le_of_ble_eq_true rfl) (c_X8_changeEach_X5_c hl (z_bp (sp_C S 2) 0) _ _ false _ _ _ _ (sp_T S 0) _ _ ht0 rfl hu2 hu3 (sp_vl hc35))) (Nat.le_of_ble_eq_true rfl) ⟨(Nat.le_of_ble_eq_true rfl), (Nat.le_of_ble_eq_true rfl)⟩ rfl (Nat.le_of_ble_eq_true rfl) rfl rfl (fun _ _ h => h.elim) ?_
            rintro _ _ ⟨_, _, ⟨rfl, _, _, _, f9, ht9, rfl⟩, rfl, rfl⟩
            refine j_ws (L' := z_cw _ _ _ _ _ _ _ _ _ _ _ _ _ _ _ _ _ _ _ _ _ _ _ _ _ _ _ _ _ _ _ _ _ _ _ _ _ _ _ _ _ _ _ _ _ _ _ _ _ _ _ _ _ _ _ _ [.inr (10, [_, _, _, _, _])]) (by decide) rfl rfl ?_
            refine j_istore (lo' := [(5, _), (4, _), (0, _), (1, _), (2, _), (3, _)]) dX8_replaceTable_52 (by decide) rfl ?_
            refine j_dropL (n := 51) rfl (Nat.le_of_ble_eq_true rfl) (Nat.le_of_ble_eq_true rfl) (Nat.le_of_ble_eq_true rfl) z_cwc rfl rfl ?_
            refine j_w (z_cw _ _ _ _ _ _ _ _ _ _ _ _ _ _ _ _ _ _ _ _ _ _ _ _ _ _ _ _ _ _ _ _ _ _ _ _ _ _ _ _ _ _ _ _ _ _ _ _ _ _ _ _ _ _ _ _ [], z_no) rfl ?_
            refine j_iload dX8_replaceTable_54 rfl ?_
            refine j_if_eq (tgt := 67) dX8_replaceTable_56 (by decide) (fun c_56 => ?_) (fun c_56 => ?_)
            · have hb56 := z_bF c_56
              have hbl : (sp_ctb S 0 r n).1 = false := hb56
              refine j_aload_n dX8_replaceTable_67 rfl rfl ?_
              refine j_callV (q := (RX8, TX8, 9)) dX8_replaceTable_68 kX8_refused lX8_119 inX8_refused seX8_refused rfl rfl (z_dirF (c_X8_refused_e hl _ _ _ _ _ _ _ _ _ _ _ _ _ _ _ _ _ _ _ _ _ _ _ _ _ _ _ _ _ _ _ _ _ _ _ _ _ _ _ _ _ _ _ _ _ _ _ _ _ _ _ _ _ _ _ _)) (Nat.le_of_ble_eq_true rfl) ⟨(Nat.le_of_ble_eq_true rfl), (Nat.le_of_ble_eq_true rfl)⟩ rfl (Nat.le_of_ble_eq_true rfl) rfl rfl (fun _ _ h => h.elim) ?_
              rintro _ _ ⟨_, ⟨rfl, rfl⟩, rfl⟩
              refine j_iret dX8_replaceTable_71 rfl rfl ?_ (Nat.le_of_ble_eq_true rfl) (Nat.le_of_ble_eq_true rfl)
              refine ⟨rfl, (by first | exact z_cwl | rfl), ?_⟩
              try rw [sp_i0]
              exact ⟨sp_k32_0 (Or.inl rfl) (fun z => z.elim (fun z => z hu) hc35), (by rw [hbl]; rfl), (sp_CWe hra hrb ht9 ht1 ht2 he0 he1 hzm3 hzm4 hzm5 ((by unfold sp_ctbS; rw [hbl]; rfl)))⟩
            · have hb56 := z_bt c_56
              have hbl : (sp_ctb S 0 r n).1 = true := hb56
              refine j_aload dX8_replaceTable_59 rfl rfl ?_
              refine j_getf dX8_replaceTable_61 fX8_165 rfl rfl ?_
              refine j_goto (tgt := 71) dX8_replaceTable_64 (by decide) ?_
              refine j_iret dX8_replaceTable_71 rfl rfl ?_ (Nat.le_of_ble_eq_true rfl) (Nat.le_of_ble_eq_true rfl)
              refine ⟨rfl, (by first | exact z_cwl | rfl), ?_⟩
              try rw [sp_i0]
              exact ⟨sp_k32_0 (Or.inl rfl) (fun z => z.elim (fun z => z hu) hc35), (by rw [hbl]; rfl), (sp_CWe hra hrb ht9 ht1 ht2 he0 he1 hzm3 hzm4 hzm5 ((by unfold sp_ctbS; rw [hbl]; rfl)))⟩
  · subst e_2
    refine j_astore (lo' := [(4, _), (0, _), (1, _), (2, _), (3, _)]) dX8_replaceTable_5 rfl (by decide) rfl ?_
    refine j_iload_n dX8_replaceTable_7 rfl ?_
    refine j_if_eq (tgt := 26) dX8_replaceTable_8 (by decide) (fun c_8 => ?_) (fun c_8 => ?_)
    · have hu : r = 0 ∨ r = 1 ∨ r = 4 ∨ r = 5 := Or.inl c_8
      refine j_iconst (v := 1) dX8_replaceTable_26 (by decide) ?_
      refine j_goto (tgt := 31) dX8_replaceTable_27 (by decide) ?_
      refine j_callS dX8_replaceTable_31 kX8_checkRule lX8_112 stX8_checkRule (c_X8_checkRule_e hl _ _) (Nat.le_of_ble_eq_true rfl) ⟨(Nat.le_of_ble_eq_true rfl), (Nat.le_of_ble_eq_true rfl)⟩ rfl (Nat.le_of_ble_eq_true rfl) rfl rfl (fun _ _ h => by obtain ⟨h1, rfl⟩ := h; exact ⟨rfl, rfl, absurd h1.2 (by decide), rfl⟩) ?_
      rintro _ _ ⟨⟨rfl, hcr⟩, rfl⟩
      have hu2 : ¬ r = 2 := by rintro rfl; exact absurd hu (by decide)
      have hu3 : ¬ r = 3 := by rintro rfl; exact absurd hu (by decide)
      refine j_iload_n dX8_replaceTable_34 rfl ?_
      refine j_callS dX8_replaceTable_35 kX8_checkValue lX8_50 stX8_checkValue (c_X8_checkValue_e hl _ _) (Nat.le_of_ble_eq_true rfl) ⟨(Nat.le_of_ble_eq_true rfl), (Nat.le_of_ble_eq_true rfl)⟩ rfl (Nat.le_of_ble_eq_true rfl) rfl rfl (fun _ _ h => by obtain ⟨h1, rfl⟩ := h; exact ⟨rfl, rfl, Or.inr ⟨h1.1, sp_k32_2 (Or.inr (Or.inl rfl)) (Or.inr h1.2)⟩, rfl⟩) ?_
      rintro _ _ ⟨⟨rfl, hc35⟩, rfl⟩
      refine j_new (w' := (z_cw _ _ _ _ _ _ _ _ _ _ _ _ _ _ _ _ _ _ _ _ _ _ _ _ _ _ _ _ _ _ _ _ _ _ _ _ _ _ _ _ _ _ _ _ _ _ _ _ _ _ _ _ _ _ _ _ [.inr (10, [_, _, _, _, _])], z_no)) (n := 51) dX8_replaceTable_38 nX8_160 rfl (z_al_l rfl rfl) (Nat.le_of_ble_eq_true rfl) (Nat.le_of_ble_eq_true rfl) ?_
      refine j_dup dX8_replaceTable_41 rfl ?_
      refine j_aload dX8_replaceTable_42 rfl rfl ?_
      refine j_callI dX8_replaceTable_44 kX5_init rfl lX8_162 inX5_init rfl (z_frame [51, 16, 17, 18, 19, 20] rfl (by decide) (Nat.le_of_ble_eq_true rfl) (c_X5_init_e hl false _ _ _ _)) (Nat.le_of_ble_eq_true rfl) ⟨(Nat.le_of_ble_eq_true rfl), (Nat.le_of_ble_eq_true rfl)⟩ rfl (Nat.le_of_ble_eq_true rfl) rfl rfl (fun _ _ h => h.elim) ?_
      rintro _ _ ⟨_, _, ⟨rfl, rfl⟩, rfl, rfl⟩
      refine j_ws (L' := z_cw _ _ _ _ _ _ _ _ _ _ _ _ _ _ _ _ _ _ _ _ _ _ _ _ _ _ _ _ _ _ _ _ _ _ _ _ _ _ _ _ _ _ _ _ _ _ _ _ _ _ _ _ _ _ _ _ [.inr (10, [_, _, _, _, _])]) (by decide) rfl rfl ?_
      refine j_iload_n dX8_replaceTable_47 rfl ?_
      refine j_iload_n dX8_replaceTable_48 rfl ?_
      refine j_callS dX8_replaceTable_49 kX8_changeEach lX8_115 stX8_changeEach (z_frame [51, 16, 17, 18, 19, 20] rfl (by decide) (Nat.le_of_ble_eq_true rfl) (c_X8_changeEach_X5_c hl (z_bp (sp_C S 2) 0) _ _ false _ _ _ _ (sp_T S 1) _ _ ht1 rfl hu2 hu3 (sp_vl hc35))) (Nat.le_of_ble_eq_true rfl) ⟨(Nat.le_of_ble_eq_true rfl), (Nat.le_of_ble_eq_true rfl)⟩ rfl (Nat.le_of_ble_eq_true rfl) rfl rfl (fun _ _ h => h.elim) ?_
      rintro _ _ ⟨_, _, ⟨rfl, _, _, _, f9, ht9, rfl⟩, rfl, rfl⟩
      refine j_ws (L' := z_cw _ _ _ _ _ _ _ _ _ _ _ _ _ _ _ _ _ _ _ _ _ _ _ _ _ _ _ _ _ _ _ _ _ _ _ _ _ _ _ _ _ _ _ _ _ _ _ _ _ _ _ _ _ _ _ _ [.inr (10, [_, _, _, _, _])]) (by decide) rfl rfl ?_
      refine j_istore (lo' := [(5, _), (4, _), (0, _), (1, _), (2, _), (3, _)]) dX8_replaceTable_52 (by decide) rfl ?_
      refine j_dropL (n := 51) rfl (Nat.le_of_ble_eq_true rfl) (Nat.le_of_ble_eq_true rfl) (Nat.le_of_ble_eq_true rfl) z_cwc rfl rfl ?_
      refine j_w (z_cw _ _ _ _ _ _ _ _ _ _ _ _ _ _ _ _ _ _ _ _ _ _ _ _ _ _ _ _ _ _ _ _ _ _ _ _ _ _ _ _ _ _ _ _ _ _ _ _ _ _ _ _ _ _ _ _ [], z_no) rfl ?_
      refine j_iload dX8_replaceTable_54 rfl ?_
      refine j_if_eq (tgt := 67) dX8_replaceTable_56 (by decide) (fun c_56 => ?_) (fun c_56 => ?_)
      · have hb56 := z_bF c_56
        have hbl : (sp_ctb S 1 r n).1 = false := hb56
        refine j_aload_n dX8_replaceTable_67 rfl rfl ?_
        refine j_callV (q := (RX8, TX8, 9)) dX8_replaceTable_68 kX8_refused lX8_119 inX8_refused seX8_refused rfl rfl (z_dirF (c_X8_refused_e hl _ _ _ _ _ _ _ _ _ _ _ _ _ _ _ _ _ _ _ _ _ _ _ _ _ _ _ _ _ _ _ _ _ _ _ _ _ _ _ _ _ _ _ _ _ _ _ _ _ _ _ _ _ _ _ _)) (Nat.le_of_ble_eq_true rfl) ⟨(Nat.le_of_ble_eq_true rfl), (Nat.le_of_ble_eq_true rfl)⟩ rfl (Nat.le_of_ble_eq_true rfl) rfl rfl (fun _ _ h => h.elim) ?_
        rintro _ _ ⟨_, ⟨rfl, rfl⟩, rfl⟩
        refine j_iret dX8_replaceTable_71 rfl rfl ?_ (Nat.le_of_ble_eq_true rfl) (Nat.le_of_ble_eq_true rfl)
        refine ⟨rfl, (by first | exact z_cwl | rfl), ?_⟩
        try rw [sp_i1]
        exact ⟨sp_k32_0 (Or.inr (Or.inl rfl)) (fun z => z.elim (fun z => z hu) hc35), (by rw [hbl]; rfl), (sp_CWe hra hrb ht0 ht9 ht2 he0 he1 hzm3 hzm4 hzm5 ((by unfold sp_ctbS; rw [hbl]; rfl)))⟩
      · have hb56 := z_bt c_56
        have hbl : (sp_ctb S 1 r n).1 = true := hb56
        refine j_aload dX8_replaceTable_59 rfl rfl ?_
        refine j_getf dX8_replaceTable_61 fX8_165 rfl rfl ?_
        refine j_goto (tgt := 71) dX8_replaceTable_64 (by decide) ?_
        refine j_iret dX8_replaceTable_71 rfl rfl ?_ (Nat.le_of_ble_eq_true rfl) (Nat.le_of_ble_eq_true rfl)
        refine ⟨rfl, (by first | exact z_cwl | rfl), ?_⟩
        try rw [sp_i1]
        exact ⟨sp_k32_0 (Or.inr (Or.inl rfl)) (fun z => z.elim (fun z => z hu) hc35), (by rw [hbl]; rfl), (sp_CWe hra hrb ht0 ht9 ht2 he0 he1 hzm3 hzm4 hzm5 ((by unfold sp_ctbS; rw [hbl]; rfl)))⟩
    · refine j_iload_n dX8_replaceTable_11 rfl ?_
      refine j_iconst (v := 1) dX8_replaceTable_12 (by decide) ?_
      refine j_icmp_eq (tgt := 26) dX8_replaceTable_13 (by decide) (fun c_13 => ?_) (fun c_13 => ?_)
      · have hu : r = 0 ∨ r = 1 ∨ r = 4 ∨ r = 5 := Or.inr (Or.inl c_13)
        refine j_iconst (v := 1) dX8_replaceTable_26 (by decide) ?_
        refine j_goto (tgt := 31) dX8_replaceTable_27 (by decide) ?_
        refine j_callS dX8_replaceTable_31 kX8_checkRule lX8_112 stX8_checkRule (c_X8_checkRule_e hl _ _) (Nat.le_of_ble_eq_true rfl) ⟨(Nat.le_of_ble_eq_true rfl), (Nat.le_of_ble_eq_true rfl)⟩ rfl (Nat.le_of_ble_eq_true rfl) rfl rfl (fun _ _ h => by obtain ⟨h1, rfl⟩ := h; exact ⟨rfl, rfl, absurd h1.2 (by decide), rfl⟩) ?_
        rintro _ _ ⟨⟨rfl, hcr⟩, rfl⟩
        have hu2 : ¬ r = 2 := by rintro rfl; exact absurd hu (by decide)
        have hu3 : ¬ r = 3 := by rintro rfl; exact absurd hu (by decide)
        refine j_iload_n dX8_replaceTable_34 rfl ?_
        refine j_callS dX8_replaceTable_35 kX8_checkValue lX8_50 stX8_checkValue (c_X8_checkValue_e hl _ _) (Nat.le_of_ble_eq_true rfl) ⟨(Nat.le_of_ble_eq_true rfl), (Nat.le_of_ble_eq_true rfl)⟩ rfl (Nat.le_of_ble_eq_true rfl) rfl rfl (fun _ _ h => by obtain ⟨h1, rfl⟩ := h; exact ⟨rfl, rfl, Or.inr ⟨h1.1, sp_k32_2 (Or.inr (Or.inl rfl)) (Or.inr h1.2)⟩, rfl⟩) ?_
        rintro _ _ ⟨⟨rfl, hc35⟩, rfl⟩
        refine j_new (w' := (z_cw _ _ _ _ _ _ _ _ _ _ _ _ _ _ _ _ _ _ _ _ _ _ _ _ _ _ _ _ _ _ _ _ _ _ _ _ _ _ _ _ _ _ _ _ _ _ _ _ _ _ _ _ _ _ _ _ [.inr (10, [_, _, _, _, _])], z_no)) (n := 51) dX8_replaceTable_38 nX8_160 rfl (z_al_l rfl rfl) (Nat.le_of_ble_eq_true rfl) (Nat.le_of_ble_eq_true rfl) ?_
        refine j_dup dX8_replaceTable_41 rfl ?_
        refine j_aload dX8_replaceTable_42 rfl rfl ?_
        refine j_callI dX8_replaceTable_44 kX5_init rfl lX8_162 inX5_init rfl (z_frame [51, 16, 17, 18, 19, 20] rfl (by decide) (Nat.le_of_ble_eq_true rfl) (c_X5_init_e hl false _ _ _ _)) (Nat.le_of_ble_eq_true rfl) ⟨(Nat.le_of_ble_eq_true rfl), (Nat.le_of_ble_eq_true rfl)⟩ rfl (Nat.le_of_ble_eq_true rfl) rfl rfl (fun _ _ h => h.elim) ?_
        rintro _ _ ⟨_, _, ⟨rfl, rfl⟩, rfl, rfl⟩
        refine j_ws (L' := z_cw _ _ _ _ _ _ _ _ _ _ _ _ _ _ _ _ _ _ _ _ _ _ _ _ _ _ _ _ _ _ _ _ _ _ _ _ _ _ _ _ _ _ _ _ _ _ _ _ _ _ _ _ _ _ _ _ [.inr (10, [_, _, _, _, _])]) (by decide) rfl rfl ?_
        refine j_iload_n dX8_replaceTable_47 rfl ?_
        refine j_iload_n dX8_replaceTable_48 rfl ?_
        refine j_callS dX8_replaceTable_49 kX8_changeEach lX8_115 stX8_changeEach (z_frame [51, 16, 17, 18, 19, 20] rfl (by decide) (Nat.le_of_ble_eq_true rfl) (c_X8_changeEach_X5_c hl (z_bp (sp_C S 2) 0) _ _ false _ _ _ _ (sp_T S 1) _ _ ht1 rfl hu2 hu3 (sp_vl hc35))) (Nat.le_of_ble_eq_true rfl) ⟨(Nat.le_of_ble_eq_true rfl), (Nat.le_of_ble_eq_true rfl)⟩ rfl (Nat.le_of_ble_eq_true rfl) rfl rfl (fun _ _ h => h.elim) ?_
        rintro _ _ ⟨_, _, ⟨rfl, _, _, _, f9, ht9, rfl⟩, rfl, rfl⟩
        refine j_ws (L' := z_cw _ _ _ _ _ _ _ _ _ _ _ _ _ _ _ _ _ _ _ _ _ _ _ _ _ _ _ _ _ _ _ _ _ _ _ _ _ _ _ _ _ _ _ _ _ _ _ _ _ _ _ _ _ _ _ _ [.inr (10, [_, _, _, _, _])]) (by decide) rfl rfl ?_
        refine j_istore (lo' := [(5, _), (4, _), (0, _), (1, _), (2, _), (3, _)]) dX8_replaceTable_52 (by decide) rfl ?_
        refine j_dropL (n := 51) rfl (Nat.le_of_ble_eq_true rfl) (Nat.le_of_ble_eq_true rfl) (Nat.le_of_ble_eq_true rfl) z_cwc rfl rfl ?_
        refine j_w (z_cw _ _ _ _ _ _ _ _ _ _ _ _ _ _ _ _ _ _ _ _ _ _ _ _ _ _ _ _ _ _ _ _ _ _ _ _ _ _ _ _ _ _ _ _ _ _ _ _ _ _ _ _ _ _ _ _ [], z_no) rfl ?_
        refine j_iload dX8_replaceTable_54 rfl ?_
        refine j_if_eq (tgt := 67) dX8_replaceTable_56 (by decide) (fun c_56 => ?_) (fun c_56 => ?_)
        · have hb56 := z_bF c_56
          have hbl : (sp_ctb S 1 r n).1 = false := hb56
          refine j_aload_n dX8_replaceTable_67 rfl rfl ?_
          refine j_callV (q := (RX8, TX8, 9)) dX8_replaceTable_68 kX8_refused lX8_119 inX8_refused seX8_refused rfl rfl (z_dirF (c_X8_refused_e hl _ _ _ _ _ _ _ _ _ _ _ _ _ _ _ _ _ _ _ _ _ _ _ _ _ _ _ _ _ _ _ _ _ _ _ _ _ _ _ _ _ _ _ _ _ _ _ _ _ _ _ _ _ _ _ _)) (Nat.le_of_ble_eq_true rfl) ⟨(Nat.le_of_ble_eq_true rfl), (Nat.le_of_ble_eq_true rfl)⟩ rfl (Nat.le_of_ble_eq_true rfl) rfl rfl (fun _ _ h => h.elim) ?_
          rintro _ _ ⟨_, ⟨rfl, rfl⟩, rfl⟩
          refine j_iret dX8_replaceTable_71 rfl rfl ?_ (Nat.le_of_ble_eq_true rfl) (Nat.le_of_ble_eq_true rfl)
          refine ⟨rfl, (by first | exact z_cwl | rfl), ?_⟩
          try rw [sp_i1]
          exact ⟨sp_k32_0 (Or.inr (Or.inl rfl)) (fun z => z.elim (fun z => z hu) hc35), (by rw [hbl]; rfl), (sp_CWe hra hrb ht0 ht9 ht2 he0 he1 hzm3 hzm4 hzm5 ((by unfold sp_ctbS; rw [hbl]; rfl)))⟩
        · have hb56 := z_bt c_56
          have hbl : (sp_ctb S 1 r n).1 = true := hb56
          refine j_aload dX8_replaceTable_59 rfl rfl ?_
          refine j_getf dX8_replaceTable_61 fX8_165 rfl rfl ?_
          refine j_goto (tgt := 71) dX8_replaceTable_64 (by decide) ?_
          refine j_iret dX8_replaceTable_71 rfl rfl ?_ (Nat.le_of_ble_eq_true rfl) (Nat.le_of_ble_eq_true rfl)
          refine ⟨rfl, (by first | exact z_cwl | rfl), ?_⟩
          try rw [sp_i1]
          exact ⟨sp_k32_0 (Or.inr (Or.inl rfl)) (fun z => z.elim (fun z => z hu) hc35), (by rw [hbl]; rfl), (sp_CWe hra hrb ht0 ht9 ht2 he0 he1 hzm3 hzm4 hzm5 ((by unfold sp_ctbS; rw [hbl]; rfl)))⟩
      · refine j_iload_n dX8_replaceTable_16 rfl ?_
        refine j_iconst (v := 4) dX8_replaceTable_17 (by decide) ?_
        refine j_icmp_eq (tgt := 26) dX8_replaceTable_18 (by decide) (fun c_18 => ?_) (fun c_18 => ?_)
        · have hu : r = 0 ∨ r = 1 ∨ r = 4 ∨ r = 5 := Or.inr (Or.inr (Or.inl c_18))
          refine j_iconst (v := 1) dX8_replaceTable_26 (by decide) ?_
          refine j_goto (tgt := 31) dX8_replaceTable_27 (by decide) ?_
          refine j_callS dX8_replaceTable_31 kX8_checkRule lX8_112 stX8_checkRule (c_X8_checkRule_e hl _ _) (Nat.le_of_ble_eq_true rfl) ⟨(Nat.le_of_ble_eq_true rfl), (Nat.le_of_ble_eq_true rfl)⟩ rfl (Nat.le_of_ble_eq_true rfl) rfl rfl (fun _ _ h => by obtain ⟨h1, rfl⟩ := h; exact ⟨rfl, rfl, absurd h1.2 (by decide), rfl⟩) ?_
          rintro _ _ ⟨⟨rfl, hcr⟩, rfl⟩
          have hu2 : ¬ r = 2 := by rintro rfl; exact absurd hu (by decide)
          have hu3 : ¬ r = 3 := by rintro rfl; exact absurd hu (by decide)
          refine j_iload_n dX8_replaceTable_34 rfl ?_
          refine j_callS dX8_replaceTable_35 kX8_checkValue lX8_50 stX8_checkValue (c_X8_checkValue_e hl _ _) (Nat.le_of_ble_eq_true rfl) ⟨(Nat.le_of_ble_eq_true rfl), (Nat.le_of_ble_eq_true rfl)⟩ rfl (Nat.le_of_ble_eq_true rfl) rfl rfl (fun _ _ h => by obtain ⟨h1, rfl⟩ := h; exact ⟨rfl, rfl, Or.inr ⟨h1.1, sp_k32_2 (Or.inr (Or.inl rfl)) (Or.inr h1.2)⟩, rfl⟩) ?_
          rintro _ _ ⟨⟨rfl, hc35⟩, rfl⟩
          refine j_new (w' := (z_cw _ _ _ _ _ _ _ _ _ _ _ _ _ _ _ _ _ _ _ _ _ _ _ _ _ _ _ _ _ _ _ _ _ _ _ _ _ _ _ _ _ _ _ _ _ _ _ _ _ _ _ _ _ _ _ _ [.inr (10, [_, _, _, _, _])], z_no)) (n := 51) dX8_replaceTable_38 nX8_160 rfl (z_al_l rfl rfl) (Nat.le_of_ble_eq_true rfl) (Nat.le_of_ble_eq_true rfl) ?_
          refine j_dup dX8_replaceTable_41 rfl ?_
          refine j_aload dX8_replaceTable_42 rfl rfl ?_
          refine j_callI dX8_replaceTable_44 kX5_init rfl lX8_162 inX5_init rfl (z_frame [51, 16, 17, 18, 19, 20] rfl (by decide) (Nat.le_of_ble_eq_true rfl) (c_X5_init_e hl false _ _ _ _)) (Nat.le_of_ble_eq_true rfl) ⟨(Nat.le_of_ble_eq_true rfl), (Nat.le_of_ble_eq_true rfl)⟩ rfl (Nat.le_of_ble_eq_true rfl) rfl rfl (fun _ _ h => h.elim) ?_
          rintro _ _ ⟨_, _, ⟨rfl, rfl⟩, rfl, rfl⟩
          refine j_ws (L' := z_cw _ _ _ _ _ _ _ _ _ _ _ _ _ _ _ _ _ _ _ _ _ _ _ _ _ _ _ _ _ _ _ _ _ _ _ _ _ _ _ _ _ _ _ _ _ _ _ _ _ _ _ _ _ _ _ _ [.inr (10, [_, _, _, _, _])]) (by decide) rfl rfl ?_
          refine j_iload_n dX8_replaceTable_47 rfl ?_
          refine j_iload_n dX8_replaceTable_48 rfl ?_
          refine j_callS dX8_replaceTable_49 kX8_changeEach lX8_115 stX8_changeEach (z_frame [51, 16, 17, 18, 19, 20] rfl (by decide) (Nat.le_of_ble_eq_true rfl) (c_X8_changeEach_X5_c hl (z_bp (sp_C S 2) 0) _ _ false _ _ _ _ (sp_T S 1) _ _ ht1 rfl hu2 hu3 (sp_vl hc35))) (Nat.le_of_ble_eq_true rfl) ⟨(Nat.le_of_ble_eq_true rfl), (Nat.le_of_ble_eq_true rfl)⟩ rfl (Nat.le_of_ble_eq_true rfl) rfl rfl (fun _ _ h => h.elim) ?_
          rintro _ _ ⟨_, _, ⟨rfl, _, _, _, f9, ht9, rfl⟩, rfl, rfl⟩
          refine j_ws (L' := z_cw _ _ _ _ _ _ _ _ _ _ _ _ _ _ _ _ _ _ _ _ _ _ _ _ _ _ _ _ _ _ _ _ _ _ _ _ _ _ _ _ _ _ _ _ _ _ _ _ _ _ _ _ _ _ _ _ [.inr (10, [_, _, _, _, _])]) (by decide) rfl rfl ?_
          refine j_istore (lo' := [(5, _), (4, _), (0, _), (1, _), (2, _), (3, _)]) dX8_replaceTable_52 (by decide) rfl ?_
          refine j_dropL (n := 51) rfl (Nat.le_of_ble_eq_true rfl) (Nat.le_of_ble_eq_true rfl) (Nat.le_of_ble_eq_true rfl) z_cwc rfl rfl ?_
          refine j_w (z_cw _ _ _ _ _ _ _ _ _ _ _ _ _ _ _ _ _ _ _ _ _ _ _ _ _ _ _ _ _ _ _ _ _ _ _ _ _ _ _ _ _ _ _ _ _ _ _ _ _ _ _ _ _ _ _ _ [], z_no) rfl ?_
          refine j_iload dX8_replaceTable_54 rfl ?_
          refine j_if_eq (tgt := 67) dX8_replaceTable_56 (by decide) (fun c_56 => ?_) (fun c_56 => ?_)
          · have hb56 := z_bF c_56
            have hbl : (sp_ctb S 1 r n).1 = false := hb56
            refine j_aload_n dX8_replaceTable_67 rfl rfl ?_
            refine j_callV (q := (RX8, TX8, 9)) dX8_replaceTable_68 kX8_refused lX8_119 inX8_refused seX8_refused rfl rfl (z_dirF (c_X8_refused_e hl _ _ _ _ _ _ _ _ _ _ _ _ _ _ _ _ _ _ _ _ _ _ _ _ _ _ _ _ _ _ _ _ _ _ _ _ _ _ _ _ _ _ _ _ _ _ _ _ _ _ _ _ _ _ _ _)) (Nat.le_of_ble_eq_true rfl) ⟨(Nat.le_of_ble_eq_true rfl), (Nat.le_of_ble_eq_true rfl)⟩ rfl (Nat.le_of_ble_eq_true rfl) rfl rfl (fun _ _ h => h.elim) ?_
            rintro _ _ ⟨_, ⟨rfl, rfl⟩, rfl⟩
            refine j_iret dX8_replaceTable_71 rfl rfl ?_ (Nat.le_of_ble_eq_true rfl) (Nat.le_of_ble_eq_true rfl)
            refine ⟨rfl, (by first | exact z_cwl | rfl), ?_⟩
            try rw [sp_i1]
            exact ⟨sp_k32_0 (Or.inr (Or.inl rfl)) (fun z => z.elim (fun z => z hu) hc35), (by rw [hbl]; rfl), (sp_CWe hra hrb ht0 ht9 ht2 he0 he1 hzm3 hzm4 hzm5 ((by unfold sp_ctbS; rw [hbl]; rfl)))⟩
          · have hb56 := z_bt c_56
            have hbl : (sp_ctb S 1 r n).1 = true := hb56
            refine j_aload dX8_replaceTable_59 rfl rfl ?_
            refine j_getf dX8_replaceTable_61 fX8_165 rfl rfl ?_
            refine j_goto (tgt := 71) dX8_replaceTable_64 (by decide) ?_
            refine j_iret dX8_replaceTable_71 rfl rfl ?_ (Nat.le_of_ble_eq_true rfl) (Nat.le_of_ble_eq_true rfl)
            refine ⟨rfl, (by first | exact z_cwl | rfl), ?_⟩
            try rw [sp_i1]
            exact ⟨sp_k32_0 (Or.inr (Or.inl rfl)) (fun z => z.elim (fun z => z hu) hc35), (by rw [hbl]; rfl), (sp_CWe hra hrb ht0 ht9 ht2 he0 he1 hzm3 hzm4 hzm5 ((by unfold sp_ctbS; rw [hbl]; rfl)))⟩
        · refine j_iload_n dX8_replaceTable_21 rfl ?_
          refine j_iconst (v := 5) dX8_replaceTable_22 (by decide) ?_
          refine j_icmp_ne (tgt := 30) dX8_replaceTable_23 (by decide) (fun c_23 => ?_) (fun c_23 => ?_)
          · have hnu : ¬ (r = 0 ∨ r = 1 ∨ r = 4 ∨ r = 5) := (fun z => z.elim c_8 (fun z => z.elim c_13 (fun z => z.elim c_18 c_23)))
            refine j_iconst (v := 0) dX8_replaceTable_30 (by decide) ?_
            refine j_callS dX8_replaceTable_31 kX8_checkRule lX8_112 stX8_checkRule (c_X8_checkRule_e hl _ _) (Nat.le_of_ble_eq_true rfl) ⟨(Nat.le_of_ble_eq_true rfl), (Nat.le_of_ble_eq_true rfl)⟩ rfl (Nat.le_of_ble_eq_true rfl) rfl rfl (fun _ _ h => by obtain ⟨h1, rfl⟩ := h; exact ⟨rfl, rfl, Or.inr ⟨h1.1, sp_k32_2 (Or.inr (Or.inl rfl)) (Or.inl hnu)⟩, rfl⟩) ?_
            rintro _ _ ⟨⟨rfl, hcr⟩, rfl⟩
            exact absurd rfl hcr
          · have hu : r = 0 ∨ r = 1 ∨ r = 4 ∨ r = 5 := Or.inr (Or.inr (Or.inr (c_23)))
            refine j_iconst (v := 1) dX8_replaceTable_26 (by decide) ?_
            refine j_goto (tgt := 31) dX8_replaceTable_27 (by decide) ?_
            refine j_callS dX8_replaceTable_31 kX8_checkRule lX8_112 stX8_checkRule (c_X8_checkRule_e hl _ _) (Nat.le_of_ble_eq_true rfl) ⟨(Nat.le_of_ble_eq_true rfl), (Nat.le_of_ble_eq_true rfl)⟩ rfl (Nat.le_of_ble_eq_true rfl) rfl rfl (fun _ _ h => by obtain ⟨h1, rfl⟩ := h; exact ⟨rfl, rfl, absurd h1.2 (by decide), rfl⟩) ?_
            rintro _ _ ⟨⟨rfl, hcr⟩, rfl⟩
            have hu2 : ¬ r = 2 := by rintro rfl; exact absurd hu (by decide)
            have hu3 : ¬ r = 3 := by rintro rfl; exact absurd hu (by decide)
            refine j_iload_n dX8_replaceTable_34 rfl ?_
            refine j_callS dX8_replaceTable_35 kX8_checkValue lX8_50 stX8_checkValue (c_X8_checkValue_e hl _ _) (Nat.le_of_ble_eq_true rfl) ⟨(Nat.le_of_ble_eq_true rfl), (Nat.le_of_ble_eq_true rfl)⟩ rfl (Nat.le_of_ble_eq_true rfl) rfl rfl (fun _ _ h => by obtain ⟨h1, rfl⟩ := h; exact ⟨rfl, rfl, Or.inr ⟨h1.1, sp_k32_2 (Or.inr (Or.inl rfl)) (Or.inr h1.2)⟩, rfl⟩) ?_
            rintro _ _ ⟨⟨rfl, hc35⟩, rfl⟩
            refine j_new (w' := (z_cw _ _ _ _ _ _ _ _ _ _ _ _ _ _ _ _ _ _ _ _ _ _ _ _ _ _ _ _ _ _ _ _ _ _ _ _ _ _ _ _ _ _ _ _ _ _ _ _ _ _ _ _ _ _ _ _ [.inr (10, [_, _, _, _, _])], z_no)) (n := 51) dX8_replaceTable_38 nX8_160 rfl (z_al_l rfl rfl) (Nat.le_of_ble_eq_true rfl) (Nat.le_of_ble_eq_true rfl) ?_
            refine j_dup dX8_replaceTable_41 rfl ?_
            refine j_aload dX8_replaceTable_42 rfl rfl ?_
            refine j_callI dX8_replaceTable_44 kX5_init rfl lX8_162 inX5_init rfl (z_frame [51, 16, 17, 18, 19, 20] rfl (by decide) (Nat.le_of_ble_eq_true rfl) (c_X5_init_e hl false _ _ _ _)) (Nat.le_of_ble_eq_true rfl) ⟨(Nat.le_of_ble_eq_true rfl), (Nat.le_of_ble_eq_true rfl)⟩ rfl (Nat.le_of_ble_eq_true rfl) rfl rfl (fun _ _ h => h.elim) ?_
            rintro _ _ ⟨_, _, ⟨rfl, rfl⟩, rfl, rfl⟩
            refine j_ws (L' := z_cw _ _ _ _ _ _ _ _ _ _ _ _ _ _ _ _ _ _ _ _ _ _ _ _ _ _ _ _ _ _ _ _ _ _ _ _ _ _ _ _ _ _ _ _ _ _ _ _ _ _ _ _ _ _ _ _ [.inr (10, [_, _, _, _, _])]) (by decide) rfl rfl ?_
            refine j_iload_n dX8_replaceTable_47 rfl ?_
            refine j_iload_n dX8_replaceTable_48 rfl ?_
            refine j_callS dX8_replaceTable_49 kX8_changeEach lX8_115 stX8_changeEach (z_frame [51, 16, 17, 18, 19, 20] rfl (by decide) (Nat.le_of_ble_eq_true rfl) (c_X8_changeEach_X5_c hl (z_bp (sp_C S 2) 0) _ _ false _ _ _ _ (sp_T S 1) _ _ ht1 rfl hu2 hu3 (sp_vl hc35))) (Nat.le_of_ble_eq_true rfl) ⟨(Nat.le_of_ble_eq_true rfl), (Nat.le_of_ble_eq_true rfl)⟩ rfl (Nat.le_of_ble_eq_true rfl) rfl rfl (fun _ _ h => h.elim) ?_
            rintro _ _ ⟨_, _, ⟨rfl, _, _, _, f9, ht9, rfl⟩, rfl, rfl⟩
            refine j_ws (L' := z_cw _ _ _ _ _ _ _ _ _ _ _ _ _ _ _ _ _ _ _ _ _ _ _ _ _ _ _ _ _ _ _ _ _ _ _ _ _ _ _ _ _ _ _ _ _ _ _ _ _ _ _ _ _ _ _ _ [.inr (10, [_, _, _, _, _])]) (by decide) rfl rfl ?_
            refine j_istore (lo' := [(5, _), (4, _), (0, _), (1, _), (2, _), (3, _)]) dX8_replaceTable_52 (by decide) rfl ?_
            refine j_dropL (n := 51) rfl (Nat.le_of_ble_eq_true rfl) (Nat.le_of_ble_eq_true rfl) (Nat.le_of_ble_eq_true rfl) z_cwc rfl rfl ?_
            refine j_w (z_cw _ _ _ _ _ _ _ _ _ _ _ _ _ _ _ _ _ _ _ _ _ _ _ _ _ _ _ _ _ _ _ _ _ _ _ _ _ _ _ _ _ _ _ _ _ _ _ _ _ _ _ _ _ _ _ _ [], z_no) rfl ?_
            refine j_iload dX8_replaceTable_54 rfl ?_
            refine j_if_eq (tgt := 67) dX8_replaceTable_56 (by decide) (fun c_56 => ?_) (fun c_56 => ?_)
            · have hb56 := z_bF c_56
              have hbl : (sp_ctb S 1 r n).1 = false := hb56
              refine j_aload_n dX8_replaceTable_67 rfl rfl ?_
              refine j_callV (q := (RX8, TX8, 9)) dX8_replaceTable_68 kX8_refused lX8_119 inX8_refused seX8_refused rfl rfl (z_dirF (c_X8_refused_e hl _ _ _ _ _ _ _ _ _ _ _ _ _ _ _ _ _ _ _ _ _ _ _ _ _ _ _ _ _ _ _ _ _ _ _ _ _ _ _ _ _ _ _ _ _ _ _ _ _ _ _ _ _ _ _ _)) (Nat.le_of_ble_eq_true rfl) ⟨(Nat.le_of_ble_eq_true rfl), (Nat.le_of_ble_eq_true rfl)⟩ rfl (Nat.le_of_ble_eq_true rfl) rfl rfl (fun _ _ h => h.elim) ?_
              rintro _ _ ⟨_, ⟨rfl, rfl⟩, rfl⟩
              refine j_iret dX8_replaceTable_71 rfl rfl ?_ (Nat.le_of_ble_eq_true rfl) (Nat.le_of_ble_eq_true rfl)
              refine ⟨rfl, (by first | exact z_cwl | rfl), ?_⟩
              try rw [sp_i1]
              exact ⟨sp_k32_0 (Or.inr (Or.inl rfl)) (fun z => z.elim (fun z => z hu) hc35), (by rw [hbl]; rfl), (sp_CWe hra hrb ht0 ht9 ht2 he0 he1 hzm3 hzm4 hzm5 ((by unfold sp_ctbS; rw [hbl]; rfl)))⟩
            · have hb56 := z_bt c_56
              have hbl : (sp_ctb S 1 r n).1 = true := hb56
              refine j_aload dX8_replaceTable_59 rfl rfl ?_
              refine j_getf dX8_replaceTable_61 fX8_165 rfl rfl ?_
              refine j_goto (tgt := 71) dX8_replaceTable_64 (by decide) ?_
              refine j_iret dX8_replaceTable_71 rfl rfl ?_ (Nat.le_of_ble_eq_true rfl) (Nat.le_of_ble_eq_true rfl)
              refine ⟨rfl, (by first | exact z_cwl | rfl), ?_⟩
              try rw [sp_i1]
              exact ⟨sp_k32_0 (Or.inr (Or.inl rfl)) (fun z => z.elim (fun z => z hu) hc35), (by rw [hbl]; rfl), (sp_CWe hra hrb ht0 ht9 ht2 he0 he1 hzm3 hzm4 hzm5 ((by unfold sp_ctbS; rw [hbl]; rfl)))⟩
  · subst e_2
    refine j_astore (lo' := [(4, _), (0, _), (1, _), (2, _), (3, _)]) dX8_replaceTable_5 rfl (by decide) rfl ?_
    refine j_iload_n dX8_replaceTable_7 rfl ?_
    refine j_if_eq (tgt := 26) dX8_replaceTable_8 (by decide) (fun c_8 => ?_) (fun c_8 => ?_)
    · have hu : r = 0 ∨ r = 1 ∨ r = 4 ∨ r = 5 := Or.inl c_8
      refine j_iconst (v := 1) dX8_replaceTable_26 (by decide) ?_
      refine j_goto (tgt := 31) dX8_replaceTable_27 (by decide) ?_
      refine j_callS dX8_replaceTable_31 kX8_checkRule lX8_112 stX8_checkRule (c_X8_checkRule_e hl _ _) (Nat.le_of_ble_eq_true rfl) ⟨(Nat.le_of_ble_eq_true rfl), (Nat.le_of_ble_eq_true rfl)⟩ rfl (Nat.le_of_ble_eq_true rfl) rfl rfl (fun _ _ h => by obtain ⟨h1, rfl⟩ := h; exact ⟨rfl, rfl, absurd h1.2 (by decide), rfl⟩) ?_
      rintro _ _ ⟨⟨rfl, hcr⟩, rfl⟩
      have hu2 : ¬ r = 2 := by rintro rfl; exact absurd hu (by decide)
      have hu3 : ¬ r = 3 := by rintro rfl; exact absurd hu (by decide)
      refine j_iload_n dX8_replaceTable_34 rfl ?_
      refine j_callS dX8_replaceTable_35 kX8_checkValue lX8_50 stX8_checkValue (c_X8_checkValue_e hl _ _) (Nat.le_of_ble_eq_true rfl) ⟨(Nat.le_of_ble_eq_true rfl), (Nat.le_of_ble_eq_true rfl)⟩ rfl (Nat.le_of_ble_eq_true rfl) rfl rfl (fun _ _ h => by obtain ⟨h1, rfl⟩ := h; exact ⟨rfl, rfl, Or.inr ⟨h1.1, sp_k32_2 (Or.inr (Or.inr rfl)) (Or.inr h1.2)⟩, rfl⟩) ?_
      rintro _ _ ⟨⟨rfl, hc35⟩, rfl⟩
      refine j_new (w' := (z_cw _ _ _ _ _ _ _ _ _ _ _ _ _ _ _ _ _ _ _ _ _ _ _ _ _ _ _ _ _ _ _ _ _ _ _ _ _ _ _ _ _ _ _ _ _ _ _ _ _ _ _ _ _ _ _ _ [.inr (10, [_, _, _, _, _])], z_no)) (n := 51) dX8_replaceTable_38 nX8_160 rfl (z_al_l rfl rfl) (Nat.le_of_ble_eq_true rfl) (Nat.le_of_ble_eq_true rfl) ?_
      refine j_dup dX8_replaceTable_41 rfl ?_
      refine j_aload dX8_replaceTable_42 rfl rfl ?_
      refine j_callI dX8_replaceTable_44 kX5_init rfl lX8_162 inX5_init rfl (z_frame [51, 21, 22, 23, 24, 25] rfl (by decide) (Nat.le_of_ble_eq_true rfl) (c_X5_init_e hl true _ _ _ _)) (Nat.le_of_ble_eq_true rfl) ⟨(Nat.le_of_ble_eq_true rfl), (Nat.le_of_ble_eq_true rfl)⟩ rfl (Nat.le_of_ble_eq_true rfl) rfl rfl (fun _ _ h => h.elim) ?_
      rintro _ _ ⟨_, _, ⟨rfl, rfl⟩, rfl, rfl⟩
      refine j_ws (L' := z_cw _ _ _ _ _ _ _ _ _ _ _ _ _ _ _ _ _ _ _ _ _ _ _ _ _ _ _ _ _ _ _ _ _ _ _ _ _ _ _ _ _ _ _ _ _ _ _ _ _ _ _ _ _ _ _ _ [.inr (10, [_, _, _, _, _])]) (by decide) rfl rfl ?_
      refine j_iload_n dX8_replaceTable_47 rfl ?_
      refine j_iload_n dX8_replaceTable_48 rfl ?_
      refine j_callS dX8_replaceTable_49 kX8_changeEach lX8_115 stX8_changeEach (z_frame [51, 21, 22, 23, 24, 25] rfl (by decide) (Nat.le_of_ble_eq_true rfl) (c_X8_changeEach_X5_c hl (z_bp (sp_C S 2) 0) _ _ true _ _ _ _ (sp_T S 2) _ _ ht2 rfl hu2 hu3 (sp_vl hc35))) (Nat.le_of_ble_eq_true rfl) ⟨(Nat.le_of_ble_eq_true rfl), (Nat.le_of_ble_eq_true rfl)⟩ rfl (Nat.le_of_ble_eq_true rfl) rfl rfl (fun _ _ h => h.elim) ?_
      rintro _ _ ⟨_, _, ⟨rfl, _, _, _, f9, ht9, rfl⟩, rfl, rfl⟩
      refine j_ws (L' := z_cw _ _ _ _ _ _ _ _ _ _ _ _ _ _ _ _ _ _ _ _ _ _ _ _ _ _ _ _ _ _ _ _ _ _ _ _ _ _ _ _ _ _ _ _ _ _ _ _ _ _ _ _ _ _ _ _ [.inr (10, [_, _, _, _, _])]) (by decide) rfl rfl ?_
      refine j_istore (lo' := [(5, _), (4, _), (0, _), (1, _), (2, _), (3, _)]) dX8_replaceTable_52 (by decide) rfl ?_
      refine j_dropL (n := 51) rfl (Nat.le_of_ble_eq_true rfl) (Nat.le_of_ble_eq_true rfl) (Nat.le_of_ble_eq_true rfl) z_cwc rfl rfl ?_
      refine j_w (z_cw _ _ _ _ _ _ _ _ _ _ _ _ _ _ _ _ _ _ _ _ _ _ _ _ _ _ _ _ _ _ _ _ _ _ _ _ _ _ _ _ _ _ _ _ _ _ _ _ _ _ _ _ _ _ _ _ [], z_no) rfl ?_
      refine j_iload dX8_replaceTable_54 rfl ?_
      refine j_if_eq (tgt := 67) dX8_replaceTable_56 (by decide) (fun c_56 => ?_) (fun c_56 => ?_)
      · have hb56 := z_bF c_56
        have hbl : (sp_ctb S 2 r n).1 = false := hb56
        refine j_aload_n dX8_replaceTable_67 rfl rfl ?_
        refine j_callV (q := (RX8, TX8, 9)) dX8_replaceTable_68 kX8_refused lX8_119 inX8_refused seX8_refused rfl rfl (z_dirF (c_X8_refused_e hl _ _ _ _ _ _ _ _ _ _ _ _ _ _ _ _ _ _ _ _ _ _ _ _ _ _ _ _ _ _ _ _ _ _ _ _ _ _ _ _ _ _ _ _ _ _ _ _ _ _ _ _ _ _ _ _)) (Nat.le_of_ble_eq_true rfl) ⟨(Nat.le_of_ble_eq_true rfl), (Nat.le_of_ble_eq_true rfl)⟩ rfl (Nat.le_of_ble_eq_true rfl) rfl rfl (fun _ _ h => h.elim) ?_
        rintro _ _ ⟨_, ⟨rfl, rfl⟩, rfl⟩
        refine j_iret dX8_replaceTable_71 rfl rfl ?_ (Nat.le_of_ble_eq_true rfl) (Nat.le_of_ble_eq_true rfl)
        refine ⟨rfl, (by first | exact z_cwl | rfl), ?_⟩
        try rw [sp_i2]
        exact ⟨sp_k32_0 (Or.inr (Or.inr rfl)) (fun z => z.elim (fun z => z hu) hc35), (by rw [hbl]; rfl), (sp_CWe hra hrb ht0 ht1 ht9 he0 he1 hzm3 hzm4 hzm5 ((by unfold sp_ctbS; rw [hbl]; rfl)))⟩
      · have hb56 := z_bt c_56
        have hbl : (sp_ctb S 2 r n).1 = true := hb56
        refine j_aload dX8_replaceTable_59 rfl rfl ?_
        refine j_getf dX8_replaceTable_61 fX8_165 rfl rfl ?_
        refine j_goto (tgt := 71) dX8_replaceTable_64 (by decide) ?_
        refine j_iret dX8_replaceTable_71 rfl rfl ?_ (Nat.le_of_ble_eq_true rfl) (Nat.le_of_ble_eq_true rfl)
        refine ⟨rfl, (by first | exact z_cwl | rfl), ?_⟩
        try rw [sp_i2]
        exact ⟨sp_k32_0 (Or.inr (Or.inr rfl)) (fun z => z.elim (fun z => z hu) hc35), (by rw [hbl]; rfl), (sp_CWe hra hrb ht0 ht1 ht9 he0 he1 hzm3 hzm4 hzm5 ((by unfold sp_ctbS; rw [hbl]; rfl)))⟩
    · refine j_iload_n dX8_replaceTable_11 rfl ?_
      refine j_iconst (v := 1) dX8_replaceTable_12 (by decide) ?_
      refine j_icmp_eq (tgt := 26) dX8_replaceTable_13 (by decide) (fun c_13 => ?_) (fun c_13 => ?_)
      · have hu : r = 0 ∨ r = 1 ∨ r = 4 ∨ r = 5 := Or.inr (Or.inl c_13)
        refine j_iconst (v := 1) dX8_replaceTable_26 (by decide) ?_
        refine j_goto (tgt := 31) dX8_replaceTable_27 (by decide) ?_
        refine j_callS dX8_replaceTable_31 kX8_checkRule lX8_112 stX8_checkRule (c_X8_checkRule_e hl _ _) (Nat.le_of_ble_eq_true rfl) ⟨(Nat.le_of_ble_eq_true rfl), (Nat.le_of_ble_eq_true rfl)⟩ rfl (Nat.le_of_ble_eq_true rfl) rfl rfl (fun _ _ h => by obtain ⟨h1, rfl⟩ := h; exact ⟨rfl, rfl, absurd h1.2 (by decide), rfl⟩) ?_
        rintro _ _ ⟨⟨rfl, hcr⟩, rfl⟩
        have hu2 : ¬ r = 2 := by rintro rfl; exact absurd hu (by decide)
        have hu3 : ¬ r = 3 := by rintro rfl; exact absurd hu (by decide)
        refine j_iload_n dX8_replaceTable_34 rfl ?_
        refine j_callS dX8_replaceTable_35 kX8_checkValue lX8_50 stX8_checkValue (c_X8_checkValue_e hl _ _) (Nat.le_of_ble_eq_true rfl) ⟨(Nat.le_of_ble_eq_true rfl), (Nat.le_of_ble_eq_true rfl)⟩ rfl (Nat.le_of_ble_eq_true rfl) rfl rfl (fun _ _ h => by obtain ⟨h1, rfl⟩ := h; exact ⟨rfl, rfl, Or.inr ⟨h1.1, sp_k32_2 (Or.inr (Or.inr rfl)) (Or.inr h1.2)⟩, rfl⟩) ?_
        rintro _ _ ⟨⟨rfl, hc35⟩, rfl⟩
        refine j_new (w' := (z_cw _ _ _ _ _ _ _ _ _ _ _ _ _ _ _ _ _ _ _ _ _ _ _ _ _ _ _ _ _ _ _ _ _ _ _ _ _ _ _ _ _ _ _ _ _ _ _ _ _ _ _ _ _ _ _ _ [.inr (10, [_, _, _, _, _])], z_no)) (n := 51) dX8_replaceTable_38 nX8_160 rfl (z_al_l rfl rfl) (Nat.le_of_ble_eq_true rfl) (Nat.le_of_ble_eq_true rfl) ?_
        refine j_dup dX8_replaceTable_41 rfl ?_
        refine j_aload dX8_replaceTable_42 rfl rfl ?_
        refine j_callI dX8_replaceTable_44 kX5_init rfl lX8_162 inX5_init rfl (z_frame [51, 21, 22, 23, 24, 25] rfl (by decide) (Nat.le_of_ble_eq_true rfl) (c_X5_init_e hl true _ _ _ _)) (Nat.le_of_ble_eq_true rfl) ⟨(Nat.le_of_ble_eq_true rfl), (Nat.le_of_ble_eq_true rfl)⟩ rfl (Nat.le_of_ble_eq_true rfl) rfl rfl (fun _ _ h => h.elim) ?_
        rintro _ _ ⟨_, _, ⟨rfl, rfl⟩, rfl, rfl⟩
        refine j_ws (L' := z_cw _ _ _ _ _ _ _ _ _ _ _ _ _ _ _ _ _ _ _ _ _ _ _ _ _ _ _ _ _ _ _ _ _ _ _ _ _ _ _ _ _ _ _ _ _ _ _ _ _ _ _ _ _ _ _ _ [.inr (10, [_, _, _, _, _])]) (by decide) rfl rfl ?_
        refine j_iload_n dX8_replaceTable_47 rfl ?_
        refine j_iload_n dX8_replaceTable_48 rfl ?_
        refine j_callS dX8_replaceTable_49 kX8_changeEach lX8_115 stX8_changeEach (z_frame [51, 21, 22, 23, 24, 25] rfl (by decide) (Nat.le_of_ble_eq_true rfl) (c_X8_changeEach_X5_c hl (z_bp (sp_C S 2) 0) _ _ true _ _ _ _ (sp_T S 2) _ _ ht2 rfl hu2 hu3 (sp_vl hc35))) (Nat.le_of_ble_eq_true rfl) ⟨(Nat.le_of_ble_eq_true rfl), (Nat.le_of_ble_eq_true rfl)⟩ rfl (Nat.le_of_ble_eq_true rfl) rfl rfl (fun _ _ h => h.elim) ?_
        rintro _ _ ⟨_, _, ⟨rfl, _, _, _, f9, ht9, rfl⟩, rfl, rfl⟩
        refine j_ws (L' := z_cw _ _ _ _ _ _ _ _ _ _ _ _ _ _ _ _ _ _ _ _ _ _ _ _ _ _ _ _ _ _ _ _ _ _ _ _ _ _ _ _ _ _ _ _ _ _ _ _ _ _ _ _ _ _ _ _ [.inr (10, [_, _, _, _, _])]) (by decide) rfl rfl ?_
        refine j_istore (lo' := [(5, _), (4, _), (0, _), (1, _), (2, _), (3, _)]) dX8_replaceTable_52 (by decide) rfl ?_
        refine j_dropL (n := 51) rfl (Nat.le_of_ble_eq_true rfl) (Nat.le_of_ble_eq_true rfl) (Nat.le_of_ble_eq_true rfl) z_cwc rfl rfl ?_
        refine j_w (z_cw _ _ _ _ _ _ _ _ _ _ _ _ _ _ _ _ _ _ _ _ _ _ _ _ _ _ _ _ _ _ _ _ _ _ _ _ _ _ _ _ _ _ _ _ _ _ _ _ _ _ _ _ _ _ _ _ [], z_no) rfl ?_
        refine j_iload dX8_replaceTable_54 rfl ?_
        refine j_if_eq (tgt := 67) dX8_replaceTable_56 (by decide) (fun c_56 => ?_) (fun c_56 => ?_)
        · have hb56 := z_bF c_56
          have hbl : (sp_ctb S 2 r n).1 = false := hb56
          refine j_aload_n dX8_replaceTable_67 rfl rfl ?_
          refine j_callV (q := (RX8, TX8, 9)) dX8_replaceTable_68 kX8_refused lX8_119 inX8_refused seX8_refused rfl rfl (z_dirF (c_X8_refused_e hl _ _ _ _ _ _ _ _ _ _ _ _ _ _ _ _ _ _ _ _ _ _ _ _ _ _ _ _ _ _ _ _ _ _ _ _ _ _ _ _ _ _ _ _ _ _ _ _ _ _ _ _ _ _ _ _)) (Nat.le_of_ble_eq_true rfl) ⟨(Nat.le_of_ble_eq_true rfl), (Nat.le_of_ble_eq_true rfl)⟩ rfl (Nat.le_of_ble_eq_true rfl) rfl rfl (fun _ _ h => h.elim) ?_
          rintro _ _ ⟨_, ⟨rfl, rfl⟩, rfl⟩
          refine j_iret dX8_replaceTable_71 rfl rfl ?_ (Nat.le_of_ble_eq_true rfl) (Nat.le_of_ble_eq_true rfl)
          refine ⟨rfl, (by first | exact z_cwl | rfl), ?_⟩
          try rw [sp_i2]
          exact ⟨sp_k32_0 (Or.inr (Or.inr rfl)) (fun z => z.elim (fun z => z hu) hc35), (by rw [hbl]; rfl), (sp_CWe hra hrb ht0 ht1 ht9 he0 he1 hzm3 hzm4 hzm5 ((by unfold sp_ctbS; rw [hbl]; rfl)))⟩
        · have hb56 := z_bt c_56
          have hbl : (sp_ctb S 2 r n).1 = true := hb56
          refine j_aload dX8_replaceTable_59 rfl rfl ?_
          refine j_getf dX8_replaceTable_61 fX8_165 rfl rfl ?_
          refine j_goto (tgt := 71) dX8_replaceTable_64 (by decide) ?_
          refine j_iret dX8_replaceTable_71 rfl rfl ?_ (Nat.le_of_ble_eq_true rfl) (Nat.le_of_ble_eq_true rfl)
          refine ⟨rfl, (by first | exact z_cwl | rfl), ?_⟩
          try rw [sp_i2]
          exact ⟨sp_k32_0 (Or.inr (Or.inr rfl)) (fun z => z.elim (fun z => z hu) hc35), (by rw [hbl]; rfl), (sp_CWe hra hrb ht0 ht1 ht9 he0 he1 hzm3 hzm4 hzm5 ((by unfold sp_ctbS; rw [hbl]; rfl)))⟩
      · refine j_iload_n dX8_replaceTable_16 rfl ?_
        refine j_iconst (v := 4) dX8_replaceTable_17 (by decide) ?_
        refine j_icmp_eq (tgt := 26) dX8_replaceTable_18 (by decide) (fun c_18 => ?_) (fun c_18 => ?_)
        · have hu : r = 0 ∨ r = 1 ∨ r = 4 ∨ r = 5 := Or.inr (Or.inr (Or.inl c_18))
          refine j_iconst (v := 1) dX8_replaceTable_26 (by decide) ?_
          refine j_goto (tgt := 31) dX8_replaceTable_27 (by decide) ?_
          refine j_callS dX8_replaceTable_31 kX8_checkRule lX8_112 stX8_checkRule (c_X8_checkRule_e hl _ _) (Nat.le_of_ble_eq_true rfl) ⟨(Nat.le_of_ble_eq_true rfl), (Nat.le_of_ble_eq_true rfl)⟩ rfl (Nat.le_of_ble_eq_true rfl) rfl rfl (fun _ _ h => by obtain ⟨h1, rfl⟩ := h; exact ⟨rfl, rfl, absurd h1.2 (by decide), rfl⟩) ?_
          rintro _ _ ⟨⟨rfl, hcr⟩, rfl⟩
          have hu2 : ¬ r = 2 := by rintro rfl; exact absurd hu (by decide)
          have hu3 : ¬ r = 3 := by rintro rfl; exact absurd hu (by decide)
          refine j_iload_n dX8_replaceTable_34 rfl ?_
          refine j_callS dX8_replaceTable_35 kX8_checkValue lX8_50 stX8_checkValue (c_X8_checkValue_e hl _ _) (Nat.le_of_ble_eq_true rfl) ⟨(Nat.le_of_ble_eq_true rfl), (Nat.le_of_ble_eq_true rfl)⟩ rfl (Nat.le_of_ble_eq_true rfl) rfl rfl (fun _ _ h => by obtain ⟨h1, rfl⟩ := h; exact ⟨rfl, rfl, Or.inr ⟨h1.1, sp_k32_2 (Or.inr (Or.inr rfl)) (Or.inr h1.2)⟩, rfl⟩) ?_
          rintro _ _ ⟨⟨rfl, hc35⟩, rfl⟩
          refine j_new (w' := (z_cw _ _ _ _ _ _ _ _ _ _ _ _ _ _ _ _ _ _ _ _ _ _ _ _ _ _ _ _ _ _ _ _ _ _ _ _ _ _ _ _ _ _ _ _ _ _ _ _ _ _ _ _ _ _ _ _ [.inr (10, [_, _, _, _, _])], z_no)) (n := 51) dX8_replaceTable_38 nX8_160 rfl (z_al_l rfl rfl) (Nat.le_of_ble_eq_true rfl) (Nat.le_of_ble_eq_true rfl) ?_
          refine j_dup dX8_replaceTable_41 rfl ?_
          refine j_aload dX8_replaceTable_42 rfl rfl ?_
          refine j_callI dX8_replaceTable_44 kX5_init rfl lX8_162 inX5_init rfl (z_frame [51, 21, 22, 23, 24, 25] rfl (by decide) (Nat.le_of_ble_eq_true rfl) (c_X5_init_e hl true _ _ _ _)) (Nat.le_of_ble_eq_true rfl) ⟨(Nat.le_of_ble_eq_true rfl), (Nat.le_of_ble_eq_true rfl)⟩ rfl (Nat.le_of_ble_eq_true rfl) rfl rfl (fun _ _ h => h.elim) ?_
          rintro _ _ ⟨_, _, ⟨rfl, rfl⟩, rfl, rfl⟩
          refine j_ws (L' := z_cw _ _ _ _ _ _ _ _ _ _ _ _ _ _ _ _ _ _ _ _ _ _ _ _ _ _ _ _ _ _ _ _ _ _ _ _ _ _ _ _ _ _ _ _ _ _ _ _ _ _ _ _ _ _ _ _ [.inr (10, [_, _, _, _, _])]) (by decide) rfl rfl ?_
          refine j_iload_n dX8_replaceTable_47 rfl ?_
          refine j_iload_n dX8_replaceTable_48 rfl ?_
          refine j_callS dX8_replaceTable_49 kX8_changeEach lX8_115 stX8_changeEach (z_frame [51, 21, 22, 23, 24, 25] rfl (by decide) (Nat.le_of_ble_eq_true rfl) (c_X8_changeEach_X5_c hl (z_bp (sp_C S 2) 0) _ _ true _ _ _ _ (sp_T S 2) _ _ ht2 rfl hu2 hu3 (sp_vl hc35))) (Nat.le_of_ble_eq_true rfl) ⟨(Nat.le_of_ble_eq_true rfl), (Nat.le_of_ble_eq_true rfl)⟩ rfl (Nat.le_of_ble_eq_true rfl) rfl rfl (fun _ _ h => h.elim) ?_
          rintro _ _ ⟨_, _, ⟨rfl, _, _, _, f9, ht9, rfl⟩, rfl, rfl⟩
          refine j_ws (L' := z_cw _ _ _ _ _ _ _ _ _ _ _ _ _ _ _ _ _ _ _ _ _ _ _ _ _ _ _ _ _ _ _ _ _ _ _ _ _ _ _ _ _ _ _ _ _ _ _ _ _ _ _ _ _ _ _ _ [.inr (10, [_, _, _, _, _])]) (by decide) rfl rfl ?_
          refine j_istore (lo' := [(5, _), (4, _), (0, _), (1, _), (2, _), (3, _)]) dX8_replaceTable_52 (by decide) rfl ?_
          refine j_dropL (n := 51) rfl (Nat.le_of_ble_eq_true rfl) (Nat.le_of_ble_eq_true rfl) (Nat.le_of_ble_eq_true rfl) z_cwc rfl rfl ?_
          refine j_w (z_cw _ _ _ _ _ _ _ _ _ _ _ _ _ _ _ _ _ _ _ _ _ _ _ _ _ _ _ _ _ _ _ _ _ _ _ _ _ _ _ _ _ _ _ _ _ _ _ _ _ _ _ _ _ _ _ _ [], z_no) rfl ?_
          refine j_iload dX8_replaceTable_54 rfl ?_
          refine j_if_eq (tgt := 67) dX8_replaceTable_56 (by decide) (fun c_56 => ?_) (fun c_56 => ?_)
          · have hb56 := z_bF c_56
            have hbl : (sp_ctb S 2 r n).1 = false := hb56
            refine j_aload_n dX8_replaceTable_67 rfl rfl ?_
            refine j_callV (q := (RX8, TX8, 9)) dX8_replaceTable_68 kX8_refused lX8_119 inX8_refused seX8_refused rfl rfl (z_dirF (c_X8_refused_e hl _ _ _ _ _ _ _ _ _ _ _ _ _ _ _ _ _ _ _ _ _ _ _ _ _ _ _ _ _ _ _ _ _ _ _ _ _ _ _ _ _ _ _ _ _ _ _ _ _ _ _ _ _ _ _ _)) (Nat.le_of_ble_eq_true rfl) ⟨(Nat.le_of_ble_eq_true rfl), (Nat.le_of_ble_eq_true rfl)⟩ rfl (Nat.le_of_ble_eq_true rfl) rfl rfl (fun _ _ h => h.elim) ?_
            rintro _ _ ⟨_, ⟨rfl, rfl⟩, rfl⟩
            refine j_iret dX8_replaceTable_71 rfl rfl ?_ (Nat.le_of_ble_eq_true rfl) (Nat.le_of_ble_eq_true rfl)
            refine ⟨rfl, (by first | exact z_cwl | rfl), ?_⟩
            try rw [sp_i2]
            exact ⟨sp_k32_0 (Or.inr (Or.inr rfl)) (fun z => z.elim (fun z => z hu) hc35), (by rw [hbl]; rfl), (sp_CWe hra hrb ht0 ht1 ht9 he0 he1 hzm3 hzm4 hzm5 ((by unfold sp_ctbS; rw [hbl]; rfl)))⟩
          · have hb56 := z_bt c_56
            have hbl : (sp_ctb S 2 r n).1 = true := hb56
            refine j_aload dX8_replaceTable_59 rfl rfl ?_
            refine j_getf dX8_replaceTable_61 fX8_165 rfl rfl ?_
            refine j_goto (tgt := 71) dX8_replaceTable_64 (by decide) ?_
            refine j_iret dX8_replaceTable_71 rfl rfl ?_ (Nat.le_of_ble_eq_true rfl) (Nat.le_of_ble_eq_true rfl)
            refine ⟨rfl, (by first | exact z_cwl | rfl), ?_⟩
            try rw [sp_i2]
            exact ⟨sp_k32_0 (Or.inr (Or.inr rfl)) (fun z => z.elim (fun z => z hu) hc35), (by rw [hbl]; rfl), (sp_CWe hra hrb ht0 ht1 ht9 he0 he1 hzm3 hzm4 hzm5 ((by unfold sp_ctbS; rw [hbl]; rfl)))⟩
        · refine j_iload_n dX8_replaceTable_21 rfl ?_
          refine j_iconst (v := 5) dX8_replaceTable_22 (by decide) ?_
          refine j_icmp_ne (tgt := 30) dX8_replaceTable_23 (by decide) (fun c_23 => ?_) (fun c_23 => ?_)
          · have hnu : ¬ (r = 0 ∨ r = 1 ∨ r = 4 ∨ r = 5) := (fun z => z.elim c_8 (fun z => z.elim c_13 (fun z => z.elim c_18 c_23)))
            refine j_iconst (v := 0) dX8_replaceTable_30 (by decide) ?_
            refine j_callS dX8_replaceTable_31 kX8_checkRule lX8_112 stX8_checkRule (c_X8_checkRule_e hl _ _) (Nat.le_of_ble_eq_true rfl) ⟨(Nat.le_of_ble_eq_true rfl), (Nat.le_of_ble_eq_true rfl)⟩ rfl (Nat.le_of_ble_eq_true rfl) rfl rfl (fun _ _ h => by obtain ⟨h1, rfl⟩ := h; exact ⟨rfl, rfl, Or.inr ⟨h1.1, sp_k32_2 (Or.inr (Or.inr rfl)) (Or.inl hnu)⟩, rfl⟩) ?_
            rintro _ _ ⟨⟨rfl, hcr⟩, rfl⟩
            exact absurd rfl hcr
          · have hu : r = 0 ∨ r = 1 ∨ r = 4 ∨ r = 5 := Or.inr (Or.inr (Or.inr (c_23)))
            refine j_iconst (v := 1) dX8_replaceTable_26 (by decide) ?_
            refine j_goto (tgt := 31) dX8_replaceTable_27 (by decide) ?_
            refine j_callS dX8_replaceTable_31 kX8_checkRule lX8_112 stX8_checkRule (c_X8_checkRule_e hl _ _) (Nat.le_of_ble_eq_true rfl) ⟨(Nat.le_of_ble_eq_true rfl), (Nat.le_of_ble_eq_true rfl)⟩ rfl (Nat.le_of_ble_eq_true rfl) rfl rfl (fun _ _ h => by obtain ⟨h1, rfl⟩ := h; exact ⟨rfl, rfl, absurd h1.2 (by decide), rfl⟩) ?_
            rintro _ _ ⟨⟨rfl, hcr⟩, rfl⟩
            have hu2 : ¬ r = 2 := by rintro rfl; exact absurd hu (by decide)
            have hu3 : ¬ r = 3 := by rintro rfl; exact absurd hu (by decide)
            refine j_iload_n dX8_replaceTable_34 rfl ?_
            refine j_callS dX8_replaceTable_35 kX8_checkValue lX8_50 stX8_checkValue (c_X8_checkValue_e hl _ _) (Nat.le_of_ble_eq_true rfl) ⟨(Nat.le_of_ble_eq_true rfl), (Nat.le_of_ble_eq_true rfl)⟩ rfl (Nat.le_of_ble_eq_true rfl) rfl rfl (fun _ _ h => by obtain ⟨h1, rfl⟩ := h; exact ⟨rfl, rfl, Or.inr ⟨h1.1, sp_k32_2 (Or.inr (Or.inr rfl)) (Or.inr h1.2)⟩, rfl⟩) ?_
            rintro _ _ ⟨⟨rfl, hc35⟩, rfl⟩
            refine j_new (w' := (z_cw _ _ _ _ _ _ _ _ _ _ _ _ _ _ _ _ _ _ _ _ _ _ _ _ _ _ _ _ _ _ _ _ _ _ _ _ _ _ _ _ _ _ _ _ _ _ _ _ _ _ _ _ _ _ _ _ [.inr (10, [_, _, _, _, _])], z_no)) (n := 51) dX8_replaceTable_38 nX8_160 rfl (z_al_l rfl rfl) (Nat.le_of_ble_eq_true rfl) (Nat.le_of_ble_eq_true rfl) ?_
            refine j_dup dX8_replaceTable_41 rfl ?_
            refine j_aload dX8_replaceTable_42 rfl rfl ?_
            refine j_callI dX8_replaceTable_44 kX5_init rfl lX8_162 inX5_init rfl (z_frame [51, 21, 22, 23, 24, 25] rfl (by decide) (Nat.le_of_ble_eq_true rfl) (c_X5_init_e hl true _ _ _ _)) (Nat.le_of_ble_eq_true rfl) ⟨(Nat.le_of_ble_eq_true rfl), (Nat.le_of_ble_eq_true rfl)⟩ rfl (Nat.le_of_ble_eq_true rfl) rfl rfl (fun _ _ h => h.elim) ?_
            rintro _ _ ⟨_, _, ⟨rfl, rfl⟩, rfl, rfl⟩
            refine j_ws (L' := z_cw _ _ _ _ _ _ _ _ _ _ _ _ _ _ _ _ _ _ _ _ _ _ _ _ _ _ _ _ _ _ _ _ _ _ _ _ _ _ _ _ _ _ _ _ _ _ _ _ _ _ _ _ _ _ _ _ [.inr (10, [_, _, _, _, _])]) (by decide) rfl rfl ?_
            refine j_iload_n dX8_replaceTable_47 rfl ?_
            refine j_iload_n dX8_replaceTable_48 rfl ?_
            refine j_callS dX8_replaceTable_49 kX8_changeEach lX8_115 stX8_changeEach (z_frame [51, 21, 22, 23, 24, 25] rfl (by decide) (Nat.le_of_ble_eq_true rfl) (c_X8_changeEach_X5_c hl (z_bp (sp_C S 2) 0) _ _ true _ _ _ _ (sp_T S 2) _ _ ht2 rfl hu2 hu3 (sp_vl hc35))) (Nat.le_of_ble_eq_true rfl) ⟨(Nat.le_of_ble_eq_true rfl), (Nat.le_of_ble_eq_true rfl)⟩ rfl (Nat.le_of_ble_eq_true rfl) rfl rfl (fun _ _ h => h.elim) ?_
            rintro _ _ ⟨_, _, ⟨rfl, _, _, _, f9, ht9, rfl⟩, rfl, rfl⟩
            refine j_ws (L' := z_cw _ _ _ _ _ _ _ _ _ _ _ _ _ _ _ _ _ _ _ _ _ _ _ _ _ _ _ _ _ _ _ _ _ _ _ _ _ _ _ _ _ _ _ _ _ _ _ _ _ _ _ _ _ _ _ _ [.inr (10, [_, _, _, _, _])]) (by decide) rfl rfl ?_
            refine j_istore (lo' := [(5, _), (4, _), (0, _), (1, _), (2, _), (3, _)]) dX8_replaceTable_52 (by decide) rfl ?_
            refine j_dropL (n := 51) rfl (Nat.le_of_ble_eq_true rfl) (Nat.le_of_ble_eq_true rfl) (Nat.le_of_ble_eq_true rfl) z_cwc rfl rfl ?_
            refine j_w (z_cw _ _ _ _ _ _ _ _ _ _ _ _ _ _ _ _ _ _ _ _ _ _ _ _ _ _ _ _ _ _ _ _ _ _ _ _ _ _ _ _ _ _ _ _ _ _ _ _ _ _ _ _ _ _ _ _ [], z_no) rfl ?_
            refine j_iload dX8_replaceTable_54 rfl ?_
            refine j_if_eq (tgt := 67) dX8_replaceTable_56 (by decide) (fun c_56 => ?_) (fun c_56 => ?_)
            · have hb56 := z_bF c_56
              have hbl : (sp_ctb S 2 r n).1 = false := hb56
              refine j_aload_n dX8_replaceTable_67 rfl rfl ?_
              refine j_callV (q := (RX8, TX8, 9)) dX8_replaceTable_68 kX8_refused lX8_119 inX8_refused seX8_refused rfl rfl (z_dirF (c_X8_refused_e hl _ _ _ _ _ _ _ _ _ _ _ _ _ _ _ _ _ _ _ _ _ _ _ _ _ _ _ _ _ _ _ _ _ _ _ _ _ _ _ _ _ _ _ _ _ _ _ _ _ _ _ _ _ _ _ _)) (Nat.le_of_ble_eq_true rfl) ⟨(Nat.le_of_ble_eq_true rfl), (Nat.le_of_ble_eq_true rfl)⟩ rfl (Nat.le_of_ble_eq_true rfl) rfl rfl (fun _ _ h => h.elim) ?_
              rintro _ _ ⟨_, ⟨rfl, rfl⟩, rfl⟩
              refine j_iret dX8_replaceTable_71 rfl rfl ?_ (Nat.le_of_ble_eq_true rfl) (Nat.le_of_ble_eq_true rfl)
              refine ⟨rfl, (by first | exact z_cwl | rfl), ?_⟩
              try rw [sp_i2]
              exact ⟨sp_k32_0 (Or.inr (Or.inr rfl)) (fun z => z.elim (fun z => z hu) hc35), (by rw [hbl]; rfl), (sp_CWe hra hrb ht0 ht1 ht9 he0 he1 hzm3 hzm4 hzm5 ((by unfold sp_ctbS; rw [hbl]; rfl)))⟩
            · have hb56 := z_bt c_56
              have hbl : (sp_ctb S 2 r n).1 = true := hb56
              refine j_aload dX8_replaceTable_59 rfl rfl ?_
              refine j_getf dX8_replaceTable_61 fX8_165 rfl rfl ?_
              refine j_goto (tgt := 71) dX8_replaceTable_64 (by decide) ?_
              refine j_iret dX8_replaceTable_71 rfl rfl ?_ (Nat.le_of_ble_eq_true rfl) (Nat.le_of_ble_eq_true rfl)
              refine ⟨rfl, (by first | exact z_cwl | rfl), ?_⟩
              try rw [sp_i2]
              exact ⟨sp_k32_0 (Or.inr (Or.inr rfl)) (fun z => z.elim (fun z => z hu) hc35), (by rw [hbl]; rfl), (sp_CWe hra hrb ht0 ht1 ht9 he0 he1 hzm3 hzm4 hzm5 ((by unfold sp_ctbS; rw [hbl]; rfl)))⟩
set_option maxRecDepth 100000 in
set_option maxHeartbeats 8000000 in
theorem c_X8_clear_p (hl : l.stackTraces = false) (S : sp_S) (fa : Nat → Int32) (fb : Nat → Int32) (mt : Int32) (ft : Nat → Int32) (ct : Nat → Int32) (f0 : Nat → Int32) (g0 : Nat → Int32) (f1 : Nat → Int32) (g1 : Nat → Int32) (c1 : Nat → Int32) (f2 : Nat → Int32) (g2 : Nat → Int32) (c2 : Nat → Int32) (f3 : Nat → Int32) (g3 : Nat → Int32) (c3 : Nat → Int32) (m3 : Int32) (f4 : Nat → Int32) (g4 : Nat → Int32) (c4 : Nat → Int32) (m4 : Int32) (f5 : Nat → Int32) (g5 : Nat → Int32) (c5 : Nat → Int32) (m5 : Int32) (ef0 : Nat → Int32) (ef1 : Nat → Int32) (t : Int32) (ok : sp_ok S) (hra : z_row 12 (nI (sp_R S 0).length) fa (sp_R S 0)) (hrb : z_row 12 (nI (sp_R S 1).length) fb (sp_R S 1)) (ht0 : z_tba f0 g0 (sp_T S 0)) (ht1 : z_tba f1 g1 (sp_T S 1)) (ht2 : z_tba f2 g2 (sp_T S 2)) (he0 : z_row 10 (nI (sp_E S 0).2.length) ef0 (sp_E S 0).2) (he1 : z_row 10 (nI (sp_E S 1).2.length) ef1 (sp_E S 1).2) (hzm3 : z_m20 m3) (hzm4 : z_m20 m4) (hzm5 : z_m20 m5) : z_CX G l mX8_clear 20 14 120 (z_cw S.1.1 S.1.2 (nI (sp_R S 0).length) (sp_F S 0) fa (sp_C S 0) (nI (sp_R S 1).length) (sp_F S 1) fb (sp_C S 1) mt false ft ct f0 g0 (sp_C S 2) (nI (sp_T S 0).length) 0 f1 g1 c1 (nI (sp_T S 1).length) 0 f2 g2 c2 (nI (sp_T S 2).length) 1 f3 g3 c3 m3 0 f4 g4 c4 m4 0 f5 g5 c5 m5 1 (nI (sp_E S 0).2.length) (sp_E S 0).1.2.1 (sp_E S 0).1.2.2.1 (sp_E S 0).1.2.2.2 (sp_E S 0).1.1 ef0 (nI (sp_E S 1).2.length) (sp_E S 1).1.2.1 (sp_E S 1).1.2.2.1 (sp_E S 1).1.2.2.2 (sp_E S 1).1.1 ef1 []) [.ref 0, .int t] (fun v L => sp_k3 t = 0 ∧ v = some (.int (nI (sp_T S (sp_i t)).length)) ∧ sp_CW (sp_uT S (sp_i t) []) L) (fun E L => ((z_xI E ∧ sp_k3 t = 1)) ∧ L = (z_cw S.1.1 S.1.2 (nI (sp_R S 0).length) (sp_F S 0) fa (sp_C S 0) (nI (sp_R S 1).length) (sp_F S 1) fb (sp_C S 1) mt false ft ct f0 g0 (sp_C S 2) (nI (sp_T S 0).length) 0 f1 g1 c1 (nI (sp_T S 1).length) 0 f2 g2 c2 (nI (sp_T S 2).length) 1 f3 g3 c3 m3 0 f4 g4 c4 m4 0 f5 g5 c5 m5 1 (nI (sp_E S 0).2.length) (sp_E S 0).1.2.1 (sp_E S 0).1.2.2.1 (sp_E S 0).1.2.2.2 (sp_E S 0).1.1 ef0 (nI (sp_E S 1).2.length) (sp_E S 1).1.2.1 (sp_E S 1).1.2.2.1 (sp_E S 1).1.2.2.2 (sp_E S 1).1.1 ef1 [])) := by
  refine z_body hl (by decide) rfl (Nat.le_of_ble_eq_true rfl) ?_
  show z_J G l mX8_clear (z_SX 20 14 120 (z_cw S.1.1 S.1.2 (nI (sp_R S 0).length) (sp_F S 0) fa (sp_C S 0) (nI (sp_R S 1).length) (sp_F S 1) fb (sp_C S 1) mt false ft ct f0 g0 (sp_C S 2) (nI (sp_T S 0).length) 0 f1 g1 c1 (nI (sp_T S 1).length) 0 f2 g2 c2 (nI (sp_T S 2).length) 1 f3 g3 c3 m3 0 f4 g4 c4 m4 0 f5 g5 c5 m5 1 (nI (sp_E S 0).2.length) (sp_E S 0).1.2.1 (sp_E S 0).1.2.2.1 (sp_E S 0).1.2.2.2 (sp_E S 0).1.1 ef0 (nI (sp_E S 1).2.length) (sp_E S 1).1.2.1 (sp_E S 1).1.2.2.1 (sp_E S 1).1.2.2.2 (sp_E S 1).1.1 ef1 []) (fun v L => sp_k3 t = 0 ∧ v = some (.int (nI (sp_T S (sp_i t)).length)) ∧ sp_CW (sp_uT S (sp_i t) []) L) (fun E L => ((z_xI E ∧ sp_k3 t = 1)) ∧ L = (z_cw S.1.1 S.1.2 (nI (sp_R S 0).length) (sp_F S 0) fa (sp_C S 0) (nI (sp_R S 1).length) (sp_F S 1) fb (sp_C S 1) mt false ft ct f0 g0 (sp_C S 2) (nI (sp_T S 0).length) 0 f1 g1 c1 (nI (sp_T S 1).length) 0 f2 g2 c2 (nI (sp_T S 2).length) 1 f3 g3 c3 m3 0 f4 g4 c4 m4 0 f5 g5 c5 m5 1 (nI (sp_E S 0).2.length) (sp_E S 0).1.2.1 (sp_E S 0).1.2.2.1 (sp_E S 0).1.2.2.2 (sp_E S 0).1.1 ef0 (nI (sp_E S 1).2.length) (sp_E S 1).1.2.1 (sp_E S 1).1.2.2.1 (sp_E S 1).1.2.2.2 (sp_E S 1).1.1 ef1 []))) 0 [(0, _), (1, _)] [] _ 0 0
  refine j_aload_n dX8_clear_0 rfl rfl ?_
  refine j_iload_n dX8_clear_1 rfl ?_
  refine j_callV (q := (RX8, TX8, 9)) dX8_clear_2 kX8_tableFor lX8_157 inX8_tableFor seX8_tableFor rfl rfl (z_dirX (c_X8_tableFor_e hl _ _ _ _ _ _ _ _ _ _ _ _ _ _ _ _ _ _ _ _ _ _ _ _ _ _ _ _ _ _ _ _ _ _ _ _ _ _ _ _ _ _ _ _ _ _ _ _ _ _ _ _ _ _ _ _ _)) (Nat.le_of_ble_eq_true rfl) ⟨(Nat.le_of_ble_eq_true rfl), (Nat.le_of_ble_eq_true rfl)⟩ rfl (Nat.le_of_ble_eq_true rfl) rfl rfl (fun _ _ h => by obtain ⟨_, ⟨h1, rfl⟩, rfl⟩ := h; exact ⟨rfl, rfl, ⟨h1.1, sp_k3_1 h1.2⟩, rfl⟩) ?_
  rintro _ _ ⟨_, ⟨_, rfl, hr, rfl⟩, rfl⟩
  rcases hr with ⟨e_2, rfl⟩ | ⟨e_2, rfl⟩ | ⟨e_2, rfl⟩
  · subst e_2
    refine j_callV (q := (RX4, TX4, 5)) dX8_clear_5 kX4_makeEmpty lX8_166 inX4_makeEmpty seX4_makeEmpty rfl rfl (z_frame [10, 11, 12, 13, 14] rfl (by decide) (Nat.le_of_ble_eq_true rfl) (c_X4_makeEmpty_e hl false _ _ _ (sp_T S 0) ht0)) (Nat.le_of_ble_eq_true rfl) ⟨(Nat.le_of_ble_eq_true rfl), (Nat.le_of_ble_eq_true rfl)⟩ rfl (Nat.le_of_ble_eq_true rfl) rfl rfl (fun _ _ h => h.elim) ?_
    rintro _ _ ⟨_, _, ⟨rfl, f9, ht9, rfl⟩, rfl, rfl⟩
    refine j_ws (L' := z_cw _ _ _ _ _ _ _ _ _ _ _ _ _ _ _ _ _ _ _ _ _ _ _ _ _ _ _ _ _ _ _ _ _ _ _ _ _ _ _ _ _ _ _ _ _ _ _ _ _ _ _ _ _ _ _ _ []) (by decide) rfl rfl ?_
    refine j_iret dX8_clear_8 rfl rfl ?_ (Nat.le_of_ble_eq_true rfl) (Nat.le_of_ble_eq_true rfl)
    refine ⟨rfl, (by first | exact z_cwl | rfl), ?_⟩
    rw [sp_i0]
    exact ⟨sp_k3_0 (Or.inl rfl), rfl, (sp_CWe hra hrb ht9 ht1 ht2 he0 he1 hzm3 hzm4 hzm5 rfl)⟩
  · subst e_2
    refine j_callV (q := (RX4, TX4, 5)) dX8_clear_5 kX4_makeEmpty lX8_166 inX4_makeEmpty seX4_makeEmpty rfl rfl (z_frame [16, 17, 18, 19, 20] rfl (by decide) (Nat.le_of_ble_eq_true rfl) (c_X4_makeEmpty_e hl false _ _ _ (sp_T S 1) ht1)) (Nat.le_of_ble_eq_true rfl) ⟨(Nat.le_of_ble_eq_true rfl), (Nat.le_of_ble_eq_true rfl)⟩ rfl (Nat.le_of_ble_eq_true rfl) rfl rfl (fun _ _ h => h.elim) ?_
    rintro _ _ ⟨_, _, ⟨rfl, f9, ht9, rfl⟩, rfl, rfl⟩
    refine j_ws (L' := z_cw _ _ _ _ _ _ _ _ _ _ _ _ _ _ _ _ _ _ _ _ _ _ _ _ _ _ _ _ _ _ _ _ _ _ _ _ _ _ _ _ _ _ _ _ _ _ _ _ _ _ _ _ _ _ _ _ []) (by decide) rfl rfl ?_
    refine j_iret dX8_clear_8 rfl rfl ?_ (Nat.le_of_ble_eq_true rfl) (Nat.le_of_ble_eq_true rfl)
    refine ⟨rfl, (by first | exact z_cwl | rfl), ?_⟩
    rw [sp_i1]
    exact ⟨sp_k3_0 (Or.inr (Or.inl rfl)), rfl, (sp_CWe hra hrb ht0 ht9 ht2 he0 he1 hzm3 hzm4 hzm5 rfl)⟩
  · subst e_2
    refine j_callV (q := (RX4, TX4, 5)) dX8_clear_5 kX4_makeEmpty lX8_166 inX4_makeEmpty seX4_makeEmpty rfl rfl (z_frame [21, 22, 23, 24, 25] rfl (by decide) (Nat.le_of_ble_eq_true rfl) (c_X4_makeEmpty_e hl true _ _ _ (sp_T S 2) ht2)) (Nat.le_of_ble_eq_true rfl) ⟨(Nat.le_of_ble_eq_true rfl), (Nat.le_of_ble_eq_true rfl)⟩ rfl (Nat.le_of_ble_eq_true rfl) rfl rfl (fun _ _ h => h.elim) ?_
    rintro _ _ ⟨_, _, ⟨rfl, f9, ht9, rfl⟩, rfl, rfl⟩
    refine j_ws (L' := z_cw _ _ _ _ _ _ _ _ _ _ _ _ _ _ _ _ _ _ _ _ _ _ _ _ _ _ _ _ _ _ _ _ _ _ _ _ _ _ _ _ _ _ _ _ _ _ _ _ _ _ _ _ _ _ _ _ []) (by decide) rfl rfl ?_
    refine j_iret dX8_clear_8 rfl rfl ?_ (Nat.le_of_ble_eq_true rfl) (Nat.le_of_ble_eq_true rfl)
    refine ⟨rfl, (by first | exact z_cwl | rfl), ?_⟩
    rw [sp_i2]
    exact ⟨sp_k3_0 (Or.inr (Or.inr rfl)), rfl, (sp_CWe hra hrb ht0 ht1 ht9 he0 he1 hzm3 hzm4 hzm5 rfl)⟩
set_option maxRecDepth 100000 in
set_option maxHeartbeats 8000000 in
theorem c_X8_get_p (hl : l.stackTraces = false) (S : sp_S) (fa : Nat → Int32) (fb : Nat → Int32) (mt : Int32) (ft : Nat → Int32) (ct : Nat → Int32) (f0 : Nat → Int32) (g0 : Nat → Int32) (f1 : Nat → Int32) (g1 : Nat → Int32) (c1 : Nat → Int32) (f2 : Nat → Int32) (g2 : Nat → Int32) (c2 : Nat → Int32) (f3 : Nat → Int32) (g3 : Nat → Int32) (c3 : Nat → Int32) (m3 : Int32) (f4 : Nat → Int32) (g4 : Nat → Int32) (c4 : Nat → Int32) (m4 : Int32) (f5 : Nat → Int32) (g5 : Nat → Int32) (c5 : Nat → Int32) (m5 : Int32) (ef0 : Nat → Int32) (ef1 : Nat → Int32) (t : Int32) (k : Int32) (ok : sp_ok S) (hra : z_row 12 (nI (sp_R S 0).length) fa (sp_R S 0)) (hrb : z_row 12 (nI (sp_R S 1).length) fb (sp_R S 1)) (ht0 : z_tba f0 g0 (sp_T S 0)) (ht1 : z_tba f1 g1 (sp_T S 1)) (ht2 : z_tba f2 g2 (sp_T S 2)) (he0 : z_row 10 (nI (sp_E S 0).2.length) ef0 (sp_E S 0).2) (he1 : z_row 10 (nI (sp_E S 1).2.length) ef1 (sp_E S 1).2) (hzm3 : z_m20 m3) (hzm4 : z_m20 m4) (hzm5 : z_m20 m5) : z_CX G l mX8_get 20 14 120 (z_cw S.1.1 S.1.2 (nI (sp_R S 0).length) (sp_F S 0) fa (sp_C S 0) (nI (sp_R S 1).length) (sp_F S 1) fb (sp_C S 1) mt false ft ct f0 g0 (sp_C S 2) (nI (sp_T S 0).length) 0 f1 g1 c1 (nI (sp_T S 1).length) 0 f2 g2 c2 (nI (sp_T S 2).length) 1 f3 g3 c3 m3 0 f4 g4 c4 m4 0 f5 g5 c5 m5 1 (nI (sp_E S 0).2.length) (sp_E S 0).1.2.1 (sp_E S 0).1.2.2.1 (sp_E S 0).1.2.2.2 (sp_E S 0).1.1 ef0 (nI (sp_E S 1).2.length) (sp_E S 1).1.2.1 (sp_E S 1).1.2.2.1 (sp_E S 1).1.2.2.2 (sp_E S 1).1.1 ef1 []) [.ref 0, .int t, .int k] (fun v L => sp_k32 t (sp_bk k) = 0 ∧ v = some (.int (sp_lk (sp_T S (sp_i t)) (sp_i k))) ∧ sp_CW (S) L) (fun E L => ((z_xI E ∧ sp_k32 t (sp_bk k) = 1) ∨ (z_xA E ∧ sp_k32 t (sp_bk k) = 2)) ∧ L = (z_cw S.1.1 S.1.2 (nI (sp_R S 0).length) (sp_F S 0) fa (sp_C S 0) (nI (sp_R S 1).length) (sp_F S 1) fb (sp_C S 1) mt false ft ct f0 g0 (sp_C S 2) (nI (sp_T S 0).length) 0 f1 g1 c1 (nI (sp_T S 1).length) 0 f2 g2 c2 (nI (sp_T S 2).length) 1 f3 g3 c3 m3 0 f4 g4 c4 m4 0 f5 g5 c5 m5 1 (nI (sp_E S 0).2.length) (sp_E S 0).1.2.1 (sp_E S 0).1.2.2.1 (sp_E S 0).1.2.2.2 (sp_E S 0).1.1 ef0 (nI (sp_E S 1).2.length) (sp_E S 1).1.2.1 (sp_E S 1).1.2.2.1 (sp_E S 1).1.2.2.2 (sp_E S 1).1.1 ef1 [])) := by
  refine z_body hl (by decide) rfl (Nat.le_of_ble_eq_true rfl) ?_
  show z_J G l mX8_get (z_SX 20 14 120 (z_cw S.1.1 S.1.2 (nI (sp_R S 0).length) (sp_F S 0) fa (sp_C S 0) (nI (sp_R S 1).length) (sp_F S 1) fb (sp_C S 1) mt false ft ct f0 g0 (sp_C S 2) (nI (sp_T S 0).length) 0 f1 g1 c1 (nI (sp_T S 1).length) 0 f2 g2 c2 (nI (sp_T S 2).length) 1 f3 g3 c3 m3 0 f4 g4 c4 m4 0 f5 g5 c5 m5 1 (nI (sp_E S 0).2.length) (sp_E S 0).1.2.1 (sp_E S 0).1.2.2.1 (sp_E S 0).1.2.2.2 (sp_E S 0).1.1 ef0 (nI (sp_E S 1).2.length) (sp_E S 1).1.2.1 (sp_E S 1).1.2.2.1 (sp_E S 1).1.2.2.2 (sp_E S 1).1.1 ef1 []) (fun v L => sp_k32 t (sp_bk k) = 0 ∧ v = some (.int (sp_lk (sp_T S (sp_i t)) (sp_i k))) ∧ sp_CW (S) L) (fun E L => ((z_xI E ∧ sp_k32 t (sp_bk k) = 1) ∨ (z_xA E ∧ sp_k32 t (sp_bk k) = 2)) ∧ L = (z_cw S.1.1 S.1.2 (nI (sp_R S 0).length) (sp_F S 0) fa (sp_C S 0) (nI (sp_R S 1).length) (sp_F S 1) fb (sp_C S 1) mt false ft ct f0 g0 (sp_C S 2) (nI (sp_T S 0).length) 0 f1 g1 c1 (nI (sp_T S 1).length) 0 f2 g2 c2 (nI (sp_T S 2).length) 1 f3 g3 c3 m3 0 f4 g4 c4 m4 0 f5 g5 c5 m5 1 (nI (sp_E S 0).2.length) (sp_E S 0).1.2.1 (sp_E S 0).1.2.2.1 (sp_E S 0).1.2.2.2 (sp_E S 0).1.1 ef0 (nI (sp_E S 1).2.length) (sp_E S 1).1.2.1 (sp_E S 1).1.2.2.1 (sp_E S 1).1.2.2.2 (sp_E S 1).1.1 ef1 []))) 0 [(0, _), (1, _), (2, _)] [] _ 0 0
  refine j_aload_n dX8_get_0 rfl rfl ?_
  refine j_iload_n dX8_get_1 rfl ?_
  refine j_iload_n dX8_get_2 rfl ?_
  refine j_callV (q := (RX8, TX8, 9)) dX8_get_3 kX8_tableFor_ lX8_126 inX8_tableFor_ seX8_tableFor_ rfl rfl (z_dirX (c_X8_tableFor__e hl _ _ _ _ _ _ _ _ _ _ _ _ _ _ _ _ _ _ _ _ _ _ _ _ _ _ _ _ _ _ _ _ _ _ _ _ _ _ _ _ _ _ _ _ _ _ _ _ _ _ _ _ _ _ _ _ _ _)) (Nat.le_of_ble_eq_true rfl) ⟨(Nat.le_of_ble_eq_true rfl), (Nat.le_of_ble_eq_true rfl)⟩ rfl (Nat.le_of_ble_eq_true rfl) rfl rfl (fun _ _ h => by obtain ⟨_, ⟨h1, rfl⟩, rfl⟩ := h; exact ⟨rfl, rfl, h1.elim (fun z => Or.inl ⟨z.1, sp_k32_1 z.2⟩) (fun z => Or.inr ⟨z.1, sp_k32_2 z.2.1 (z.2.2)⟩), rfl⟩) ?_
  rintro _ _ ⟨_, ⟨_, rfl, hr, hk3, rfl⟩, rfl⟩
  have hk0 := hk3
  obtain ⟨q, hq, rfl⟩ := sp_nt (m := 19) rfl (by decide) hk0
  rcases hr with ⟨e_3, rfl⟩ | ⟨e_3, rfl⟩ | ⟨e_3, rfl⟩
  · subst e_3
    refine j_iload_n dX8_get_6 rfl ?_
    refine j_callV (q := (RX4, TX4, 5)) dX8_get_7 kX4_look lX8_137 inX4_look seX4_look rfl rfl (z_frame [10, 11, 12, 13, 14] rfl (by decide) (Nat.le_of_ble_eq_true rfl) (c_X4_look_e hl false _ _ _ _ (sp_T S 0) q ht0 (by omega))) (Nat.le_of_ble_eq_true rfl) ⟨(Nat.le_of_ble_eq_true rfl), (Nat.le_of_ble_eq_true rfl)⟩ rfl (Nat.le_of_ble_eq_true rfl) rfl rfl (fun _ _ h => h.elim) ?_
    rintro _ _ ⟨_, _, ⟨rfl, rfl⟩, rfl, rfl⟩
    refine j_ws (L' := z_cw _ _ _ _ _ _ _ _ _ _ _ _ _ _ _ _ _ _ _ _ _ _ _ _ _ _ _ _ _ _ _ _ _ _ _ _ _ _ _ _ _ _ _ _ _ _ _ _ _ _ _ _ _ _ _ _ []) (by decide) rfl rfl ?_
    refine j_iret dX8_get_10 rfl rfl ?_ (Nat.le_of_ble_eq_true rfl) (Nat.le_of_ble_eq_true rfl)
    refine ⟨rfl, (by first | exact z_cwl | rfl), ?_⟩
    rw [sp_i0, sp_in' (n := q) (by omega)]
    exact ⟨sp_k32_0 (Or.inl rfl) hk0, rfl, (sp_CWe hra hrb ht0 ht1 ht2 he0 he1 hzm3 hzm4 hzm5 rfl)⟩
  · subst e_3
    refine j_iload_n dX8_get_6 rfl ?_
    refine j_callV (q := (RX4, TX4, 5)) dX8_get_7 kX4_look lX8_137 inX4_look seX4_look rfl rfl (z_frame [16, 17, 18, 19, 20] rfl (by decide) (Nat.le_of_ble_eq_true rfl) (c_X4_look_e hl false _ _ _ _ (sp_T S 1) q ht1 (by omega))) (Nat.le_of_ble_eq_true rfl) ⟨(Nat.le_of_ble_eq_true rfl), (Nat.le_of_ble_eq_true rfl)⟩ rfl (Nat.le_of_ble_eq_true rfl) rfl rfl (fun _ _ h => h.elim) ?_
    rintro _ _ ⟨_, _, ⟨rfl, rfl⟩, rfl, rfl⟩
    refine j_ws (L' := z_cw _ _ _ _ _ _ _ _ _ _ _ _ _ _ _ _ _ _ _ _ _ _ _ _ _ _ _ _ _ _ _ _ _ _ _ _ _ _ _ _ _ _ _ _ _ _ _ _ _ _ _ _ _ _ _ _ []) (by decide) rfl rfl ?_
    refine j_iret dX8_get_10 rfl rfl ?_ (Nat.le_of_ble_eq_true rfl) (Nat.le_of_ble_eq_true rfl)
    refine ⟨rfl, (by first | exact z_cwl | rfl), ?_⟩
    rw [sp_i1, sp_in' (n := q) (by omega)]
    exact ⟨sp_k32_0 (Or.inr (Or.inl rfl)) hk0, rfl, (sp_CWe hra hrb ht0 ht1 ht2 he0 he1 hzm3 hzm4 hzm5 rfl)⟩
  · subst e_3
    refine j_iload_n dX8_get_6 rfl ?_
    refine j_callV (q := (RX4, TX4, 5)) dX8_get_7 kX4_look lX8_137 inX4_look seX4_look rfl rfl (z_frame [21, 22, 23, 24, 25] rfl (by decide) (Nat.le_of_ble_eq_true rfl) (c_X4_look_e hl true _ _ _ _ (sp_T S 2) q ht2 (by omega))) (Nat.le_of_ble_eq_true rfl) ⟨(Nat.le_of_ble_eq_true rfl), (Nat.le_of_ble_eq_true rfl)⟩ rfl (Nat.le_of_ble_eq_true rfl) rfl rfl (fun _ _ h => h.elim) ?_
    rintro _ _ ⟨_, _, ⟨rfl, rfl⟩, rfl, rfl⟩
    refine j_ws (L' := z_cw _ _ _ _ _ _ _ _ _ _ _ _ _ _ _ _ _ _ _ _ _ _ _ _ _ _ _ _ _ _ _ _ _ _ _ _ _ _ _ _ _ _ _ _ _ _ _ _ _ _ _ _ _ _ _ _ []) (by decide) rfl rfl ?_
    refine j_iret dX8_get_10 rfl rfl ?_ (Nat.le_of_ble_eq_true rfl) (Nat.le_of_ble_eq_true rfl)
    refine ⟨rfl, (by first | exact z_cwl | rfl), ?_⟩
    rw [sp_i2, sp_in' (n := q) (by omega)]
    exact ⟨sp_k32_0 (Or.inr (Or.inr rfl)) hk0, rfl, (sp_CWe hra hrb ht0 ht1 ht2 he0 he1 hzm3 hzm4 hzm5 rfl)⟩
set_option maxRecDepth 100000 in
set_option maxHeartbeats 8000000 in
theorem c_X8_getOr_p (hl : l.stackTraces = false) (S : sp_S) (fa : Nat → Int32) (fb : Nat → Int32) (mt : Int32) (ft : Nat → Int32) (ct : Nat → Int32) (f0 : Nat → Int32) (g0 : Nat → Int32) (f1 : Nat → Int32) (g1 : Nat → Int32) (c1 : Nat → Int32) (f2 : Nat → Int32) (g2 : Nat → Int32) (c2 : Nat → Int32) (f3 : Nat → Int32) (g3 : Nat → Int32) (c3 : Nat → Int32) (m3 : Int32) (f4 : Nat → Int32) (g4 : Nat → Int32) (c4 : Nat → Int32) (m4 : Int32) (f5 : Nat → Int32) (g5 : Nat → Int32) (c5 : Nat → Int32) (m5 : Int32) (ef0 : Nat → Int32) (ef1 : Nat → Int32) (t : Int32) (k : Int32) (y : Int32) (ok : sp_ok S) (hra : z_row 12 (nI (sp_R S 0).length) fa (sp_R S 0)) (hrb : z_row 12 (nI (sp_R S 1).length) fb (sp_R S 1)) (ht0 : z_tba f0 g0 (sp_T S 0)) (ht1 : z_tba f1 g1 (sp_T S 1)) (ht2 : z_tba f2 g2 (sp_T S 2)) (he0 : z_row 10 (nI (sp_E S 0).2.length) ef0 (sp_E S 0).2) (he1 : z_row 10 (nI (sp_E S 1).2.length) ef1 (sp_E S 1).2) (hzm3 : z_m20 m3) (hzm4 : z_m20 m4) (hzm5 : z_m20 m5) : z_CX G l mX8_getOr 20 14 120 (z_cw S.1.1 S.1.2 (nI (sp_R S 0).length) (sp_F S 0) fa (sp_C S 0) (nI (sp_R S 1).length) (sp_F S 1) fb (sp_C S 1) mt false ft ct f0 g0 (sp_C S 2) (nI (sp_T S 0).length) 0 f1 g1 c1 (nI (sp_T S 1).length) 0 f2 g2 c2 (nI (sp_T S 2).length) 1 f3 g3 c3 m3 0 f4 g4 c4 m4 0 f5 g5 c5 m5 1 (nI (sp_E S 0).2.length) (sp_E S 0).1.2.1 (sp_E S 0).1.2.2.1 (sp_E S 0).1.2.2.2 (sp_E S 0).1.1 ef0 (nI (sp_E S 1).2.length) (sp_E S 1).1.2.1 (sp_E S 1).1.2.2.1 (sp_E S 1).1.2.2.2 (sp_E S 1).1.1 ef1 []) [.ref 0, .int t, .int k, .int y] (fun v L => sp_k32 t (sp_bk k ∨ sp_bv y) = 0 ∧ v = some (.int ((if sp_lk (sp_T S (sp_i t)) (sp_i k) = -1000 then y else sp_lk (sp_T S (sp_i t)) (sp_i k)))) ∧ sp_CW (S) L) (fun E L => ((z_xI E ∧ sp_k32 t (sp_bk k ∨ sp_bv y) = 1) ∨ (z_xA E ∧ sp_k32 t (sp_bk k ∨ sp_bv y) = 2)) ∧ L = (z_cw S.1.1 S.1.2 (nI (sp_R S 0).length) (sp_F S 0) fa (sp_C S 0) (nI (sp_R S 1).length) (sp_F S 1) fb (sp_C S 1) mt false ft ct f0 g0 (sp_C S 2) (nI (sp_T S 0).length) 0 f1 g1 c1 (nI (sp_T S 1).length) 0 f2 g2 c2 (nI (sp_T S 2).length) 1 f3 g3 c3 m3 0 f4 g4 c4 m4 0 f5 g5 c5 m5 1 (nI (sp_E S 0).2.length) (sp_E S 0).1.2.1 (sp_E S 0).1.2.2.1 (sp_E S 0).1.2.2.2 (sp_E S 0).1.1 ef0 (nI (sp_E S 1).2.length) (sp_E S 1).1.2.1 (sp_E S 1).1.2.2.1 (sp_E S 1).1.2.2.2 (sp_E S 1).1.1 ef1 [])) := by
  refine z_body hl (by decide) rfl (Nat.le_of_ble_eq_true rfl) ?_
  show z_J G l mX8_getOr (z_SX 20 14 120 (z_cw S.1.1 S.1.2 (nI (sp_R S 0).length) (sp_F S 0) fa (sp_C S 0) (nI (sp_R S 1).length) (sp_F S 1) fb (sp_C S 1) mt false ft ct f0 g0 (sp_C S 2) (nI (sp_T S 0).length) 0 f1 g1 c1 (nI (sp_T S 1).length) 0 f2 g2 c2 (nI (sp_T S 2).length) 1 f3 g3 c3 m3 0 f4 g4 c4 m4 0 f5 g5 c5 m5 1 (nI (sp_E S 0).2.length) (sp_E S 0).1.2.1 (sp_E S 0).1.2.2.1 (sp_E S 0).1.2.2.2 (sp_E S 0).1.1 ef0 (nI (sp_E S 1).2.length) (sp_E S 1).1.2.1 (sp_E S 1).1.2.2.1 (sp_E S 1).1.2.2.2 (sp_E S 1).1.1 ef1 []) (fun v L => sp_k32 t (sp_bk k ∨ sp_bv y) = 0 ∧ v = some (.int ((if sp_lk (sp_T S (sp_i t)) (sp_i k) = -1000 then y else sp_lk (sp_T S (sp_i t)) (sp_i k)))) ∧ sp_CW (S) L) (fun E L => ((z_xI E ∧ sp_k32 t (sp_bk k ∨ sp_bv y) = 1) ∨ (z_xA E ∧ sp_k32 t (sp_bk k ∨ sp_bv y) = 2)) ∧ L = (z_cw S.1.1 S.1.2 (nI (sp_R S 0).length) (sp_F S 0) fa (sp_C S 0) (nI (sp_R S 1).length) (sp_F S 1) fb (sp_C S 1) mt false ft ct f0 g0 (sp_C S 2) (nI (sp_T S 0).length) 0 f1 g1 c1 (nI (sp_T S 1).length) 0 f2 g2 c2 (nI (sp_T S 2).length) 1 f3 g3 c3 m3 0 f4 g4 c4 m4 0 f5 g5 c5 m5 1 (nI (sp_E S 0).2.length) (sp_E S 0).1.2.1 (sp_E S 0).1.2.2.1 (sp_E S 0).1.2.2.2 (sp_E S 0).1.1 ef0 (nI (sp_E S 1).2.length) (sp_E S 1).1.2.1 (sp_E S 1).1.2.2.1 (sp_E S 1).1.2.2.2 (sp_E S 1).1.1 ef1 []))) 0 [(0, _), (1, _), (2, _), (3, _)] [] _ 0 0
  refine j_aload_n dX8_getOr_0 rfl rfl ?_
  refine j_iload_n dX8_getOr_1 rfl ?_
  refine j_iload_n dX8_getOr_2 rfl ?_
  refine j_callV (q := (RX8, TX8, 9)) dX8_getOr_3 kX8_tableFor_ lX8_126 inX8_tableFor_ seX8_tableFor_ rfl rfl (z_dirX (c_X8_tableFor__e hl _ _ _ _ _ _ _ _ _ _ _ _ _ _ _ _ _ _ _ _ _ _ _ _ _ _ _ _ _ _ _ _ _ _ _ _ _ _ _ _ _ _ _ _ _ _ _ _ _ _ _ _ _ _ _ _ _ _)) (Nat.le_of_ble_eq_true rfl) ⟨(Nat.le_of_ble_eq_true rfl), (Nat.le_of_ble_eq_true rfl)⟩ rfl (Nat.le_of_ble_eq_true rfl) rfl rfl (fun _ _ h => by obtain ⟨_, ⟨h1, rfl⟩, rfl⟩ := h; exact ⟨rfl, rfl, h1.elim (fun z => Or.inl ⟨z.1, sp_k32_1 z.2⟩) (fun z => Or.inr ⟨z.1, sp_k32_2 z.2.1 (Or.inl (z.2.2))⟩), rfl⟩) ?_
  rintro _ _ ⟨_, ⟨_, rfl, hr, hk3, rfl⟩, rfl⟩
  have hk0 := hk3
  obtain ⟨q, hq, rfl⟩ := sp_nt (m := 19) rfl (by decide) hk0
  rcases hr with ⟨e_3, rfl⟩ | ⟨e_3, rfl⟩ | ⟨e_3, rfl⟩
  · subst e_3
    refine j_astore (lo' := [(4, _), (0, _), (1, _), (2, _), (3, _)]) dX8_getOr_6 rfl (by decide) rfl ?_
    refine j_iload_n dX8_getOr_8 rfl ?_
    refine j_callS dX8_getOr_9 kX8_checkValue lX8_50 stX8_checkValue (c_X8_checkValue_e hl _ _) (Nat.le_of_ble_eq_true rfl) ⟨(Nat.le_of_ble_eq_true rfl), (Nat.le_of_ble_eq_true rfl)⟩ rfl (Nat.le_of_ble_eq_true rfl) rfl rfl (fun _ _ h => by obtain ⟨h1, rfl⟩ := h; exact ⟨rfl, rfl, Or.inr ⟨h1.1, sp_k32_2 (Or.inl rfl) (Or.inr h1.2)⟩, rfl⟩) ?_
    rintro _ _ ⟨⟨rfl, hc9⟩, rfl⟩
    refine j_aload dX8_getOr_12 rfl rfl ?_
    refine j_iload_n dX8_getOr_14 rfl ?_
    refine j_callV (q := (RX4, TX4, 5)) dX8_getOr_15 kX4_look lX8_137 inX4_look seX4_look rfl rfl (z_frame [10, 11, 12, 13, 14] rfl (by decide) (Nat.le_of_ble_eq_true rfl) (c_X4_look_e hl false _ _ _ _ (sp_T S 0) q ht0 (by omega))) (Nat.le_of_ble_eq_true rfl) ⟨(Nat.le_of_ble_eq_true rfl), (Nat.le_of_ble_eq_true rfl)⟩ rfl (Nat.le_of_ble_eq_true rfl) rfl rfl (fun _ _ h => h.elim) ?_
    rintro _ _ ⟨_, _, ⟨rfl, rfl⟩, rfl, rfl⟩
    refine j_ws (L' := z_cw _ _ _ _ _ _ _ _ _ _ _ _ _ _ _ _ _ _ _ _ _ _ _ _ _ _ _ _ _ _ _ _ _ _ _ _ _ _ _ _ _ _ _ _ _ _ _ _ _ _ _ _ _ _ _ _ []) (by decide) rfl rfl ?_
    refine j_istore (lo' := [(5, _), (4, _), (0, _), (1, _), (2, _), (3, _)]) dX8_getOr_18 (by decide) rfl ?_
    refine j_iload dX8_getOr_20 rfl ?_
    refine j_sipush (v := (-1000)) dX8_getOr_22 (by decide) ?_
    refine j_icmp_ne (tgt := 32) dX8_getOr_25 (by decide) (fun c_25 => ?_) (fun c_25 => ?_)
    · refine j_iload dX8_getOr_32 rfl ?_
      refine j_iret dX8_getOr_34 rfl rfl ?_ (Nat.le_of_ble_eq_true rfl) (Nat.le_of_ble_eq_true rfl)
      refine ⟨rfl, (by first | exact z_cwl | rfl), ?_⟩
      rw [sp_i0, sp_in' (n := q) (by omega)]
      exact ⟨sp_k32_0 (Or.inl rfl) (fun z => z.elim hk0 hc9), (by first | rw [if_neg c_25] | rw [if_pos c_25]), (sp_CWe hra hrb ht0 ht1 ht2 he0 he1 hzm3 hzm4 hzm5 rfl)⟩
    · refine j_iload_n dX8_getOr_28 rfl ?_
      refine j_goto (tgt := 34) dX8_getOr_29 (by decide) ?_
      refine j_iret dX8_getOr_34 rfl rfl ?_ (Nat.le_of_ble_eq_true rfl) (Nat.le_of_ble_eq_true rfl)
      refine ⟨rfl, (by first | exact z_cwl | rfl), ?_⟩
      rw [sp_i0, sp_in' (n := q) (by omega)]
      exact ⟨sp_k32_0 (Or.inl rfl) (fun z => z.elim hk0 hc9), (by first | rw [if_neg c_25] | rw [if_pos c_25]), (sp_CWe hra hrb ht0 ht1 ht2 he0 he1 hzm3 hzm4 hzm5 rfl)⟩
  · subst e_3
    refine j_astore (lo' := [(4, _), (0, _), (1, _), (2, _), (3, _)]) dX8_getOr_6 rfl (by decide) rfl ?_
    refine j_iload_n dX8_getOr_8 rfl ?_
    refine j_callS dX8_getOr_9 kX8_checkValue lX8_50 stX8_checkValue (c_X8_checkValue_e hl _ _) (Nat.le_of_ble_eq_true rfl) ⟨(Nat.le_of_ble_eq_true rfl), (Nat.le_of_ble_eq_true rfl)⟩ rfl (Nat.le_of_ble_eq_true rfl) rfl rfl (fun _ _ h => by obtain ⟨h1, rfl⟩ := h; exact ⟨rfl, rfl, Or.inr ⟨h1.1, sp_k32_2 (Or.inr (Or.inl rfl)) (Or.inr h1.2)⟩, rfl⟩) ?_
    rintro _ _ ⟨⟨rfl, hc9⟩, rfl⟩
    refine j_aload dX8_getOr_12 rfl rfl ?_
    refine j_iload_n dX8_getOr_14 rfl ?_
    refine j_callV (q := (RX4, TX4, 5)) dX8_getOr_15 kX4_look lX8_137 inX4_look seX4_look rfl rfl (z_frame [16, 17, 18, 19, 20] rfl (by decide) (Nat.le_of_ble_eq_true rfl) (c_X4_look_e hl false _ _ _ _ (sp_T S 1) q ht1 (by omega))) (Nat.le_of_ble_eq_true rfl) ⟨(Nat.le_of_ble_eq_true rfl), (Nat.le_of_ble_eq_true rfl)⟩ rfl (Nat.le_of_ble_eq_true rfl) rfl rfl (fun _ _ h => h.elim) ?_
    rintro _ _ ⟨_, _, ⟨rfl, rfl⟩, rfl, rfl⟩
    refine j_ws (L' := z_cw _ _ _ _ _ _ _ _ _ _ _ _ _ _ _ _ _ _ _ _ _ _ _ _ _ _ _ _ _ _ _ _ _ _ _ _ _ _ _ _ _ _ _ _ _ _ _ _ _ _ _ _ _ _ _ _ []) (by decide) rfl rfl ?_
    refine j_istore (lo' := [(5, _), (4, _), (0, _), (1, _), (2, _), (3, _)]) dX8_getOr_18 (by decide) rfl ?_
    refine j_iload dX8_getOr_20 rfl ?_
    refine j_sipush (v := (-1000)) dX8_getOr_22 (by decide) ?_
    refine j_icmp_ne (tgt := 32) dX8_getOr_25 (by decide) (fun c_25 => ?_) (fun c_25 => ?_)
    · refine j_iload dX8_getOr_32 rfl ?_
      refine j_iret dX8_getOr_34 rfl rfl ?_ (Nat.le_of_ble_eq_true rfl) (Nat.le_of_ble_eq_true rfl)
      refine ⟨rfl, (by first | exact z_cwl | rfl), ?_⟩
      rw [sp_i1, sp_in' (n := q) (by omega)]
      exact ⟨sp_k32_0 (Or.inr (Or.inl rfl)) (fun z => z.elim hk0 hc9), (by first | rw [if_neg c_25] | rw [if_pos c_25]), (sp_CWe hra hrb ht0 ht1 ht2 he0 he1 hzm3 hzm4 hzm5 rfl)⟩
    · refine j_iload_n dX8_getOr_28 rfl ?_
      refine j_goto (tgt := 34) dX8_getOr_29 (by decide) ?_
      refine j_iret dX8_getOr_34 rfl rfl ?_ (Nat.le_of_ble_eq_true rfl) (Nat.le_of_ble_eq_true rfl)
      refine ⟨rfl, (by first | exact z_cwl | rfl), ?_⟩
      rw [sp_i1, sp_in' (n := q) (by omega)]
      exact ⟨sp_k32_0 (Or.inr (Or.inl rfl)) (fun z => z.elim hk0 hc9), (by first | rw [if_neg c_25] | rw [if_pos c_25]), (sp_CWe hra hrb ht0 ht1 ht2 he0 he1 hzm3 hzm4 hzm5 rfl)⟩
  · subst e_3
    refine j_astore (lo' := [(4, _), (0, _), (1, _), (2, _), (3, _)]) dX8_getOr_6 rfl (by decide) rfl ?_
    refine j_iload_n dX8_getOr_8 rfl ?_
    refine j_callS dX8_getOr_9 kX8_checkValue lX8_50 stX8_checkValue (c_X8_checkValue_e hl _ _) (Nat.le_of_ble_eq_true rfl) ⟨(Nat.le_of_ble_eq_true rfl), (Nat.le_of_ble_eq_true rfl)⟩ rfl (Nat.le_of_ble_eq_true rfl) rfl rfl (fun _ _ h => by obtain ⟨h1, rfl⟩ := h; exact ⟨rfl, rfl, Or.inr ⟨h1.1, sp_k32_2 (Or.inr (Or.inr rfl)) (Or.inr h1.2)⟩, rfl⟩) ?_
    rintro _ _ ⟨⟨rfl, hc9⟩, rfl⟩
    refine j_aload dX8_getOr_12 rfl rfl ?_
    refine j_iload_n dX8_getOr_14 rfl ?_
    refine j_callV (q := (RX4, TX4, 5)) dX8_getOr_15 kX4_look lX8_137 inX4_look seX4_look rfl rfl (z_frame [21, 22, 23, 24, 25] rfl (by decide) (Nat.le_of_ble_eq_true rfl) (c_X4_look_e hl true _ _ _ _ (sp_T S 2) q ht2 (by omega))) (Nat.le_of_ble_eq_true rfl) ⟨(Nat.le_of_ble_eq_true rfl), (Nat.le_of_ble_eq_true rfl)⟩ rfl (Nat.le_of_ble_eq_true rfl) rfl rfl (fun _ _ h => h.elim) ?_
    rintro _ _ ⟨_, _, ⟨rfl, rfl⟩, rfl, rfl⟩
    refine j_ws (L' := z_cw _ _ _ _ _ _ _ _ _ _ _ _ _ _ _ _ _ _ _ _ _ _ _ _ _ _ _ _ _ _ _ _ _ _ _ _ _ _ _ _ _ _ _ _ _ _ _ _ _ _ _ _ _ _ _ _ []) (by decide) rfl rfl ?_
    refine j_istore (lo' := [(5, _), (4, _), (0, _), (1, _), (2, _), (3, _)]) dX8_getOr_18 (by decide) rfl ?_
    refine j_iload dX8_getOr_20 rfl ?_
    refine j_sipush (v := (-1000)) dX8_getOr_22 (by decide) ?_
    refine j_icmp_ne (tgt := 32) dX8_getOr_25 (by decide) (fun c_25 => ?_) (fun c_25 => ?_)
    · refine j_iload dX8_getOr_32 rfl ?_
      refine j_iret dX8_getOr_34 rfl rfl ?_ (Nat.le_of_ble_eq_true rfl) (Nat.le_of_ble_eq_true rfl)
      refine ⟨rfl, (by first | exact z_cwl | rfl), ?_⟩
      rw [sp_i2, sp_in' (n := q) (by omega)]
      exact ⟨sp_k32_0 (Or.inr (Or.inr rfl)) (fun z => z.elim hk0 hc9), (by first | rw [if_neg c_25] | rw [if_pos c_25]), (sp_CWe hra hrb ht0 ht1 ht2 he0 he1 hzm3 hzm4 hzm5 rfl)⟩
    · refine j_iload_n dX8_getOr_28 rfl ?_
      refine j_goto (tgt := 34) dX8_getOr_29 (by decide) ?_
      refine j_iret dX8_getOr_34 rfl rfl ?_ (Nat.le_of_ble_eq_true rfl) (Nat.le_of_ble_eq_true rfl)
      refine ⟨rfl, (by first | exact z_cwl | rfl), ?_⟩
      rw [sp_i2, sp_in' (n := q) (by omega)]
      exact ⟨sp_k32_0 (Or.inr (Or.inr rfl)) (fun z => z.elim hk0 hc9), (by first | rw [if_neg c_25] | rw [if_pos c_25]), (sp_CWe hra hrb ht0 ht1 ht2 he0 he1 hzm3 hzm4 hzm5 rfl)⟩
set_option maxRecDepth 100000 in
set_option maxHeartbeats 8000000 in
theorem c_X8_has_p (hl : l.stackTraces = false) (S : sp_S) (fa : Nat → Int32) (fb : Nat → Int32) (mt : Int32) (ft : Nat → Int32) (ct : Nat → Int32) (f0 : Nat → Int32) (g0 : Nat → Int32) (f1 : Nat → Int32) (g1 : Nat → Int32) (c1 : Nat → Int32) (f2 : Nat → Int32) (g2 : Nat → Int32) (c2 : Nat → Int32) (f3 : Nat → Int32) (g3 : Nat → Int32) (c3 : Nat → Int32) (m3 : Int32) (f4 : Nat → Int32) (g4 : Nat → Int32) (c4 : Nat → Int32) (m4 : Int32) (f5 : Nat → Int32) (g5 : Nat → Int32) (c5 : Nat → Int32) (m5 : Int32) (ef0 : Nat → Int32) (ef1 : Nat → Int32) (t : Int32) (k : Int32) (ok : sp_ok S) (hra : z_row 12 (nI (sp_R S 0).length) fa (sp_R S 0)) (hrb : z_row 12 (nI (sp_R S 1).length) fb (sp_R S 1)) (ht0 : z_tba f0 g0 (sp_T S 0)) (ht1 : z_tba f1 g1 (sp_T S 1)) (ht2 : z_tba f2 g2 (sp_T S 2)) (he0 : z_row 10 (nI (sp_E S 0).2.length) ef0 (sp_E S 0).2) (he1 : z_row 10 (nI (sp_E S 1).2.length) ef1 (sp_E S 1).2) (hzm3 : z_m20 m3) (hzm4 : z_m20 m4) (hzm5 : z_m20 m5) : z_CX G l mX8_has 20 14 120 (z_cw S.1.1 S.1.2 (nI (sp_R S 0).length) (sp_F S 0) fa (sp_C S 0) (nI (sp_R S 1).length) (sp_F S 1) fb (sp_C S 1) mt false ft ct f0 g0 (sp_C S 2) (nI (sp_T S 0).length) 0 f1 g1 c1 (nI (sp_T S 1).length) 0 f2 g2 c2 (nI (sp_T S 2).length) 1 f3 g3 c3 m3 0 f4 g4 c4 m4 0 f5 g5 c5 m5 1 (nI (sp_E S 0).2.length) (sp_E S 0).1.2.1 (sp_E S 0).1.2.2.1 (sp_E S 0).1.2.2.2 (sp_E S 0).1.1 ef0 (nI (sp_E S 1).2.length) (sp_E S 1).1.2.1 (sp_E S 1).1.2.2.1 (sp_E S 1).1.2.2.2 (sp_E S 1).1.1 ef1 []) [.ref 0, .int t, .int k] (fun v L => sp_k32 t (sp_bk k) = 0 ∧ v = some (.int (z_bi (!(decide (sp_lk (sp_T S (sp_i t)) (sp_i k) = -1000))))) ∧ sp_CW (S) L) (fun E L => ((z_xI E ∧ sp_k32 t (sp_bk k) = 1) ∨ (z_xA E ∧ sp_k32 t (sp_bk k) = 2)) ∧ L = (z_cw S.1.1 S.1.2 (nI (sp_R S 0).length) (sp_F S 0) fa (sp_C S 0) (nI (sp_R S 1).length) (sp_F S 1) fb (sp_C S 1) mt false ft ct f0 g0 (sp_C S 2) (nI (sp_T S 0).length) 0 f1 g1 c1 (nI (sp_T S 1).length) 0 f2 g2 c2 (nI (sp_T S 2).length) 1 f3 g3 c3 m3 0 f4 g4 c4 m4 0 f5 g5 c5 m5 1 (nI (sp_E S 0).2.length) (sp_E S 0).1.2.1 (sp_E S 0).1.2.2.1 (sp_E S 0).1.2.2.2 (sp_E S 0).1.1 ef0 (nI (sp_E S 1).2.length) (sp_E S 1).1.2.1 (sp_E S 1).1.2.2.1 (sp_E S 1).1.2.2.2 (sp_E S 1).1.1 ef1 [])) := by
  refine z_body hl (by decide) rfl (Nat.le_of_ble_eq_true rfl) ?_
  show z_J G l mX8_has (z_SX 20 14 120 (z_cw S.1.1 S.1.2 (nI (sp_R S 0).length) (sp_F S 0) fa (sp_C S 0) (nI (sp_R S 1).length) (sp_F S 1) fb (sp_C S 1) mt false ft ct f0 g0 (sp_C S 2) (nI (sp_T S 0).length) 0 f1 g1 c1 (nI (sp_T S 1).length) 0 f2 g2 c2 (nI (sp_T S 2).length) 1 f3 g3 c3 m3 0 f4 g4 c4 m4 0 f5 g5 c5 m5 1 (nI (sp_E S 0).2.length) (sp_E S 0).1.2.1 (sp_E S 0).1.2.2.1 (sp_E S 0).1.2.2.2 (sp_E S 0).1.1 ef0 (nI (sp_E S 1).2.length) (sp_E S 1).1.2.1 (sp_E S 1).1.2.2.1 (sp_E S 1).1.2.2.2 (sp_E S 1).1.1 ef1 []) (fun v L => sp_k32 t (sp_bk k) = 0 ∧ v = some (.int (z_bi (!(decide (sp_lk (sp_T S (sp_i t)) (sp_i k) = -1000))))) ∧ sp_CW (S) L) (fun E L => ((z_xI E ∧ sp_k32 t (sp_bk k) = 1) ∨ (z_xA E ∧ sp_k32 t (sp_bk k) = 2)) ∧ L = (z_cw S.1.1 S.1.2 (nI (sp_R S 0).length) (sp_F S 0) fa (sp_C S 0) (nI (sp_R S 1).length) (sp_F S 1) fb (sp_C S 1) mt false ft ct f0 g0 (sp_C S 2) (nI (sp_T S 0).length) 0 f1 g1 c1 (nI (sp_T S 1).length) 0 f2 g2 c2 (nI (sp_T S 2).length) 1 f3 g3 c3 m3 0 f4 g4 c4 m4 0 f5 g5 c5 m5 1 (nI (sp_E S 0).2.length) (sp_E S 0).1.2.1 (sp_E S 0).1.2.2.1 (sp_E S 0).1.2.2.2 (sp_E S 0).1.1 ef0 (nI (sp_E S 1).2.length) (sp_E S 1).1.2.1 (sp_E S 1).1.2.2.1 (sp_E S 1).1.2.2.2 (sp_E S 1).1.1 ef1 []))) 0 [(0, _), (1, _), (2, _)] [] _ 0 0
  refine j_aload_n dX8_has_0 rfl rfl ?_
  refine j_iload_n dX8_has_1 rfl ?_
  refine j_iload_n dX8_has_2 rfl ?_
  refine j_callV (q := (RX8, TX8, 9)) dX8_has_3 kX8_tableFor_ lX8_126 inX8_tableFor_ seX8_tableFor_ rfl rfl (z_dirX (c_X8_tableFor__e hl _ _ _ _ _ _ _ _ _ _ _ _ _ _ _ _ _ _ _ _ _ _ _ _ _ _ _ _ _ _ _ _ _ _ _ _ _ _ _ _ _ _ _ _ _ _ _ _ _ _ _ _ _ _ _ _ _ _)) (Nat.le_of_ble_eq_true rfl) ⟨(Nat.le_of_ble_eq_true rfl), (Nat.le_of_ble_eq_true rfl)⟩ rfl (Nat.le_of_ble_eq_true rfl) rfl rfl (fun _ _ h => by obtain ⟨_, ⟨h1, rfl⟩, rfl⟩ := h; exact ⟨rfl, rfl, h1.elim (fun z => Or.inl ⟨z.1, sp_k32_1 z.2⟩) (fun z => Or.inr ⟨z.1, sp_k32_2 z.2.1 (z.2.2)⟩), rfl⟩) ?_
  rintro _ _ ⟨_, ⟨_, rfl, hr, hk3, rfl⟩, rfl⟩
  have hk0 := hk3
  obtain ⟨q, hq, rfl⟩ := sp_nt (m := 19) rfl (by decide) hk0
  rcases hr with ⟨e_3, rfl⟩ | ⟨e_3, rfl⟩ | ⟨e_3, rfl⟩
  · subst e_3
    refine j_iload_n dX8_has_6 rfl ?_
    refine j_callV (q := (RX4, TX4, 5)) dX8_has_7 kX4_look lX8_137 inX4_look seX4_look rfl rfl (z_frame [10, 11, 12, 13, 14] rfl (by decide) (Nat.le_of_ble_eq_true rfl) (c_X4_look_e hl false _ _ _ _ (sp_T S 0) q ht0 (by omega))) (Nat.le_of_ble_eq_true rfl) ⟨(Nat.le_of_ble_eq_true rfl), (Nat.le_of_ble_eq_true rfl)⟩ rfl (Nat.le_of_ble_eq_true rfl) rfl rfl (fun _ _ h => h.elim) ?_
    rintro _ _ ⟨_, _, ⟨rfl, rfl⟩, rfl, rfl⟩
    refine j_ws (L' := z_cw _ _ _ _ _ _ _ _ _ _ _ _ _ _ _ _ _ _ _ _ _ _ _ _ _ _ _ _ _ _ _ _ _ _ _ _ _ _ _ _ _ _ _ _ _ _ _ _ _ _ _ _ _ _ _ _ []) (by decide) rfl rfl ?_
    refine j_sipush (v := (-1000)) dX8_has_10 (by decide) ?_
    refine j_icmp_eq (tgt := 20) dX8_has_13 (by decide) (fun c_13 => ?_) (fun c_13 => ?_)
    · refine j_iconst (v := 0) dX8_has_20 (by decide) ?_
      refine j_iret dX8_has_21 rfl rfl ?_ (Nat.le_of_ble_eq_true rfl) (Nat.le_of_ble_eq_true rfl)
      refine ⟨rfl, (by first | exact z_cwl | rfl), ?_⟩
      rw [sp_i0, sp_in' (n := q) (by omega)]
      exact ⟨sp_k32_0 (Or.inl rfl) hk0, (by first | (rw [decide_eq_true c_13]; rfl) | (rw [decide_eq_false c_13]; rfl)), (sp_CWe hra hrb ht0 ht1 ht2 he0 he1 hzm3 hzm4 hzm5 rfl)⟩
    · refine j_iconst (v := 1) dX8_has_16 (by decide) ?_
      refine j_goto (tgt := 21) dX8_has_17 (by decide) ?_
      refine j_iret dX8_has_21 rfl rfl ?_ (Nat.le_of_ble_eq_true rfl) (Nat.le_of_ble_eq_true rfl)
      refine ⟨rfl, (by first | exact z_cwl | rfl), ?_⟩
      rw [sp_i0, sp_in' (n := q) (by omega)]
      exact ⟨sp_k32_0 (Or.inl rfl) hk0, (by first | (rw [decide_eq_true c_13]; rfl) | (rw [decide_eq_false c_13]; rfl)), (sp_CWe hra hrb ht0 ht1 ht2 he0 he1 hzm3 hzm4 hzm5 rfl)⟩
  · subst e_3
    refine j_iload_n dX8_has_6 rfl ?_
    refine j_callV (q := (RX4, TX4, 5)) dX8_has_7 kX4_look lX8_137 inX4_look seX4_look rfl rfl (z_frame [16, 17, 18, 19, 20] rfl (by decide) (Nat.le_of_ble_eq_true rfl) (c_X4_look_e hl false _ _ _ _ (sp_T S 1) q ht1 (by omega))) (Nat.le_of_ble_eq_true rfl) ⟨(Nat.le_of_ble_eq_true rfl), (Nat.le_of_ble_eq_true rfl)⟩ rfl (Nat.le_of_ble_eq_true rfl) rfl rfl (fun _ _ h => h.elim) ?_
    rintro _ _ ⟨_, _, ⟨rfl, rfl⟩, rfl, rfl⟩
    refine j_ws (L' := z_cw _ _ _ _ _ _ _ _ _ _ _ _ _ _ _ _ _ _ _ _ _ _ _ _ _ _ _ _ _ _ _ _ _ _ _ _ _ _ _ _ _ _ _ _ _ _ _ _ _ _ _ _ _ _ _ _ []) (by decide) rfl rfl ?_
    refine j_sipush (v := (-1000)) dX8_has_10 (by decide) ?_
    refine j_icmp_eq (tgt := 20) dX8_has_13 (by decide) (fun c_13 => ?_) (fun c_13 => ?_)
    · refine j_iconst (v := 0) dX8_has_20 (by decide) ?_
      refine j_iret dX8_has_21 rfl rfl ?_ (Nat.le_of_ble_eq_true rfl) (Nat.le_of_ble_eq_true rfl)
      refine ⟨rfl, (by first | exact z_cwl | rfl), ?_⟩
      rw [sp_i1, sp_in' (n := q) (by omega)]
      exact ⟨sp_k32_0 (Or.inr (Or.inl rfl)) hk0, (by first | (rw [decide_eq_true c_13]; rfl) | (rw [decide_eq_false c_13]; rfl)), (sp_CWe hra hrb ht0 ht1 ht2 he0 he1 hzm3 hzm4 hzm5 rfl)⟩
    · refine j_iconst (v := 1) dX8_has_16 (by decide) ?_
      refine j_goto (tgt := 21) dX8_has_17 (by decide) ?_
      refine j_iret dX8_has_21 rfl rfl ?_ (Nat.le_of_ble_eq_true rfl) (Nat.le_of_ble_eq_true rfl)
      refine ⟨rfl, (by first | exact z_cwl | rfl), ?_⟩
      rw [sp_i1, sp_in' (n := q) (by omega)]
      exact ⟨sp_k32_0 (Or.inr (Or.inl rfl)) hk0, (by first | (rw [decide_eq_true c_13]; rfl) | (rw [decide_eq_false c_13]; rfl)), (sp_CWe hra hrb ht0 ht1 ht2 he0 he1 hzm3 hzm4 hzm5 rfl)⟩
  · subst e_3
    refine j_iload_n dX8_has_6 rfl ?_
    refine j_callV (q := (RX4, TX4, 5)) dX8_has_7 kX4_look lX8_137 inX4_look seX4_look rfl rfl (z_frame [21, 22, 23, 24, 25] rfl (by decide) (Nat.le_of_ble_eq_true rfl) (c_X4_look_e hl true _ _ _ _ (sp_T S 2) q ht2 (by omega))) (Nat.le_of_ble_eq_true rfl) ⟨(Nat.le_of_ble_eq_true rfl), (Nat.le_of_ble_eq_true rfl)⟩ rfl (Nat.le_of_ble_eq_true rfl) rfl rfl (fun _ _ h => h.elim) ?_
    rintro _ _ ⟨_, _, ⟨rfl, rfl⟩, rfl, rfl⟩
    refine j_ws (L' := z_cw _ _ _ _ _ _ _ _ _ _ _ _ _ _ _ _ _ _ _ _ _ _ _ _ _ _ _ _ _ _ _ _ _ _ _ _ _ _ _ _ _ _ _ _ _ _ _ _ _ _ _ _ _ _ _ _ []) (by decide) rfl rfl ?_
    refine j_sipush (v := (-1000)) dX8_has_10 (by decide) ?_
    refine j_icmp_eq (tgt := 20) dX8_has_13 (by decide) (fun c_13 => ?_) (fun c_13 => ?_)
    · refine j_iconst (v := 0) dX8_has_20 (by decide) ?_
      refine j_iret dX8_has_21 rfl rfl ?_ (Nat.le_of_ble_eq_true rfl) (Nat.le_of_ble_eq_true rfl)
      refine ⟨rfl, (by first | exact z_cwl | rfl), ?_⟩
      rw [sp_i2, sp_in' (n := q) (by omega)]
      exact ⟨sp_k32_0 (Or.inr (Or.inr rfl)) hk0, (by first | (rw [decide_eq_true c_13]; rfl) | (rw [decide_eq_false c_13]; rfl)), (sp_CWe hra hrb ht0 ht1 ht2 he0 he1 hzm3 hzm4 hzm5 rfl)⟩
    · refine j_iconst (v := 1) dX8_has_16 (by decide) ?_
      refine j_goto (tgt := 21) dX8_has_17 (by decide) ?_
      refine j_iret dX8_has_21 rfl rfl ?_ (Nat.le_of_ble_eq_true rfl) (Nat.le_of_ble_eq_true rfl)
      refine ⟨rfl, (by first | exact z_cwl | rfl), ?_⟩
      rw [sp_i2, sp_in' (n := q) (by omega)]
      exact ⟨sp_k32_0 (Or.inr (Or.inr rfl)) hk0, (by first | (rw [decide_eq_true c_13]; rfl) | (rw [decide_eq_false c_13]; rfl)), (sp_CWe hra hrb ht0 ht1 ht2 he0 he1 hzm3 hzm4 hzm5 rfl)⟩
set_option maxRecDepth 100000 in
set_option maxHeartbeats 8000000 in
theorem c_X8_size_p (hl : l.stackTraces = false) (S : sp_S) (fa : Nat → Int32) (fb : Nat → Int32) (mt : Int32) (ft : Nat → Int32) (ct : Nat → Int32) (f0 : Nat → Int32) (g0 : Nat → Int32) (f1 : Nat → Int32) (g1 : Nat → Int32) (c1 : Nat → Int32) (f2 : Nat → Int32) (g2 : Nat → Int32) (c2 : Nat → Int32) (f3 : Nat → Int32) (g3 : Nat → Int32) (c3 : Nat → Int32) (m3 : Int32) (f4 : Nat → Int32) (g4 : Nat → Int32) (c4 : Nat → Int32) (m4 : Int32) (f5 : Nat → Int32) (g5 : Nat → Int32) (c5 : Nat → Int32) (m5 : Int32) (ef0 : Nat → Int32) (ef1 : Nat → Int32) (t : Int32) (ok : sp_ok S) (hra : z_row 12 (nI (sp_R S 0).length) fa (sp_R S 0)) (hrb : z_row 12 (nI (sp_R S 1).length) fb (sp_R S 1)) (ht0 : z_tba f0 g0 (sp_T S 0)) (ht1 : z_tba f1 g1 (sp_T S 1)) (ht2 : z_tba f2 g2 (sp_T S 2)) (he0 : z_row 10 (nI (sp_E S 0).2.length) ef0 (sp_E S 0).2) (he1 : z_row 10 (nI (sp_E S 1).2.length) ef1 (sp_E S 1).2) (hzm3 : z_m20 m3) (hzm4 : z_m20 m4) (hzm5 : z_m20 m5) : z_CX G l mX8_size 20 14 120 (z_cw S.1.1 S.1.2 (nI (sp_R S 0).length) (sp_F S 0) fa (sp_C S 0) (nI (sp_R S 1).length) (sp_F S 1) fb (sp_C S 1) mt false ft ct f0 g0 (sp_C S 2) (nI (sp_T S 0).length) 0 f1 g1 c1 (nI (sp_T S 1).length) 0 f2 g2 c2 (nI (sp_T S 2).length) 1 f3 g3 c3 m3 0 f4 g4 c4 m4 0 f5 g5 c5 m5 1 (nI (sp_E S 0).2.length) (sp_E S 0).1.2.1 (sp_E S 0).1.2.2.1 (sp_E S 0).1.2.2.2 (sp_E S 0).1.1 ef0 (nI (sp_E S 1).2.length) (sp_E S 1).1.2.1 (sp_E S 1).1.2.2.1 (sp_E S 1).1.2.2.2 (sp_E S 1).1.1 ef1 []) [.ref 0, .int t] (fun v L => sp_k3 t = 0 ∧ v = some (.int (nI (sp_T S (sp_i t)).length)) ∧ sp_CW (S) L) (fun E L => ((z_xI E ∧ sp_k3 t = 1)) ∧ L = (z_cw S.1.1 S.1.2 (nI (sp_R S 0).length) (sp_F S 0) fa (sp_C S 0) (nI (sp_R S 1).length) (sp_F S 1) fb (sp_C S 1) mt false ft ct f0 g0 (sp_C S 2) (nI (sp_T S 0).length) 0 f1 g1 c1 (nI (sp_T S 1).length) 0 f2 g2 c2 (nI (sp_T S 2).length) 1 f3 g3 c3 m3 0 f4 g4 c4 m4 0 f5 g5 c5 m5 1 (nI (sp_E S 0).2.length) (sp_E S 0).1.2.1 (sp_E S 0).1.2.2.1 (sp_E S 0).1.2.2.2 (sp_E S 0).1.1 ef0 (nI (sp_E S 1).2.length) (sp_E S 1).1.2.1 (sp_E S 1).1.2.2.1 (sp_E S 1).1.2.2.2 (sp_E S 1).1.1 ef1 [])) := by
  refine z_body hl (by decide) rfl (Nat.le_of_ble_eq_true rfl) ?_
  show z_J G l mX8_size (z_SX 20 14 120 (z_cw S.1.1 S.1.2 (nI (sp_R S 0).length) (sp_F S 0) fa (sp_C S 0) (nI (sp_R S 1).length) (sp_F S 1) fb (sp_C S 1) mt false ft ct f0 g0 (sp_C S 2) (nI (sp_T S 0).length) 0 f1 g1 c1 (nI (sp_T S 1).length) 0 f2 g2 c2 (nI (sp_T S 2).length) 1 f3 g3 c3 m3 0 f4 g4 c4 m4 0 f5 g5 c5 m5 1 (nI (sp_E S 0).2.length) (sp_E S 0).1.2.1 (sp_E S 0).1.2.2.1 (sp_E S 0).1.2.2.2 (sp_E S 0).1.1 ef0 (nI (sp_E S 1).2.length) (sp_E S 1).1.2.1 (sp_E S 1).1.2.2.1 (sp_E S 1).1.2.2.2 (sp_E S 1).1.1 ef1 []) (fun v L => sp_k3 t = 0 ∧ v = some (.int (nI (sp_T S (sp_i t)).length)) ∧ sp_CW (S) L) (fun E L => ((z_xI E ∧ sp_k3 t = 1)) ∧ L = (z_cw S.1.1 S.1.2 (nI (sp_R S 0).length) (sp_F S 0) fa (sp_C S 0) (nI (sp_R S 1).length) (sp_F S 1) fb (sp_C S 1) mt false ft ct f0 g0 (sp_C S 2) (nI (sp_T S 0).length) 0 f1 g1 c1 (nI (sp_T S 1).length) 0 f2 g2 c2 (nI (sp_T S 2).length) 1 f3 g3 c3 m3 0 f4 g4 c4 m4 0 f5 g5 c5 m5 1 (nI (sp_E S 0).2.length) (sp_E S 0).1.2.1 (sp_E S 0).1.2.2.1 (sp_E S 0).1.2.2.2 (sp_E S 0).1.1 ef0 (nI (sp_E S 1).2.length) (sp_E S 1).1.2.1 (sp_E S 1).1.2.2.1 (sp_E S 1).1.2.2.2 (sp_E S 1).1.1 ef1 []))) 0 [(0, _), (1, _)] [] _ 0 0
  refine j_aload_n dX8_size_0 rfl rfl ?_
  refine j_iload_n dX8_size_1 rfl ?_
  refine j_callV (q := (RX8, TX8, 9)) dX8_size_2 kX8_tableFor lX8_157 inX8_tableFor seX8_tableFor rfl rfl (z_dirX (c_X8_tableFor_e hl _ _ _ _ _ _ _ _ _ _ _ _ _ _ _ _ _ _ _ _ _ _ _ _ _ _ _ _ _ _ _ _ _ _ _ _ _ _ _ _ _ _ _ _ _ _ _ _ _ _ _ _ _ _ _ _ _)) (Nat.le_of_ble_eq_true rfl) ⟨(Nat.le_of_ble_eq_true rfl), (Nat.le_of_ble_eq_true rfl)⟩ rfl (Nat.le_of_ble_eq_true rfl) rfl rfl (fun _ _ h => by obtain ⟨_, ⟨h1, rfl⟩, rfl⟩ := h; exact ⟨rfl, rfl, ⟨h1.1, sp_k3_1 h1.2⟩, rfl⟩) ?_
  rintro _ _ ⟨_, ⟨_, rfl, hr, rfl⟩, rfl⟩
  rcases hr with ⟨e_2, rfl⟩ | ⟨e_2, rfl⟩ | ⟨e_2, rfl⟩
  · subst e_2
    refine j_getf dX8_size_5 fX8_165 rfl rfl ?_
    refine j_iret dX8_size_8 rfl rfl ?_ (Nat.le_of_ble_eq_true rfl) (Nat.le_of_ble_eq_true rfl)
    refine ⟨rfl, (by first | exact z_cwl | rfl), ?_⟩
    rw [sp_i0]
    exact ⟨sp_k3_0 (Or.inl rfl), rfl, (sp_CWe hra hrb ht0 ht1 ht2 he0 he1 hzm3 hzm4 hzm5 rfl)⟩
  · subst e_2
    refine j_getf dX8_size_5 fX8_165 rfl rfl ?_
    refine j_iret dX8_size_8 rfl rfl ?_ (Nat.le_of_ble_eq_true rfl) (Nat.le_of_ble_eq_true rfl)
    refine ⟨rfl, (by first | exact z_cwl | rfl), ?_⟩
    rw [sp_i1]
    exact ⟨sp_k3_0 (Or.inr (Or.inl rfl)), rfl, (sp_CWe hra hrb ht0 ht1 ht2 he0 he1 hzm3 hzm4 hzm5 rfl)⟩
  · subst e_2
    refine j_getf dX8_size_5 fX8_165 rfl rfl ?_
    refine j_iret dX8_size_8 rfl rfl ?_ (Nat.le_of_ble_eq_true rfl) (Nat.le_of_ble_eq_true rfl)
    refine ⟨rfl, (by first | exact z_cwl | rfl), ?_⟩
    rw [sp_i2]
    exact ⟨sp_k3_0 (Or.inr (Or.inr rfl)), rfl, (sp_CWe hra hrb ht0 ht1 ht2 he0 he1 hzm3 hzm4 hzm5 rfl)⟩
set_option maxRecDepth 100000 in
set_option maxHeartbeats 8000000 in
theorem c_X8_areLike_p (hl : l.stackTraces = false) (S : sp_S) (fa : Nat → Int32) (fb : Nat → Int32) (mt : Int32) (ft : Nat → Int32) (ct : Nat → Int32) (f0 : Nat → Int32) (g0 : Nat → Int32) (f1 : Nat → Int32) (g1 : Nat → Int32) (c1 : Nat → Int32) (f2 : Nat → Int32) (g2 : Nat → Int32) (c2 : Nat → Int32) (f3 : Nat → Int32) (g3 : Nat → Int32) (c3 : Nat → Int32) (m3 : Int32) (f4 : Nat → Int32) (g4 : Nat → Int32) (c4 : Nat → Int32) (m4 : Int32) (f5 : Nat → Int32) (g5 : Nat → Int32) (c5 : Nat → Int32) (m5 : Int32) (ef0 : Nat → Int32) (ef1 : Nat → Int32) (t : Int32) (u : Int32) (ok : sp_ok S) (hra : z_row 12 (nI (sp_R S 0).length) fa (sp_R S 0)) (hrb : z_row 12 (nI (sp_R S 1).length) fb (sp_R S 1)) (ht0 : z_tba f0 g0 (sp_T S 0)) (ht1 : z_tba f1 g1 (sp_T S 1)) (ht2 : z_tba f2 g2 (sp_T S 2)) (he0 : z_row 10 (nI (sp_E S 0).2.length) ef0 (sp_E S 0).2) (he1 : z_row 10 (nI (sp_E S 1).2.length) ef1 (sp_E S 1).2) (hzm3 : z_m20 m3) (hzm4 : z_m20 m4) (hzm5 : z_m20 m5) : z_CX G l mX8_areLike 20 14 120 (z_cw S.1.1 S.1.2 (nI (sp_R S 0).length) (sp_F S 0) fa (sp_C S 0) (nI (sp_R S 1).length) (sp_F S 1) fb (sp_C S 1) mt false ft ct f0 g0 (sp_C S 2) (nI (sp_T S 0).length) 0 f1 g1 c1 (nI (sp_T S 1).length) 0 f2 g2 c2 (nI (sp_T S 2).length) 1 f3 g3 c3 m3 0 f4 g4 c4 m4 0 f5 g5 c5 m5 1 (nI (sp_E S 0).2.length) (sp_E S 0).1.2.1 (sp_E S 0).1.2.2.1 (sp_E S 0).1.2.2.2 (sp_E S 0).1.1 ef0 (nI (sp_E S 1).2.length) (sp_E S 1).1.2.1 (sp_E S 1).1.2.2.1 (sp_E S 1).1.2.2.2 (sp_E S 1).1.1 ef1 []) [.ref 0, .int t, .int u] (fun v L => sp_k33 t u = 0 ∧ v = some (.int (z_bi (sp_lik (sp_T S (sp_i t)) (sp_T S (sp_i u))))) ∧ sp_CW (S) L) (fun E L => ((z_xI E ∧ sp_k33 t u = 1)) ∧ L = (z_cw S.1.1 S.1.2 (nI (sp_R S 0).length) (sp_F S 0) fa (sp_C S 0) (nI (sp_R S 1).length) (sp_F S 1) fb (sp_C S 1) mt false ft ct f0 g0 (sp_C S 2) (nI (sp_T S 0).length) 0 f1 g1 c1 (nI (sp_T S 1).length) 0 f2 g2 c2 (nI (sp_T S 2).length) 1 f3 g3 c3 m3 0 f4 g4 c4 m4 0 f5 g5 c5 m5 1 (nI (sp_E S 0).2.length) (sp_E S 0).1.2.1 (sp_E S 0).1.2.2.1 (sp_E S 0).1.2.2.2 (sp_E S 0).1.1 ef0 (nI (sp_E S 1).2.length) (sp_E S 1).1.2.1 (sp_E S 1).1.2.2.1 (sp_E S 1).1.2.2.2 (sp_E S 1).1.1 ef1 [])) := by
  refine z_body hl (by decide) rfl (Nat.le_of_ble_eq_true rfl) ?_
  show z_J G l mX8_areLike (z_SX 20 14 120 (z_cw S.1.1 S.1.2 (nI (sp_R S 0).length) (sp_F S 0) fa (sp_C S 0) (nI (sp_R S 1).length) (sp_F S 1) fb (sp_C S 1) mt false ft ct f0 g0 (sp_C S 2) (nI (sp_T S 0).length) 0 f1 g1 c1 (nI (sp_T S 1).length) 0 f2 g2 c2 (nI (sp_T S 2).length) 1 f3 g3 c3 m3 0 f4 g4 c4 m4 0 f5 g5 c5 m5 1 (nI (sp_E S 0).2.length) (sp_E S 0).1.2.1 (sp_E S 0).1.2.2.1 (sp_E S 0).1.2.2.2 (sp_E S 0).1.1 ef0 (nI (sp_E S 1).2.length) (sp_E S 1).1.2.1 (sp_E S 1).1.2.2.1 (sp_E S 1).1.2.2.2 (sp_E S 1).1.1 ef1 []) (fun v L => sp_k33 t u = 0 ∧ v = some (.int (z_bi (sp_lik (sp_T S (sp_i t)) (sp_T S (sp_i u))))) ∧ sp_CW (S) L) (fun E L => ((z_xI E ∧ sp_k33 t u = 1)) ∧ L = (z_cw S.1.1 S.1.2 (nI (sp_R S 0).length) (sp_F S 0) fa (sp_C S 0) (nI (sp_R S 1).length) (sp_F S 1) fb (sp_C S 1) mt false ft ct f0 g0 (sp_C S 2) (nI (sp_T S 0).length) 0 f1 g1 c1 (nI (sp_T S 1).length) 0 f2 g2 c2 (nI (sp_T S 2).length) 1 f3 g3 c3 m3 0 f4 g4 c4 m4 0 f5 g5 c5 m5 1 (nI (sp_E S 0).2.length) (sp_E S 0).1.2.1 (sp_E S 0).1.2.2.1 (sp_E S 0).1.2.2.2 (sp_E S 0).1.1 ef0 (nI (sp_E S 1).2.length) (sp_E S 1).1.2.1 (sp_E S 1).1.2.2.1 (sp_E S 1).1.2.2.2 (sp_E S 1).1.1 ef1 []))) 0 [(0, _), (1, _), (2, _)] [] _ 0 0
  refine j_aload_n dX8_areLike_0 rfl rfl ?_
  refine j_iload_n dX8_areLike_1 rfl ?_
  refine j_callV (q := (RX8, TX8, 9)) dX8_areLike_2 kX8_tableFor lX8_157 inX8_tableFor seX8_tableFor rfl rfl (z_dirX (c_X8_tableFor_e hl _ _ _ _ _ _ _ _ _ _ _ _ _ _ _ _ _ _ _ _ _ _ _ _ _ _ _ _ _ _ _ _ _ _ _ _ _ _ _ _ _ _ _ _ _ _ _ _ _ _ _ _ _ _ _ _ _)) (Nat.le_of_ble_eq_true rfl) ⟨(Nat.le_of_ble_eq_true rfl), (Nat.le_of_ble_eq_true rfl)⟩ rfl (Nat.le_of_ble_eq_true rfl) rfl rfl (fun _ _ h => by obtain ⟨_, ⟨h1, rfl⟩, rfl⟩ := h; exact ⟨rfl, rfl, ⟨h1.1, sp_k33_1 h1.2⟩, rfl⟩) ?_
  rintro _ _ ⟨_, ⟨_, rfl, hr, rfl⟩, rfl⟩
  rcases hr with ⟨e_2, rfl⟩ | ⟨e_2, rfl⟩ | ⟨e_2, rfl⟩
  · subst e_2
    refine j_astore_n (lo' := [(3, _), (0, _), (1, _), (2, _)]) dX8_areLike_5 rfl (by decide) rfl ?_
    refine j_aload_n dX8_areLike_6 rfl rfl ?_
    refine j_aload_n dX8_areLike_7 rfl rfl ?_
    refine j_iload_n dX8_areLike_8 rfl ?_
    refine j_callV (q := (RX8, TX8, 9)) dX8_areLike_9 kX8_tableFor lX8_157 inX8_tableFor seX8_tableFor rfl rfl (z_dirX (c_X8_tableFor_e hl _ _ _ _ _ _ _ _ _ _ _ _ _ _ _ _ _ _ _ _ _ _ _ _ _ _ _ _ _ _ _ _ _ _ _ _ _ _ _ _ _ _ _ _ _ _ _ _ _ _ _ _ _ _ _ _ _)) (Nat.le_of_ble_eq_true rfl) ⟨(Nat.le_of_ble_eq_true rfl), (Nat.le_of_ble_eq_true rfl)⟩ rfl (Nat.le_of_ble_eq_true rfl) rfl rfl (fun _ _ h => by obtain ⟨_, ⟨h1, rfl⟩, rfl⟩ := h; exact ⟨rfl, rfl, ⟨h1.1, sp_k33_1' h1.2⟩, rfl⟩) ?_
    rintro _ _ ⟨_, ⟨_, rfl, hr, rfl⟩, rfl⟩
    rcases hr with ⟨e_9, rfl⟩ | ⟨e_9, rfl⟩ | ⟨e_9, rfl⟩
    · subst e_9
      refine j_callV (q := (RX4, TX4, 5)) dX8_areLike_12 kX4_hasPairsOf lX8_230 inX4_hasPairsOf seX4_hasPairsOf rfl rfl (z_frame [10, 11, 12, 13, 14] rfl (by decide) (Nat.le_of_ble_eq_true rfl) (c_X4_hasPairsOf_s_e hl false _ _ _ (sp_T S 0) ht0)) (Nat.le_of_ble_eq_true rfl) ⟨(Nat.le_of_ble_eq_true rfl), (Nat.le_of_ble_eq_true rfl)⟩ rfl (Nat.le_of_ble_eq_true rfl) rfl rfl (fun _ _ h => h.elim) ?_
      rintro _ _ ⟨_, _, ⟨rfl, rfl⟩, rfl, rfl⟩
      refine j_ws (L' := z_cw _ _ _ _ _ _ _ _ _ _ _ _ _ _ _ _ _ _ _ _ _ _ _ _ _ _ _ _ _ _ _ _ _ _ _ _ _ _ _ _ _ _ _ _ _ _ _ _ _ _ _ _ _ _ _ _ []) (by decide) rfl rfl ?_
      refine j_iret dX8_areLike_15 rfl (z_bn _) ?_ (Nat.le_of_ble_eq_true rfl) (Nat.le_of_ble_eq_true rfl)
      refine ⟨rfl, (by first | exact z_cwl | rfl), ?_⟩
      try rw [sp_i0]
      exact ⟨sp_k33_0 (Or.inl rfl) (Or.inl rfl), rfl, (sp_CWe hra hrb ht0 ht1 ht2 he0 he1 hzm3 hzm4 hzm5 rfl)⟩
    · subst e_9
      refine j_callV (q := (RX4, TX4, 5)) dX8_areLike_12 kX4_hasPairsOf lX8_230 inX4_hasPairsOf seX4_hasPairsOf rfl rfl (z_frame [10, 11, 12, 13, 14, 16, 17, 18, 19, 20] rfl (by decide) (Nat.le_of_ble_eq_true rfl) (c_X4_hasPairsOf_e hl false _ _ _ (sp_T S 0) false _ _ _ (sp_T S 1) ht0 ht1)) (Nat.le_of_ble_eq_true rfl) ⟨(Nat.le_of_ble_eq_true rfl), (Nat.le_of_ble_eq_true rfl)⟩ rfl (Nat.le_of_ble_eq_true rfl) rfl rfl (fun _ _ h => h.elim) ?_
      rintro _ _ ⟨_, _, ⟨rfl, rfl⟩, rfl, rfl⟩
      refine j_ws (L' := z_cw _ _ _ _ _ _ _ _ _ _ _ _ _ _ _ _ _ _ _ _ _ _ _ _ _ _ _ _ _ _ _ _ _ _ _ _ _ _ _ _ _ _ _ _ _ _ _ _ _ _ _ _ _ _ _ _ []) (by decide) rfl rfl ?_
      refine j_iret dX8_areLike_15 rfl (z_bn _) ?_ (Nat.le_of_ble_eq_true rfl) (Nat.le_of_ble_eq_true rfl)
      refine ⟨rfl, (by first | exact z_cwl | rfl), ?_⟩
      try rw [sp_i0]
      try rw [sp_i1]
      exact ⟨sp_k33_0 (Or.inl rfl) (Or.inr (Or.inl rfl)), rfl, (sp_CWe hra hrb ht0 ht1 ht2 he0 he1 hzm3 hzm4 hzm5 rfl)⟩
    · subst e_9
      refine j_callV (q := (RX4, TX4, 5)) dX8_areLike_12 kX4_hasPairsOf lX8_230 inX4_hasPairsOf seX4_hasPairsOf rfl rfl (z_frame [10, 11, 12, 13, 14, 21, 22, 23, 24, 25] rfl (by decide) (Nat.le_of_ble_eq_true rfl) (c_X4_hasPairsOf_e hl false _ _ _ (sp_T S 0) true _ _ _ (sp_T S 2) ht0 ht2)) (Nat.le_of_ble_eq_true rfl) ⟨(Nat.le_of_ble_eq_true rfl), (Nat.le_of_ble_eq_true rfl)⟩ rfl (Nat.le_of_ble_eq_true rfl) rfl rfl (fun _ _ h => h.elim) ?_
      rintro _ _ ⟨_, _, ⟨rfl, rfl⟩, rfl, rfl⟩
      refine j_ws (L' := z_cw _ _ _ _ _ _ _ _ _ _ _ _ _ _ _ _ _ _ _ _ _ _ _ _ _ _ _ _ _ _ _ _ _ _ _ _ _ _ _ _ _ _ _ _ _ _ _ _ _ _ _ _ _ _ _ _ []) (by decide) rfl rfl ?_
      refine j_iret dX8_areLike_15 rfl (z_bn _) ?_ (Nat.le_of_ble_eq_true rfl) (Nat.le_of_ble_eq_true rfl)
      refine ⟨rfl, (by first | exact z_cwl | rfl), ?_⟩
      try rw [sp_i0]
      try rw [sp_i2]
      exact ⟨sp_k33_0 (Or.inl rfl) (Or.inr (Or.inr rfl)), rfl, (sp_CWe hra hrb ht0 ht1 ht2 he0 he1 hzm3 hzm4 hzm5 rfl)⟩
  · subst e_2
    refine j_astore_n (lo' := [(3, _), (0, _), (1, _), (2, _)]) dX8_areLike_5 rfl (by decide) rfl ?_
    refine j_aload_n dX8_areLike_6 rfl rfl ?_
    refine j_aload_n dX8_areLike_7 rfl rfl ?_
    refine j_iload_n dX8_areLike_8 rfl ?_
    refine j_callV (q := (RX8, TX8, 9)) dX8_areLike_9 kX8_tableFor lX8_157 inX8_tableFor seX8_tableFor rfl rfl (z_dirX (c_X8_tableFor_e hl _ _ _ _ _ _ _ _ _ _ _ _ _ _ _ _ _ _ _ _ _ _ _ _ _ _ _ _ _ _ _ _ _ _ _ _ _ _ _ _ _ _ _ _ _ _ _ _ _ _ _ _ _ _ _ _ _)) (Nat.le_of_ble_eq_true rfl) ⟨(Nat.le_of_ble_eq_true rfl), (Nat.le_of_ble_eq_true rfl)⟩ rfl (Nat.le_of_ble_eq_true rfl) rfl rfl (fun _ _ h => by obtain ⟨_, ⟨h1, rfl⟩, rfl⟩ := h; exact ⟨rfl, rfl, ⟨h1.1, sp_k33_1' h1.2⟩, rfl⟩) ?_
    rintro _ _ ⟨_, ⟨_, rfl, hr, rfl⟩, rfl⟩
    rcases hr with ⟨e_9, rfl⟩ | ⟨e_9, rfl⟩ | ⟨e_9, rfl⟩
    · subst e_9
      refine j_callV (q := (RX4, TX4, 5)) dX8_areLike_12 kX4_hasPairsOf lX8_230 inX4_hasPairsOf seX4_hasPairsOf rfl rfl (z_frame [16, 17, 18, 19, 20, 10, 11, 12, 13, 14] rfl (by decide) (Nat.le_of_ble_eq_true rfl) (c_X4_hasPairsOf_e hl false _ _ _ (sp_T S 1) false _ _ _ (sp_T S 0) ht1 ht0)) (Nat.le_of_ble_eq_true rfl) ⟨(Nat.le_of_ble_eq_true rfl), (Nat.le_of_ble_eq_true rfl)⟩ rfl (Nat.le_of_ble_eq_true rfl) rfl rfl (fun _ _ h => h.elim) ?_
      rintro _ _ ⟨_, _, ⟨rfl, rfl⟩, rfl, rfl⟩
      refine j_ws (L' := z_cw _ _ _ _ _ _ _ _ _ _ _ _ _ _ _ _ _ _ _ _ _ _ _ _ _ _ _ _ _ _ _ _ _ _ _ _ _ _ _ _ _ _ _ _ _ _ _ _ _ _ _ _ _ _ _ _ []) (by decide) rfl rfl ?_
      refine j_iret dX8_areLike_15 rfl (z_bn _) ?_ (Nat.le_of_ble_eq_true rfl) (Nat.le_of_ble_eq_true rfl)
      refine ⟨rfl, (by first | exact z_cwl | rfl), ?_⟩
      try rw [sp_i0]
      try rw [sp_i1]
      exact ⟨sp_k33_0 (Or.inr (Or.inl rfl)) (Or.inl rfl), rfl, (sp_CWe hra hrb ht0 ht1 ht2 he0 he1 hzm3 hzm4 hzm5 rfl)⟩
    · subst e_9
      refine j_callV (q := (RX4, TX4, 5)) dX8_areLike_12 kX4_hasPairsOf lX8_230 inX4_hasPairsOf seX4_hasPairsOf rfl rfl (z_frame [16, 17, 18, 19, 20] rfl (by decide) (Nat.le_of_ble_eq_true rfl) (c_X4_hasPairsOf_s_e hl false _ _ _ (sp_T S 1) ht1)) (Nat.le_of_ble_eq_true rfl) ⟨(Nat.le_of_ble_eq_true rfl), (Nat.le_of_ble_eq_true rfl)⟩ rfl (Nat.le_of_ble_eq_true rfl) rfl rfl (fun _ _ h => h.elim) ?_
      rintro _ _ ⟨_, _, ⟨rfl, rfl⟩, rfl, rfl⟩
      refine j_ws (L' := z_cw _ _ _ _ _ _ _ _ _ _ _ _ _ _ _ _ _ _ _ _ _ _ _ _ _ _ _ _ _ _ _ _ _ _ _ _ _ _ _ _ _ _ _ _ _ _ _ _ _ _ _ _ _ _ _ _ []) (by decide) rfl rfl ?_
      refine j_iret dX8_areLike_15 rfl (z_bn _) ?_ (Nat.le_of_ble_eq_true rfl) (Nat.le_of_ble_eq_true rfl)
      refine ⟨rfl, (by first | exact z_cwl | rfl), ?_⟩
      try rw [sp_i1]
      exact ⟨sp_k33_0 (Or.inr (Or.inl rfl)) (Or.inr (Or.inl rfl)), rfl, (sp_CWe hra hrb ht0 ht1 ht2 he0 he1 hzm3 hzm4 hzm5 rfl)⟩
    · subst e_9
      refine j_callV (q := (RX4, TX4, 5)) dX8_areLike_12 kX4_hasPairsOf lX8_230 inX4_hasPairsOf seX4_hasPairsOf rfl rfl (z_frame [16, 17, 18, 19, 20, 21, 22, 23, 24, 25] rfl (by decide) (Nat.le_of_ble_eq_true rfl) (c_X4_hasPairsOf_e hl false _ _ _ (sp_T S 1) true _ _ _ (sp_T S 2) ht1 ht2)) (Nat.le_of_ble_eq_true rfl) ⟨(Nat.le_of_ble_eq_true rfl), (Nat.le_of_ble_eq_true rfl)⟩ rfl (Nat.le_of_ble_eq_true rfl) rfl rfl (fun _ _ h => h.elim) ?_
      rintro _ _ ⟨_, _, ⟨rfl, rfl⟩, rfl, rfl⟩
      refine j_ws (L' := z_cw _ _ _ _ _ _ _ _ _ _ _ _ _ _ _ _ _ _ _ _ _ _ _ _ _ _ _ _ _ _ _ _ _ _ _ _ _ _ _ _ _ _ _ _ _ _ _ _ _ _ _ _ _ _ _ _ []) (by decide) rfl rfl ?_
      refine j_iret dX8_areLike_15 rfl (z_bn _) ?_ (Nat.le_of_ble_eq_true rfl) (Nat.le_of_ble_eq_true rfl)
      refine ⟨rfl, (by first | exact z_cwl | rfl), ?_⟩
      try rw [sp_i1]
      try rw [sp_i2]
      exact ⟨sp_k33_0 (Or.inr (Or.inl rfl)) (Or.inr (Or.inr rfl)), rfl, (sp_CWe hra hrb ht0 ht1 ht2 he0 he1 hzm3 hzm4 hzm5 rfl)⟩
  · subst e_2
    refine j_astore_n (lo' := [(3, _), (0, _), (1, _), (2, _)]) dX8_areLike_5 rfl (by decide) rfl ?_
    refine j_aload_n dX8_areLike_6 rfl rfl ?_
    refine j_aload_n dX8_areLike_7 rfl rfl ?_
    refine j_iload_n dX8_areLike_8 rfl ?_
    refine j_callV (q := (RX8, TX8, 9)) dX8_areLike_9 kX8_tableFor lX8_157 inX8_tableFor seX8_tableFor rfl rfl (z_dirX (c_X8_tableFor_e hl _ _ _ _ _ _ _ _ _ _ _ _ _ _ _ _ _ _ _ _ _ _ _ _ _ _ _ _ _ _ _ _ _ _ _ _ _ _ _ _ _ _ _ _ _ _ _ _ _ _ _ _ _ _ _ _ _)) (Nat.le_of_ble_eq_true rfl) ⟨(Nat.le_of_ble_eq_true rfl), (Nat.le_of_ble_eq_true rfl)⟩ rfl (Nat.le_of_ble_eq_true rfl) rfl rfl (fun _ _ h => by obtain ⟨_, ⟨h1, rfl⟩, rfl⟩ := h; exact ⟨rfl, rfl, ⟨h1.1, sp_k33_1' h1.2⟩, rfl⟩) ?_
    rintro _ _ ⟨_, ⟨_, rfl, hr, rfl⟩, rfl⟩
    rcases hr with ⟨e_9, rfl⟩ | ⟨e_9, rfl⟩ | ⟨e_9, rfl⟩
    · subst e_9
      refine j_callV (q := (RX4, TX4, 5)) dX8_areLike_12 kX4_hasPairsOf lX8_230 inX4_hasPairsOf seX4_hasPairsOf rfl rfl (z_frame [21, 22, 23, 24, 25, 10, 11, 12, 13, 14] rfl (by decide) (Nat.le_of_ble_eq_true rfl) (c_X4_hasPairsOf_e hl true _ _ _ (sp_T S 2) false _ _ _ (sp_T S 0) ht2 ht0)) (Nat.le_of_ble_eq_true rfl) ⟨(Nat.le_of_ble_eq_true rfl), (Nat.le_of_ble_eq_true rfl)⟩ rfl (Nat.le_of_ble_eq_true rfl) rfl rfl (fun _ _ h => h.elim) ?_
      rintro _ _ ⟨_, _, ⟨rfl, rfl⟩, rfl, rfl⟩
      refine j_ws (L' := z_cw _ _ _ _ _ _ _ _ _ _ _ _ _ _ _ _ _ _ _ _ _ _ _ _ _ _ _ _ _ _ _ _ _ _ _ _ _ _ _ _ _ _ _ _ _ _ _ _ _ _ _ _ _ _ _ _ []) (by decide) rfl rfl ?_
      refine j_iret dX8_areLike_15 rfl (z_bn _) ?_ (Nat.le_of_ble_eq_true rfl) (Nat.le_of_ble_eq_true rfl)
      refine ⟨rfl, (by first | exact z_cwl | rfl), ?_⟩
      try rw [sp_i0]
      try rw [sp_i2]
      exact ⟨sp_k33_0 (Or.inr (Or.inr rfl)) (Or.inl rfl), rfl, (sp_CWe hra hrb ht0 ht1 ht2 he0 he1 hzm3 hzm4 hzm5 rfl)⟩
    · subst e_9
      refine j_callV (q := (RX4, TX4, 5)) dX8_areLike_12 kX4_hasPairsOf lX8_230 inX4_hasPairsOf seX4_hasPairsOf rfl rfl (z_frame [21, 22, 23, 24, 25, 16, 17, 18, 19, 20] rfl (by decide) (Nat.le_of_ble_eq_true rfl) (c_X4_hasPairsOf_e hl true _ _ _ (sp_T S 2) false _ _ _ (sp_T S 1) ht2 ht1)) (Nat.le_of_ble_eq_true rfl) ⟨(Nat.le_of_ble_eq_true rfl), (Nat.le_of_ble_eq_true rfl)⟩ rfl (Nat.le_of_ble_eq_true rfl) rfl rfl (fun _ _ h => h.elim) ?_
      rintro _ _ ⟨_, _, ⟨rfl, rfl⟩, rfl, rfl⟩
      refine j_ws (L' := z_cw _ _ _ _ _ _ _ _ _ _ _ _ _ _ _ _ _ _ _ _ _ _ _ _ _ _ _ _ _ _ _ _ _ _ _ _ _ _ _ _ _ _ _ _ _ _ _ _ _ _ _ _ _ _ _ _ []) (by decide) rfl rfl ?_
      refine j_iret dX8_areLike_15 rfl (z_bn _) ?_ (Nat.le_of_ble_eq_true rfl) (Nat.le_of_ble_eq_true rfl)
      refine ⟨rfl, (by first | exact z_cwl | rfl), ?_⟩
      try rw [sp_i1]
      try rw [sp_i2]
      exact ⟨sp_k33_0 (Or.inr (Or.inr rfl)) (Or.inr (Or.inl rfl)), rfl, (sp_CWe hra hrb ht0 ht1 ht2 he0 he1 hzm3 hzm4 hzm5 rfl)⟩
    · subst e_9
      refine j_callV (q := (RX4, TX4, 5)) dX8_areLike_12 kX4_hasPairsOf lX8_230 inX4_hasPairsOf seX4_hasPairsOf rfl rfl (z_frame [21, 22, 23, 24, 25] rfl (by decide) (Nat.le_of_ble_eq_true rfl) (c_X4_hasPairsOf_s_e hl true _ _ _ (sp_T S 2) ht2)) (Nat.le_of_ble_eq_true rfl) ⟨(Nat.le_of_ble_eq_true rfl), (Nat.le_of_ble_eq_true rfl)⟩ rfl (Nat.le_of_ble_eq_true rfl) rfl rfl (fun _ _ h => h.elim) ?_
      rintro _ _ ⟨_, _, ⟨rfl, rfl⟩, rfl, rfl⟩
      refine j_ws (L' := z_cw _ _ _ _ _ _ _ _ _ _ _ _ _ _ _ _ _ _ _ _ _ _ _ _ _ _ _ _ _ _ _ _ _ _ _ _ _ _ _ _ _ _ _ _ _ _ _ _ _ _ _ _ _ _ _ _ []) (by decide) rfl rfl ?_
      refine j_iret dX8_areLike_15 rfl (z_bn _) ?_ (Nat.le_of_ble_eq_true rfl) (Nat.le_of_ble_eq_true rfl)
      refine ⟨rfl, (by first | exact z_cwl | rfl), ?_⟩
      try rw [sp_i2]
      exact ⟨sp_k33_0 (Or.inr (Or.inr rfl)) (Or.inr (Or.inr rfl)), rfl, (sp_CWe hra hrb ht0 ht1 ht2 he0 he1 hzm3 hzm4 hzm5 rfl)⟩
end ZCp3
