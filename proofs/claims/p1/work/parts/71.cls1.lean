section ZM0
section ZL1
variable {G : z_G} {l : Launch}
set_option maxRecDepth 100000 in
set_option maxHeartbeats 4000000 in
theorem c_X6_add (hl : l.stackTraces = false) (f : Nat → Int32) (p : Int32) : z_CF G l mX6_add 10 0 0 [.inr (11, [.ref 1]), z_ia 7 f] [.ref 0, .int p] (fun v L => v = none ∧ ∃ f' : Nat → Int32, L = [.inr (11, [.ref 1]), z_ia 7 f']) := by
  refine z_body hl (by decide) rfl (Nat.le_of_ble_eq_true rfl) ?_
  show z_J G l mX6_add (z_SF 10 0 0 [.inr (11, [.ref 1]), z_ia 7 f] (fun v L => v = none ∧ ∃ f' : Nat → Int32, L = [.inr (11, [.ref 1]), z_ia 7 f'])) 0 [(0, _), (1, _)] [] _ 0 0
  refine j_iload_n dX6_add_0 rfl ?_
  refine j_if_lt (tgt := 23) dX6_add_1 (by decide) (fun c_1 => ?_) (fun c_1 => ?_)
  · refine j_vret dX6_add_23 rfl ?_ (Nat.le_of_ble_eq_true rfl) (Nat.le_of_ble_eq_true rfl)
    exact ⟨rfl, rfl, rfl, _, rfl⟩
  · refine j_iload_n dX6_add_4 rfl ?_
    refine j_aload_n dX6_add_5 rfl rfl ?_
    refine j_getf dX6_add_6 fX6_9 rfl rfl ?_
    refine j_alen dX6_add_9 rfl rfl rfl ?_
    refine j_icmp_ge (tgt := 23) dX6_add_10 (by decide) (fun c_10 => ?_) (fun c_10 => ?_)
    · refine j_vret dX6_add_23 rfl ?_ (Nat.le_of_ble_eq_true rfl) (Nat.le_of_ble_eq_true rfl)
      exact ⟨rfl, rfl, rfl, _, rfl⟩
    · refine j_aload_n dX6_add_13 rfl rfl ?_
      refine j_getf dX6_add_14 fX6_9 rfl rfl ?_
      refine j_iload_n dX6_add_17 rfl ?_
      refine j_dup2 dX6_add_18 rfl rfl ?_
      refine j_ld dX6_add_19 rfl (z_in c_1 c_10 (by decide)) ?_
      refine j_iconst (v := 1) dX6_add_20 (by decide) ?_
      refine j_iadd dX6_add_21 ?_
      refine j_sto (w' := ([.inr (11, [_]), z_ia 7 _], z_no)) dX6_add_22 rfl (z_in c_1 c_10 (by decide)) rfl ?_
      refine j_vret dX6_add_23 rfl ?_ (Nat.le_of_ble_eq_true rfl) (Nat.le_of_ble_eq_true rfl)
      exact ⟨rfl, rfl, rfl, _, rfl⟩
end ZL1
end ZM0
section ZM1
section ZL4
variable {G : z_G} {l : Launch}
set_option maxRecDepth 100000 in
set_option maxHeartbeats 8000000 in
theorem c_X6_init (hl : l.stackTraces = false)  : z_CN G l mX6_init 10 1 7 1 [.inr (11, [.null])] [.ref 0] (fun v L => v = none ∧ ∃ c : Nat → Int32, L = [.inr (11, [.ref 1]), z_ia 7 c]) := by
  refine z_body hl (by decide) rfl (Nat.le_of_ble_eq_true rfl) ?_
  show z_J G l mX6_init (z_SN 10 1 7 1 [.inr (11, [.null])] (fun v L => v = none ∧ ∃ c : Nat → Int32, L = [.inr (11, [.ref 1]), z_ia 7 c])) 0 [(0, _)] [] _ 0 0
  refine j_aload_n dX6_init_0 rfl rfl ?_
  refine j_objI dX6_init_1 oX6_3 z_oi1 z_oi2 (Nat.le_of_ble_eq_true rfl) (Nat.le_of_ble_eq_true rfl) ?_
  refine j_aload_n dX6_init_4 rfl rfl ?_
  refine j_bipush (v := 7) dX6_init_5 (by decide) ?_
  refine j_newa (kd := 0) (N := 7) (w' := ([.inr (11, [_]), _], z_no)) (n := 1) dX6_init_7 rfl rfl arc_int ⟨rfl, fun _ _ h => h⟩ (by decide) rfl (by decide) rfl (z_al_l rfl rfl) (Nat.le_of_ble_eq_true rfl) (Nat.le_of_ble_eq_true rfl) ?_
  refine j_putF (w' := ([.inr (11, [_]), _], z_no)) dX6_init_9 fX6_9 tX6_0 rfl (z_dc rfl rfl (z_w 103 ((lwt_1_1 28).trans rfl) (by decide +kernel))) rfl (Or.inr ⟨_, rfl⟩) rfl ?_
  refine j_vret dX6_init_12 rfl ?_ (Nat.le_of_ble_eq_true rfl) (Nat.le_of_ble_eq_true rfl)
  exact ⟨rfl, (Nat.le_of_ble_eq_true rfl), rfl, _, rfl⟩
set_option maxRecDepth 100000 in
set_option maxHeartbeats 8000000 in
theorem c_X0_init (hl : l.stackTraces = false)  : z_CN G l mX0_init 11 1 10 1 [.inr (5, [.null, .int 0, .int 0, .int 0, .int 0, .int 0])] [.ref 0] (fun v L => v = none ∧ ∃ f : Nat → Int32, L = [.inr (5, [.ref 1, .int 0, .int 0, .int 0, .int (-1), .int (-1000)]), z_ia 10 f]) := by
  refine z_body hl (by decide) rfl (Nat.le_of_ble_eq_true rfl) ?_
  show z_J G l mX0_init (z_SN 11 1 10 1 [.inr (5, [.null, .int 0, .int 0, .int 0, .int 0, .int 0])] (fun v L => v = none ∧ ∃ f : Nat → Int32, L = [.inr (5, [.ref 1, .int 0, .int 0, .int 0, .int (-1), .int (-1000)]), z_ia 10 f])) 0 [(0, _)] [] _ 0 0
  refine j_aload_n dX0_init_0 rfl rfl ?_
  refine j_objI dX0_init_1 oX0_3 z_oi1 z_oi2 (Nat.le_of_ble_eq_true rfl) (Nat.le_of_ble_eq_true rfl) ?_
  refine j_aload_n dX0_init_4 rfl rfl ?_
  refine j_bipush (v := 10) dX0_init_5 (by decide) ?_
  refine j_newa (kd := 0) (N := 10) (w' := ([.inr (5, [_, _, _, _, _, _]), _], z_no)) (n := 1) dX0_init_7 rfl rfl arc_int ⟨rfl, fun _ _ h => h⟩ (by decide) rfl (by decide) rfl (z_al_l rfl rfl) (Nat.le_of_ble_eq_true rfl) (Nat.le_of_ble_eq_true rfl) ?_
  refine j_putF (w' := ([.inr (5, [_, _, _, _, _, _]), _], z_no)) dX0_init_9 fX0_9 tX0_0 rfl (z_dc rfl rfl (z_w 163 ((lwt_1_3 28).trans rfl) (by decide +kernel))) rfl (Or.inr ⟨_, rfl⟩) rfl ?_
  refine j_aload_n dX0_init_12 rfl rfl ?_
  refine j_iconst (v := (-1)) dX0_init_13 (by decide) ?_
  refine j_put (w' := ([.inr (5, [_, _, _, _, _, _]), _], z_no)) dX0_init_14 fX0_15 tX0_4 rfl ⟨rfl, rfl⟩ rfl ?_
  refine j_aload_n dX0_init_17 rfl rfl ?_
  refine j_sipush (v := (-1000)) dX0_init_18 (by decide) ?_
  refine j_put (w' := ([.inr (5, [_, _, _, _, _, _]), _], z_no)) dX0_init_21 fX0_19 tX0_5 rfl ⟨rfl, rfl⟩ rfl ?_
  refine j_vret dX0_init_24 rfl ?_ (Nat.le_of_ble_eq_true rfl) (Nat.le_of_ble_eq_true rfl)
  exact ⟨rfl, (Nat.le_of_ble_eq_true rfl), rfl, _, rfl⟩
set_option maxRecDepth 100000 in
set_option maxHeartbeats 8000000 in
theorem c_X7_init_X3 (hl : l.stackTraces = false) (k u to by9 a : Int32) (c : Nat → Int32) : z_CF G l mX7_init 12 0 0 [.inr (8, [.null, .int k, .int u, .int to, .int by9, .int a]), .inr (11, [.ref 2]), z_ia 7 c] [.ref 0, .ref 1] (fun v L => v = none ∧ ∃ c' : Nat → Int32, L = [.inr (8, [.ref 1, .int k, .int u, .int to, .int by9, .int a]), .inr (11, [.ref 2]), z_ia 7 c']) := by
  refine z_body hl (by decide) rfl (Nat.le_of_ble_eq_true rfl) ?_
  show z_J G l mX7_init (z_SF 12 0 0 [.inr (8, [.null, .int k, .int u, .int to, .int by9, .int a]), .inr (11, [.ref 2]), z_ia 7 c] (fun v L => v = none ∧ ∃ c' : Nat → Int32, L = [.inr (8, [.ref 1, .int k, .int u, .int to, .int by9, .int a]), .inr (11, [.ref 2]), z_ia 7 c'])) 0 [(0, _), (1, _)] [] _ 0 0
  refine j_aload_n dX7_init_0 rfl rfl ?_
  refine j_objI dX7_init_1 oX7_3 z_oi1 z_oi2 (Nat.le_of_ble_eq_true rfl) (Nat.le_of_ble_eq_true rfl) ?_
  refine j_aload_n dX7_init_4 rfl rfl ?_
  refine j_aload_n dX7_init_5 rfl rfl ?_
  refine j_putF (w' := ([.inr (8, [_, _, _, _, _, _]), .inr (11, [_]), z_ia 7 _], z_no)) dX7_init_6 fX7_9_X3 tX3_0 rfl (z_dc rfl rfl (z_w 254 ((lwt_1_6 29).trans rfl) (by decide +kernel))) rfl (Or.inl ⟨_, rfl⟩) rfl ?_
  refine j_aload_n dX7_init_9 rfl rfl ?_
  refine j_iconst (v := 0) dX7_init_10 (by decide) ?_
  refine j_callV (q := (RX6, TX6, 1)) dX7_init_11 kX6_add lX7_15 inX6_add seX6_add rfl rfl (z_frame [1, 2] rfl (by decide) (Nat.le_of_ble_eq_true rfl) (c_X6_add hl _ _)) (Nat.le_of_ble_eq_true rfl) ⟨(Nat.le_of_ble_eq_true rfl), (Nat.le_of_ble_eq_true rfl)⟩ rfl (Nat.le_of_ble_eq_true rfl) rfl rfl (fun _ _ h => h.elim) ?_
  rintro _ _ ⟨_, _, ⟨rfl, _, rfl⟩, rfl, rfl⟩
  refine j_ws (L' := [.inr (8, [_, _, _, _, _, _]), .inr (11, [_]), z_ia 7 _]) (by decide) rfl rfl ?_
  refine j_vret dX7_init_14 rfl ?_ (Nat.le_of_ble_eq_true rfl) (Nat.le_of_ble_eq_true rfl)
  exact ⟨rfl, rfl, rfl, _, rfl⟩
set_option maxRecDepth 100000 in
set_option maxHeartbeats 8000000 in
theorem c_X3_init (hl : l.stackTraces = false) (a b e : Int32) : z_CN G l mX3_init 13 2 8 2 [.inr (8, [.null, .int 0, .int 0, .int 0, .int 0, .int 0])] [.ref 0, .int a, .int b, .int e] (fun v L => v = none ∧ ∃ c : Nat → Int32, L = [.inr (8, [.ref 1, .int 0, .int 0, .int b, .int e, .int a]), .inr (11, [.ref 2]), z_ia 7 c]) := by
  refine z_body hl (by decide) rfl (Nat.le_of_ble_eq_true rfl) ?_
  show z_J G l mX3_init (z_SN 13 2 8 2 [.inr (8, [.null, .int 0, .int 0, .int 0, .int 0, .int 0])] (fun v L => v = none ∧ ∃ c : Nat → Int32, L = [.inr (8, [.ref 1, .int 0, .int 0, .int b, .int e, .int a]), .inr (11, [.ref 2]), z_ia 7 c])) 0 [(0, _), (1, _), (2, _), (3, _)] [] _ 0 0
  refine j_aload_n dX3_init_0 rfl rfl ?_
  refine j_new (w' := ([.inr (8, [_, _, _, _, _, _]), _], z_no)) (n := 1) dX3_init_1 nX3_1 rfl (z_al_l rfl rfl) (Nat.le_of_ble_eq_true rfl) (Nat.le_of_ble_eq_true rfl) ?_
  refine j_dup dX3_init_4 rfl ?_
  refine j_callIN dX3_init_5 kX6_init rfl lX3_3 inX6_init rfl (z_frameN [1] rfl (by decide) (Nat.le_of_ble_eq_true rfl) (Nat.le_of_ble_eq_true rfl) (c_X6_init hl)) (Nat.le_of_ble_eq_true rfl) ⟨(Nat.le_of_ble_eq_true rfl), (Nat.le_of_ble_eq_true rfl)⟩ rfl (Nat.le_of_ble_eq_true rfl) rfl rfl (fun _ _ h => h.elim) ?_
  rintro _ _ ⟨_, _, ⟨rfl, _, rfl⟩, rfl, rfl⟩
  refine j_w ([.inr (8, [_, _, _, _, _, _]), _, _], z_no) rfl ?_
  refine j_callI dX3_init_8 kX7_init rfl lX3_7 inX7_init rfl (z_frame [0, 1, 2] rfl (by decide) (Nat.le_of_ble_eq_true rfl) (c_X7_init_X3 hl _ _ _ _ _ _)) (Nat.le_of_ble_eq_true rfl) ⟨(Nat.le_of_ble_eq_true rfl), (Nat.le_of_ble_eq_true rfl)⟩ rfl (Nat.le_of_ble_eq_true rfl) rfl rfl (fun _ _ h => h.elim) ?_
  rintro _ _ ⟨_, _, ⟨rfl, _, rfl⟩, rfl, rfl⟩
  refine j_ws (L' := [.inr (8, [_, _, _, _, _, _]), .inr (11, [_]), z_ia 7 _]) (by decide) rfl rfl ?_
  refine j_aload_n dX3_init_11 rfl rfl ?_
  refine j_iload_n dX3_init_12 rfl ?_
  refine j_put (w' := ([.inr (8, [_, _, _, _, _, _]), .inr (11, [_]), z_ia 7 _], z_no)) dX3_init_13 fX3_12 tX3_5 rfl ⟨rfl, rfl⟩ rfl ?_
  refine j_aload_n dX3_init_16 rfl rfl ?_
  refine j_iload_n dX3_init_17 rfl ?_
  refine j_putF (w' := ([.inr (8, [_, _, _, _, _, _]), .inr (11, [_]), z_ia 7 _], z_no)) dX3_init_18 fX3_18 tX3_3 rfl (z_dc rfl rfl (z_w 1161 ((lwt_5_5 6).trans rfl) (by decide +kernel))) rfl ⟨rfl, rfl⟩ rfl ?_
  refine j_aload_n dX3_init_21 rfl rfl ?_
  refine j_iload_n dX3_init_22 rfl ?_
  refine j_putF (w' := ([.inr (8, [_, _, _, _, _, _]), .inr (11, [_]), z_ia 7 _], z_no)) dX3_init_23 fX3_21 tX3_4 rfl (z_dc rfl rfl (z_w 1162 ((lwt_5_5 7).trans rfl) (by decide +kernel))) rfl ⟨rfl, rfl⟩ rfl ?_
  refine j_vret dX3_init_26 rfl ?_ (Nat.le_of_ble_eq_true rfl) (Nat.le_of_ble_eq_true rfl)
  exact ⟨rfl, (Nat.le_of_ble_eq_true rfl), rfl, _, rfl⟩
end ZL4
end ZM1
section ZM2
section ZL5
variable {G : z_G} {l : Launch}
theorem z_m20z : z_m20 0 := by unfold z_m20; decide
set_option maxRecDepth 100000 in
set_option maxHeartbeats 8000000 in
theorem c_X8_oneIf_b (hl : l.stackTraces = false) (w : z_W) (b : Bool) : z_Con G l mX8_oneIf 10 0 0 w [.int (z_bi b)] (fun v w9 => (v = some (.int (z_bi b))) ∧ w9 = w) (fun _ _ => False) := by
  refine z_body hl (by decide) rfl (Nat.le_of_ble_eq_true rfl) ?_
  show z_J G l mX8_oneIf ((10, 0, 0, w, (fun v w9 => (v = some (.int (z_bi b))) ∧ w9 = w), fun _ _ => False)) 0 [(0, _)] [] _ 0 0
  refine j_iload_n dX8_oneIf_0 rfl ?_
  refine j_if_eq (tgt := 8) dX8_oneIf_1 (by decide) (fun c_1 => ?_) (fun c_1 => ?_)
  · refine j_iconst (v := 0) dX8_oneIf_8 (by decide) ?_
    refine j_iret dX8_oneIf_9 rfl rfl ?_ (Nat.le_of_ble_eq_true rfl) (Nat.le_of_ble_eq_true rfl)
    first | exact ⟨by rw [z_bF c_1]; rfl, rfl⟩ | exact ⟨by rw [z_bt c_1]; rfl, rfl⟩
  · refine j_iconst (v := 1) dX8_oneIf_4 (by decide) ?_
    refine j_goto (tgt := 9) dX8_oneIf_5 (by decide) ?_
    refine j_iret dX8_oneIf_9 rfl rfl ?_ (Nat.le_of_ble_eq_true rfl) (Nat.le_of_ble_eq_true rfl)
    first | exact ⟨by rw [z_bF c_1]; rfl, rfl⟩ | exact ⟨by rw [z_bt c_1]; rfl, rfl⟩
end ZL5
end ZM2
section ZM3
section ZLift
variable {G : z_G} {l : Launch}
theorem z_s_id {w : z_W} {n : Nat} {e : z_E} (h : z_g w n = some e) : z_s w n e = w := by
  obtain ⟨L, P⟩ := w
  cases hb : Nat.blt n 1000 with
  | true =>
    simp only [z_g, hb, cond] at h
    simp only [z_s, hb, cond]
    obtain ⟨h1, h2⟩ := List.getElem?_eq_some_iff.mp h
    rw [← h2, List.set_getElem_self h1]
  | false =>
    simp only [z_g, hb, cond] at h
    simp only [z_s, hb, cond]
    refine congrArg (Prod.mk L) (funext fun m => ?_)
    cases hm : Nat.beq m n with
    | true => rw [Nat.eq_of_beq_eq_true hm, h]
    | false => rfl
theorem z_ss_id : ∀ {th : List Nat} {es : List z_E} {w : z_W}, th.map (z_g w) = es.map some → z_ss w th es = w
  | [], es, w, _ => by unfold z_ss; rfl
  | n :: th, [], w, h => by simp at h
  | n :: th, e :: es, w, h => by
    simp only [List.map_cons, List.cons.injEq] at h
    unfold z_ss
    rw [z_s_id h.1]
    exact z_ss_id h.2
theorem z_rof {y : z_M} {rk mc ms : Nat} {L0 : List z_E} {av : List Value} {Q : Option Value → List z_E → Prop} {Qv : Option Value → Prop} {w : z_W} (th : List Nat) (hth : th.map (z_g w) = L0.map (fun e => some (z_re th e))) (hnd : th.Nodup) (hl : L0.length ≤ 1000) (h : z_CF G l y rk mc ms L0 av Q) (hQ : ∀ v L', Q v L' → Qv v ∧ L' = L0) : z_Con G l y rk mc ms w (av.map (z_rn th)) (fun v w9 => (∃ v0, Qv v0 ∧ v = v0.map (z_rn th)) ∧ w9 = w) (fun _ _ => False) := by
  refine z_weak (z_frame th hth hnd hl h) (fun v w' hq => ?_) (fun _ _ h => h)
  obtain ⟨v0, L', q, hv, rfl⟩ := hq
  obtain ⟨q1, rfl⟩ := hQ _ _ q
  refine ⟨⟨v0, q1, hv⟩, z_ss_id ?_⟩
  rw [hth, List.map_map]
  rfl
theorem z_idth {L : List z_E} {P : Nat → Option z_E} {N : Nat} (hN : L.length = N) (hN2 : N ≤ 1000) (hc : L.map (z_re (List.range N)) = L) : (List.range N).map (z_g (L, P)) = L.map (fun e => some (z_re (List.range N) e)) := by
  have e1 : L.map (fun e => some (z_re (List.range N) e)) = (L.map (z_re (List.range N))).map some := by rw [List.map_map]; rfl
  rw [e1, hc]
  apply List.ext_getElem?
  intro i
  rw [List.getElem?_map, List.getElem?_map]
  by_cases hi : i < N
  · rw [List.getElem?_range hi]
    have hb : Nat.blt i 1000 = true := z_blt (by omega)
    show some (z_g (L, P) i) = Option.map some L[i]?
    simp only [z_g, hb, cond]
    rw [List.getElem?_eq_getElem (by omega)]
    rfl
  · rw [List.getElem?_eq_none (by rw [List.length_range]; omega), List.getElem?_eq_none (by omega)]
    rfl
theorem z_ssR {P : Nat → Option z_E} : ∀ (es X A : List z_E), X.length = es.length → A.length + es.length ≤ 1000 → z_ss (A ++ X, P) (List.range' A.length es.length) es = (A ++ es, P)
  | [], [], A, _, _ => by unfold z_ss; rfl
  | [], x :: X, A, h, _ => by simp at h
  | e :: es, [], A, h, _ => by simp at h
  | e :: es, x :: X, A, h, hl => by
    simp only [List.length_cons, Nat.add_right_cancel_iff] at h
    simp only [List.length_cons] at hl
    have hb : Nat.blt A.length 1000 = true := z_blt (by omega)
    have e1 : z_s (A ++ x :: X, P) A.length e = ((A ++ [e]) ++ X, P) := by
      simp only [z_s, hb, cond]
      rw [List.set_append_right _ _ (Nat.le_refl _), Nat.sub_self, List.append_assoc]
      rfl
    have e2 := z_ssR (P := P) es X (A ++ [e]) h (by rw [List.length_append]; show A.length + 1 + _ ≤ 1000; omega)
    rw [List.length_cons, List.range'_succ]
    unfold z_ss
    rw [e1]
    have e3 : (A ++ [e]).length = A.length + 1 := by rw [List.length_append]; rfl
    rw [e3] at e2
    rw [e2, List.append_assoc]
    rfl
theorem z_ssR0 {P : Nat → Option z_E} {es X : List z_E} {N : Nat} (h : X.length = N) (h2 : es.length = N) (hl : N ≤ 1000) : z_ss (X, P) (List.range N) es = (es, P) := by
  have e := z_ssR (P := P) es X [] (by omega) (by show 0 + _ ≤ _; omega)
  rw [List.range_eq_range', ← h2]
  exact e
theorem z_lift {y : z_M} {rk mc ms : Nat} {L0 : List z_E} {P : Nat → Option z_E} {av : List Value} {Q : Option Value → List z_E → Prop} {X : String → List z_E → Prop} (N : Nat) (hN : L0.length = N) (hN2 : N ≤ 1000) (hc : L0.map (z_re (List.range N)) = L0) (hav : av.map (z_rn (List.range N)) = av) (h : z_CX G l y rk mc ms L0 av Q X)
    (hQ : ∀ v L', Q v L' → L'.length = N ∧ L'.map (z_re (List.range N)) = L' ∧ v.map (z_rn (List.range N)) = v) (hX : ∀ E L', X E L' → L'.length = N ∧ L'.map (z_re (List.range N)) = L') : z_Con G l y rk mc ms (L0, P) av (fun v w => Q v w.1 ∧ w.2 = P) (fun E w => X E w.1 ∧ w.2 = P) := by
  have h0 := z_frameX (w := (L0, P)) (List.range N) (z_idth hN hN2 hc) List.nodup_range (by omega) h
  rw [hav] at h0
  refine z_weak h0 (fun v w' hq => ?_) (fun E w' hx => ?_)
  · obtain ⟨v0, L', q1, rfl, rfl⟩ := hq
    obtain ⟨a1, a2, a3⟩ := hQ v0 L' q1
    rw [a2, a3, z_ssR0 hN a1 hN2]
    exact ⟨q1, rfl⟩
  · obtain ⟨L', q1, rfl⟩ := hx
    obtain ⟨a1, a2⟩ := hX E L' q1
    rw [a2, z_ssR0 hN a1 hN2]
    exact ⟨q1, rfl⟩
theorem z_mc {f : z_E → z_E} {x : z_E} {xs : List z_E} (h : f x = x) (t : xs.map f = xs) : (x :: xs).map f = x :: xs := by rw [List.map_cons, h, t]
theorem z_mn {f : z_E → z_E} : ([] : List z_E).map f = [] := rfl
theorem z_rn_u {th : List Nat} {f : Nat → Value} {k : Nat} {x : Value} : (fun j => z_rn th (z_u f k x j)) = z_u (fun j => z_rn th (f j)) k (z_rn th x) := funext fun j => by
  unfold z_u
  cases Nat.beq j k <;> rfl
theorem z_u2R {th : List Nat} {k n a b : Nat} (ha : z_rn th (.ref a) = .ref a) (hb : z_rn th (.ref b) = .ref b) : z_re th (.inl (k, n, z_u (z_u (fun _ => .null) 0 (.ref a)) 1 (.ref b))) = .inl (k, n, z_u (z_u (fun _ => .null) 0 (.ref a)) 1 (.ref b)) := by
  unfold z_re
  simp only [z_rn_u, ha, hb]
  rfl
theorem z_u3R {th : List Nat} {k n a b c : Nat} (ha : z_rn th (.ref a) = .ref a) (hb : z_rn th (.ref b) = .ref b) (hc : z_rn th (.ref c) = .ref c) : z_re th (.inl (k, n, z_u (z_u (z_u (fun _ => .null) 0 (.ref a)) 1 (.ref b)) 2 (.ref c))) = .inl (k, n, z_u (z_u (z_u (fun _ => .null) 0 (.ref a)) 1 (.ref b)) 2 (.ref c)) := by
  unfold z_re
  simp only [z_rn_u, ha, hb, hc]
  rfl
set_option maxRecDepth 100000 in
set_option maxHeartbeats 8000000 in
theorem z_cwR {rf : Int32} {kn : Int32} {ma : Int32} {xa : Bool} {fa : Nat → Int32} {ca : Nat → Int32} {mb : Int32} {xb : Bool} {fb : Nat → Int32} {cb : Nat → Int32} {mt : Int32} {xt : Bool} {ft : Nat → Int32} {ct : Nat → Int32} {f0 : Nat → Int32} {g0 : Nat → Int32} {c0 : Nat → Int32} {m0 : Int32} {s0 : Int32} {f1 : Nat → Int32} {g1 : Nat → Int32} {c1 : Nat → Int32} {m1 : Int32} {s1 : Int32} {f2 : Nat → Int32} {g2 : Nat → Int32} {c2 : Nat → Int32} {m2 : Int32} {s2 : Int32} {f3 : Nat → Int32} {g3 : Nat → Int32} {c3 : Nat → Int32} {m3 : Int32} {s3 : Int32} {f4 : Nat → Int32} {g4 : Nat → Int32} {c4 : Nat → Int32} {m4 : Int32} {s4 : Int32} {f5 : Nat → Int32} {g5 : Nat → Int32} {c5 : Nat → Int32} {m5 : Int32} {s5 : Int32} {ek0 : Int32} {em0 : Int32} {es0 : Int32} {el0 : Int32} {b0 : Int32} {ef0 : Nat → Int32} {ek1 : Int32} {em1 : Int32} {es1 : Int32} {el1 : Int32} {b1 : Int32} {ef1 : Nat → Int32} : (z_cw rf kn ma xa fa ca mb xb fb cb mt xt ft ct f0 g0 c0 m0 s0 f1 g1 c1 m1 s1 f2 g2 c2 m2 s2 f3 g3 c3 m3 s3 f4 g4 c4 m4 s4 f5 g5 c5 m5 s5 ek0 em0 es0 el0 b0 ef0 ek1 em1 es1 el1 b1 ef1 []).map (z_re (List.range 51)) = z_cw rf kn ma xa fa ca mb xb fb cb mt xt ft ct f0 g0 c0 m0 s0 f1 g1 c1 m1 s1 f2 g2 c2 m2 s2 f3 g3 c3 m3 s3 f4 g4 c4 m4 s4 f5 g5 c5 m5 s5 ek0 em0 es0 el0 b0 ef0 ek1 em1 es1 el1 b1 ef1 [] := by
  rw [z_cw, List.append_nil]
  exact (z_mc rfl (z_mc (z_u2R rfl rfl) (z_mc rfl (z_mc rfl (z_mc rfl (z_mc rfl (z_mc rfl (z_mc rfl (z_mc rfl (z_mc rfl (z_mc rfl (z_mc rfl (z_mc rfl (z_mc rfl (z_mc rfl (z_mc (z_u3R rfl rfl rfl) (z_mc rfl (z_mc rfl (z_mc rfl (z_mc rfl (z_mc rfl (z_mc rfl (z_mc rfl (z_mc rfl (z_mc rfl (z_mc rfl (z_mc (z_u2R rfl rfl) (z_mc rfl (z_mc rfl (z_mc rfl (z_mc rfl (z_mc rfl (z_mc rfl (z_mc rfl (z_mc rfl (z_mc rfl (z_mc rfl (z_mc rfl (z_mc rfl (z_mc rfl (z_mc (z_u3R rfl rfl rfl) (z_mc rfl (z_mc rfl (z_mc rfl (z_mc rfl (z_mc rfl (z_mc rfl (z_mc rfl (z_mc rfl (z_mc rfl (z_mc rfl z_mn)))))))))))))))))))))))))))))))))))))))))))))))))))
def z_Wn (kn : Int32) (L : List z_E) : Prop := ∃ (xa xb : Bool) (b0 b1 : Int32), z_Wk kn xa xb b0 b1 L
def z_hi (w w9 : z_W) : Prop := (∀ n, 1000 ≤ n → (n % 64 < 56 ∨ 58 < n % 64) → z_g w9 n = z_g w n) ∧ (z_fn w → z_fn w9)
theorem z_hi.rf {w : z_W} : z_hi w w := ⟨fun _ _ _ => rfl, id⟩
theorem z_hi.tr {a b c : z_W} (h : z_hi a b) (h2 : z_hi b c) : z_hi a c := ⟨fun n h3 h4 => (h2.1 n h3 h4).trans (h.1 n h3 h4), fun z => h2.2 (h.2 z)⟩
theorem z_hi.of {w w9 : z_W} (h1 : w9.1.length = 51) (h2 : w9.2 = w.2) : z_hi w w9 := ⟨fun n hn _ => by
  have hb : Nat.blt n 1000 = false := z_bltF hn
  simp only [z_g, hb, cond]
  rw [h2], fun hf => ⟨by omega, by rw [h2]; exact hf.2⟩⟩
theorem z_mst.hi {w w' : z_W} {s : z_Z} (h : z_mst w s) (hw : z_hi w w') : z_mst w' s := by
  obtain ⟨h0, h1, h2, h3, ⟨f4, h4, h4'⟩, h5, h6, ⟨f7, h7, h7'⟩, h8, h9, h10, h11, h12⟩ := h
  have k : ∀ r, r < 56 → ∀ n, 1000 ≤ n → n % 64 = r → z_g w' n = z_g w n := fun r hr n h9 hn => hw.1 n h9 (by omega)
  exact ⟨hw.2 h0, (k 40 (by omega) 1000 (by omega) (by omega)).trans h1, z_li.m (k 41 (by omega)) h2, (k 42 (by omega) 1002 (by omega) (by omega)).trans h3, ⟨f4, (k 43 (by omega) 1003 (by omega) (by omega)).trans h4, h4'⟩, fun i hi => (k (44 + i) (by omega) (1004 + i) (by omega) (by omega)).trans (h5 i hi), z_li.m (k 47 (by omega)) h6, ⟨f7, (k 48 (by omega) 1008 (by omega) (by omega)).trans h7, h7'⟩, fun i hi => (k (49 + i) (by omega) (1009 + i) (by omega) (by omega)).trans (h8 i hi), fun t ht => z_li.m (k (51 + t) (by omega)) (h9 t ht), fun i hi => ⟨z_li.m (k (54 + i) (by omega)) (h10 i hi).1, (h10 i hi).2⟩, fun i hi => ⟨z_li.m (k (11 + i) (by omega)) (h11 i hi).1, (h11 i hi).2⟩, fun t ht => z_pr.m (k (14 + t) (by omega)) (h12 t ht)⟩
def z_lf (w w9 : z_W) : Prop := w9.1 = w.1 ∧ z_hi w w9
theorem z_lf.rf {w : z_W} : z_lf w w := ⟨rfl, z_hi.rf⟩
theorem z_lf.tr {a b c : z_W} (h : z_lf a b) (h2 : z_lf b c) : z_lf a c := ⟨h2.1.trans h.1, h.2.tr h2.2⟩
theorem z_fw.lf {ρ : Nat} {w w9 : z_W} (h : z_fw ρ w w9) (hρ : 56 ≤ ρ ∧ ρ ≤ 58) : z_lf w w9 := ⟨h.1, fun n h1 h2 => h.2.2 n (Or.inr (by omega)), h.2.1⟩
theorem z_lf.g {w w9 : z_W} {n : Nat} {e : z_E} (h : z_lf w w9) (hn : n < 1000) (hg : z_g w n = some e) : z_g w9 n = some e := by
  have hb : Nat.blt n 1000 = true := z_blt hn
  simp only [z_g, hb, cond] at hg ⊢
  rw [h.1]
  exact hg
theorem z_g1 {w : z_W} {L : List z_E} {n : Nat} {e : z_E} (h1 : w.1 = L) (hn : n < 1000) (hL : L[n]? = some e) : z_g w n = some e := by
  have hb : Nat.blt n 1000 = true := z_blt hn
  simp only [z_g, hb, cond]
  rw [h1]
  exact hL
end ZLift
end ZM3
section ZM4
section ZCg
variable {G : z_G} {l : Launch}
theorem z_thc {w : z_W} {th ns : List Nat} {n : Nat} {e : z_E} {es : List z_E} (h : z_g w n = some (z_re th e)) (t : ns.map (z_g w) = es.map (fun e => some (z_re th e))) : (n :: ns).map (z_g w) = (e :: es).map (fun e => some (z_re th e)) := by rw [List.map_cons, List.map_cons, h, t]
theorem z_liftro {y : z_M} {rk mc ms : Nat} {L0 : List z_E} {av : List Value} {Q : Option Value → List z_E → Prop} {X : String → List z_E → Prop} {Qv : Option Value → Prop} {Xv : String → Prop} {w : z_W} (N : Nat) (h1 : w.1 = L0) (hN : L0.length = N) (hN2 : N ≤ 1000) (hc : L0.map (z_re (List.range N)) = L0) (hav : av.map (z_rn (List.range N)) = av) (h : z_CX G l y rk mc ms L0 av Q X) (hQ : ∀ v L', Q v L' → Qv v ∧ L' = L0) (hQv : ∀ v, Qv v → v.map (z_rn (List.range N)) = v) (hX : ∀ E L', X E L' → Xv E ∧ L' = L0) : z_Con G l y rk mc ms w av (fun v w9 => Qv v ∧ w9 = w) (fun E w9 => Xv E ∧ w9 = w) := by
  obtain ⟨L, P⟩ := w
  have h1 : L = L0 := h1
  subst h1
  refine z_weak (z_lift N hN hN2 hc hav h (fun v L' q => ?_) (fun E L' q => ?_)) (fun v w' q => ?_) (fun E w' q => ?_)
  · obtain ⟨q1, rfl⟩ := hQ v L' q
    exact ⟨hN, hc, hQv v q1⟩
  · obtain ⟨q1, rfl⟩ := hX E L' q
    exact ⟨hN, hc⟩
  · obtain ⟨q1, q2⟩ := q
    obtain ⟨q3, q4⟩ := hQ v _ q1
    exact ⟨q3, Prod.ext q4 q2⟩
  · obtain ⟨q1, q2⟩ := q
    obtain ⟨q3, q4⟩ := hX E _ q1
    exact ⟨q3, Prod.ext q4 q2⟩
set_option maxRecDepth 100000 in
set_option maxHeartbeats 8000000 in
theorem cg_range (hl : l.stackTraces = false) (w : z_W) (a b c : Int32) (hab : b ≤ a ∧ a ≤ c) : z_Con G l mX8_checkRange 10 0 0 w [.int a, .int b, .int c] (fun v w9 => v = none ∧ w9 = w) (fun _ _ => False) := by
  refine z_body hl (by decide) rfl (Nat.le_of_ble_eq_true rfl) ?_
  show z_J G l mX8_checkRange _ 0 [(0, _), (1, _), (2, _)] [] _ 0 0
  refine j_iload_n dX8_checkRange_0 rfl ?_
  refine j_iload_n dX8_checkRange_1 rfl ?_
  refine j_icmp_lt (tgt := 10) dX8_checkRange_2 (by decide) (fun c_2_4 => ?_) (fun c_2_4 => ?_)
  · exact absurd hab.1 (Int32.not_le.mpr c_2_4)
  · refine j_iload_n dX8_checkRange_5 rfl ?_
    refine j_iload_n dX8_checkRange_6 rfl ?_
    refine j_icmp_le (tgt := 21) dX8_checkRange_7 (by decide) (fun c_7_8 => ?_) (fun c_7_8 => ?_)
    · refine j_vret dX8_checkRange_21 rfl ?_ (by show _ ≤ 0; omega) (by show _ ≤ 0; omega)
      exact ⟨rfl, rfl⟩
    · exact absurd hab.2 c_7_8
end ZCg
end ZM4
section ZM5
section ZLawR
variable {G : z_G} {l : Launch} {y : z_M} {S : z_S} {pc : Nat} {lo : List (Nat × Value)} {st : List Value} {w w' : z_W} {kc ks : Nat}
theorem z_cdw {y : z_M} (h : y.2.2.2.2 ≠ []) : z_code y = Cond.codeWith y.1 y.2.1 y.2.2.1 y.2.2.2.1 y.2.2.2.2 := by
  obtain ⟨yn, yb, yl, yr, yt⟩ := y
  cases yt with
  | nil => exact absurd rfl h
  | cons a t => rfl
theorem j_callSW {idx np rk' mc' ms' : Nat} {y' : z_M} {as rest : List Value} {Q' : Option Value → z_W → Prop} {X' : String → z_W → Prop} (hd : decode y.2.1 pc = .ok (.invokestatic idx, 3)) (hm : z_okw y' np) (hl : Cond.methodLink y.1.cls idx y'.1 ∈ z_tbl) (hsx : Cond.static y'.1 ∈ z_tbl) (hc : z_Con G l y' rk' mc' ms' w as Q' X') (hrk : rk' + 1 ≤ S.1) (hcs : kc + mc' ≤ S.2.1 ∧ ks + ms' ≤ S.2.2.1) (hstk : st = as.reverse ++ rest) (hW : z_cat rest ≤ 8) (hn : as.length = np) (ht : y.2.2.2.2 = []) (hx : ∀ E w', X' E w' → S.2.2.2.2.2 E w') (kk : ∀ v w', Q' v w' → z_J G l y S (pc + 3) lo (v.toList ++ rest) w' (kc + mc') (ks + ms')) : z_J G l y S pc lo st w kc ks := by
  intro p e s m args below meth c R0 hok R H locs ls cst hat hlo hst
  subst hstk
  obtain ⟨b1, crest, rfl, hb1, hrest⟩ := z_Lapp hst
  have hAs := z_Lrev hb1
  rw [List.reverse_reverse] at hAs
  have hts := hok.2.2.2.2.2.2.1
  obtain ⟨m1, m2, m3, m4, m5, m6⟩ := hm
  have ecd := z_cdw m1
  have cw : vx_CSW (z_rm S.1 S.2.1 S.2.2.1) s args y.1.cls idx y'.1 y'.2.1 y'.2.2.1 y'.2.2.2.1 y'.2.2.2.2 (z_ws y') (z_rm rk' mc' ms') mc' ms' np :=
    ⟨⟨rfl, rfl, (z_rmle hrk m6).1, (z_rmle hrk m6).2, z_pay hts m2, by rw [← ecd]; exact List.mem_cons_self⟩, by rw [← ecd]; exact hts _ m2, hts _ m3, m4, z_np m5, hts _ hl, hts _ hsx⟩
  exact z_run hok hat hlo hrest ht (vx_runSX (As := b1.reverse) ⟨hok.1, hok.2.1, rfl, hok.2.2.2.2.2.1, hok.2.2.2.2.2.2.1⟩ (hc R) cw ⟨z_Pc_blind, fun U hU hW9 => z_pre hok hat hAs U hU hW9⟩ rfl (by rw [z_Ll hAs]; exact hn) hlo.choose_spec.1.1 (by rw [List.reverse_reverse]) (lv_room (by rw [z_Lcs hrest]; exact hW)) hd hcs) hcs hx kk
def z_hd (y : z_M) (pc : Nat) (E : String) (tgt : Nat) : Prop := ∃ (pre : List ExceptionTableEntry) (x : ExceptionTableEntry) (suf : List ExceptionTableEntry) (name : String), tableOf y.2.2.2.2 = pre ++ x :: suf ∧ (∀ z ∈ pre, covers z pc = false ∨ (z.catchType ≠ 0 ∧ ∃ nm : String, Cond.classLink y.1.cls z.catchType nm ∈ z_tbl ∧ (E, nm) ∈ z_ncs)) ∧ covers x pc = true ∧ x.catchType ≠ 0 ∧ Cond.classLink y.1.cls x.catchType name ∈ z_tbl ∧ Cond.castable E name ∈ z_nst ∧ x.handlerPc = tgt
def z_as (y : z_M) (tgt nx : Nat) : Prop := (∃ i : Nat, decode y.2.1 tgt = .ok (.astore i, 2) ∧ i < y.2.2.1 ∧ nx = tgt + 2) ∨ ∃ k : Fin 4, decode y.2.1 tgt = .ok (.astore_n k, 1) ∧ (k : Nat) < y.2.2.1 ∧ nx = tgt + 1
theorem z_runT {S : z_S} {p : Program} {e : Env} {s : State} {m : MethodId} {args : Array Value} {below : List Frame} {meth : Method} {c : Code} {R0 R : z_R} {H : Heap} {locs : List Loc} {ls : Array Slot} {cst crest rest : List Value} {a9 : Array Value} {mc' ms' : Nat} {Q' : Option Value → z_W → Prop} {X' : String → z_W → Prop} (hok : z_ok G l y S p s m args meth c R0) (hat : z_at G S R0 s R w H locs) (hlo : z_lo G R w lo ls c.maxLocals) (hrest : z_L (z_V G R w) rest crest)
    (hr : vx_Run p l e (z_rm S.1 S.2.1 S.2.2.1) s m args below meth c H locs kc ks mc' ms' (F0 m pc ls cst) crest (z_Qc G R w Q' a9) (z_Xc G R w X') (fun q => z_b G ≤ q))
    (hx : ∀ E w', X' E w' → ∃ tgt nx : Nat, z_hd y pc E tgt ∧ z_as y tgt nx ∧ z_J G l y S nx [] [] w' (kc + mc') (ks + ms'))
    (kk : ∀ v w', Q' v w' → z_J G l y S (pc + 3) lo (v.toList ++ rest) w' (kc + mc') (ks + ms')) : W p l e (z_rm S.1 S.2.1 S.2.2.1) s m args below meth c H locs kc ks (vx_MQ below (z_Qc G R0 S.2.2.2.1 S.2.2.2.2.1) (z_Xc G R0 S.2.2.2.1 S.2.2.2.2.2) args s S.2.1 S.2.2.1 (fun q => z_b G ≤ q)) (F0 m pc ls cst) := by
  intro T hT X
  rcases hr T hT X with ⟨v, st₀, t, T', L, h0, X9, hL, e1, e2, ⟨v', cv, R', w', ho, hO, hQ, hP, hTT, hF⟩, go⟩ | ⟨q9, st₀, t, T', L, E, ce, h0, X9, hL, e1, e2, ⟨R', w', hXE, hP, hTT, hF⟩, hce, hcv, hcl, go⟩
  · cases ho
    have hat' := z_after hat h0 e1 hL hP hTT hF
    obtain ⟨t2, a1, b1⟩ := kk v' w' hQ p e s m args below meth c R0 hok R' T'.heap (locs ++ L) ls (v.toList ++ crest) hat' (z_lom hTT.V hlo) (z_Oc hO (z_Lm hTT.V hrest)) T' rfl X9
    exact ⟨t2, go t2 a1, b1⟩
  · have hat' := z_after hat h0 e1 hL hP hTT hF
    obtain ⟨tgt, nx, ⟨pre, x, suf, name, t1, t2, t3, t4, t5, t6, t7⟩, da, hJ⟩ := hx E w' hXE
    have hts := hok.2.2.2.2.2.2.1
    have henv := hok.2.2.2.2.2.2.2.1
    subst t7
    have hk : W p l e (z_rm S.1 S.2.1 S.2.2.1) s m args below meth c T'.heap (locs ++ L) (kc + mc') (ks + ms') (vx_MQ below (z_Qc G R0 S.2.2.2.1 S.2.2.2.2.1) (z_Xc G R0 S.2.2.2.1 S.2.2.2.2.2) args s S.2.1 S.2.2.1 (fun q => z_b G ≤ q)) (F0 m x.handlerPc ls [.ref q9]) := by
      obtain ⟨clo, hlv, -⟩ := hlo
      rcases da with ⟨i, da, hin, rfl⟩ | ⟨k, da, hin, rfl⟩
      · refine lv_astore hok.1 hok.2.1 da hlv (by rw [hok.2.2.1]; exact hin) rfl (fun ls' hls => ?_)
        exact hJ p e s m args below meth c R0 hok R' T'.heap (locs ++ L) ls' [] hat' ⟨[], ⟨hls.1, hls.2.1, fun q hq => by cases hq⟩, trivial⟩ trivial
      · refine lv_astore_n hok.1 hok.2.1 da rfl hlv (by rw [hok.2.2.1]; exact hin) rfl (fun ls' hls => ?_)
        exact hJ p e s m args below meth c R0 hok R' T'.heap (locs ++ L) ls' [] hat' ⟨[], ⟨hls.1, hls.2.1, fun q hq => by cases hq⟩, trivial⟩ trivial
    have h9 := vx_catch (p := p) (l := l) (e := e) (R := z_rm S.1 S.2.1 S.2.2.1) (s := s) (m := m) (args := args) (below := below) (meth := meth) (c := c) (H := T'.heap) (locs := locs ++ L) (cells := kc + mc') (slots := ks + ms') (ls := ls) (rest := crest) (pc := pc) (own := y.1.cls) (name := name) (E := E) (ce := ce) (q := q9) hok.2.2.2.2.2.1 pre x suf (hok.2.2.2.2.2.2.2.2.2.2.1.trans t1)
      (fun z hz => (t2 z hz).imp id (fun ⟨z0, nm, z1, z2⟩ => ⟨z0, nm, hts _ z1, henv.2.2.2.2.1.1 _ z2⟩)) t3 t4 (hts _ t5) (va_Nw.use rfl (henv.2.2.1 _ t6)) (by rw [e1]; exact hce) hcv hcl hk
    obtain ⟨t9, a1, b1⟩ := h9 T' rfl X9
    exact ⟨t9, go.trans a1, b1⟩
theorem j_tryV {idx np rk' mc' ms' : Nat} {y' : z_M} {as rest : List Value} {Q' : Option Value → z_W → Prop} {X' : String → z_W → Prop} {a ci : Nat} {fs : List Value} {q : vw_C} (hd : decode y.2.1 pc = .ok (.invokevirtual idx, 3)) (hm : z_okm y' np) (hl : Cond.methodLink y.1.cls idx y'.1 ∈ z_tbl) (hi : Cond.instanceMethod y'.1 ∈ z_tbl) (hse : Cond.selects q.1 y'.1 y'.1 ∈ z_tbl) (hg : z_g w a = some (.inr (ci, fs))) (hq : z_cls[ci]? = some q) (hc : z_Con G l y' rk' mc' ms' w (.ref a :: as) Q' X') (hrk : rk' + 1 ≤ S.1) (hcs : kc + mc' ≤ S.2.1 ∧ ks + ms' ≤ S.2.2.1) (hstk : st = as.reverse ++ .ref a :: rest) (hW : z_cat rest ≤ 8) (hn : as.length = np)
    (hx : ∀ E w', X' E w' → ∃ tgt nx : Nat, z_hd y pc E tgt ∧ z_as y tgt nx ∧ z_J G l y S nx [] [] w' (kc + mc') (ks + ms')) (kk : ∀ v w', Q' v w' → z_J G l y S (pc + 3) lo (v.toList ++ rest) w' (kc + mc') (ks + ms')) : z_J G l y S pc lo st w kc ks := by
  intro p e s m args below meth c R0 hok R H locs ls cst hat hlo hst
  subst hstk
  obtain ⟨b1, c2, rfl, hb1, hst⟩ := z_Lapp hst
  obtain ⟨c1, crest, rfl, h1, hrest⟩ := z_Lc hst
  have h1' := h1.2
  subst h1'
  have hAs := z_Lrev hb1
  rw [List.reverse_reverse] at hAs
  exact z_runT hok hat hlo hrest (vx_runV (C := q.1) (As := b1.reverse) ⟨hok.1, hok.2.1, rfl, hok.2.2.2.2.2.1, hok.2.2.2.2.2.2.1⟩ (hc R) ⟨z_CB hok.2.2.2.2.2.2.1 hm hrk hl, hok.2.2.2.2.2.2.1 _ hi, hok.2.2.2.2.2.2.1 _ hse⟩ ⟨z_Pc_blind, z_recv hok hat hg hq, fun U hU hW9 => z_pre hok hat (av := .ref a :: as) (cav := .ref (R.1 a) :: b1.reverse) ⟨h1, hAs⟩ U hU hW9⟩ rfl (by rw [z_Ll hAs]; exact hn) hlo.choose_spec.1.1 (by rw [List.reverse_reverse]) (lv_room (by rw [z_Lcs hrest]; exact hW)) hd hcs) hx kk
theorem j_slen (hd : decode y.2.1 pc = .ok (.arraylength, 1)) (h : z_J G l y S (pc + 1) lo (.int (nI (z_sn G)) :: st) w kc ks) : z_J G l y S pc lo (.retAddr 8 :: st) w kc ks := by
  intro p e s m args below meth c R0 hok R H locs ls cst hat hlo hst
  obtain ⟨c1, cs1, rfl, ⟨q, h1, hk⟩, hst1⟩ := z_Lc hst
  subst h1
  obtain ⟨f, hf, -⟩ := hok.2.2.2.2.2.2.2.1.2.2.2.2.1.2 q hk
  obtain ⟨cell, a1, a2, a3, a4, a5, -⟩ := hf.kept (z_fS hok hat).2.1
  exact W.alen (n := Int32.ofNat (z_sn G)) hok.1 hok.2.1 a1 a2 a5 rfl rfl hd (h p e s m args below meth c R0 hok R H locs ls _ hat hlo ⟨rfl, hst1⟩)
theorem j_sld {k : Nat} (hd : decode y.2.1 pc = .ok (.iaload, 1)) (hk : k < z_sn G) (hN : z_sn G < 2147483648) (h : z_J G l y S (pc + 1) lo (.int (z_sc G k) :: st) w kc ks) : z_J G l y S pc lo (.int (nI k) :: .retAddr 8 :: st) w kc ks := by
  intro p e9 s m args below meth c R0 hok R H locs ls cst hat hlo hst
  obtain ⟨c0, cs0, rfl, h0, hst0⟩ := z_Lc hst
  have h0 : c0 = .int (nI k) := h0
  subst h0
  obtain ⟨c1, cs1, rfl, ⟨q, h1, hk0⟩, hst1⟩ := z_Lc hst0
  subst h1
  obtain ⟨f, hf, hx⟩ := hok.2.2.2.2.2.2.2.1.2.2.2.2.1.2 q hk0
  obtain ⟨cell, a1, a2, a3, a4, a5, a6, -⟩ := hf.kept (z_fS hok hat).2.1
  have e0 : (nI k).toNatClampNeg = k := z_cla (by omega)
  have hlt : (nI k).toNatClampNeg < z_sn G := by rw [e0]; exact hk
  have e : f (nI k).toNatClampNeg = .int (z_sc G k) := by rw [e0]; exact hx k hk
  exact W.iald hok.1 hok.2.1 a1 a2 a3 (z_clt (vp_in_nI hk hN) a4) (by rw [a6 _ hlt, e]) rfl rfl hd (h p e9 s m args below meth c R0 hok R H locs ls _ hat hlo ⟨rfl, hst1⟩)
theorem z_sw47 (x : Int32) : x = (0 : Int32) ∨ x = (1 : Int32) ∨ x = (2 : Int32) ∨ x = (3 : Int32) ∨ x = (4 : Int32) ∨ x = (5 : Int32) ∨ x = (6 : Int32) ∨ x = (7 : Int32) ∨ x = (8 : Int32) ∨ x = (9 : Int32) ∨ x = (10 : Int32) ∨ x = (11 : Int32) ∨ x = (12 : Int32) ∨ x = (13 : Int32) ∨ x = (14 : Int32) ∨ x = (15 : Int32) ∨ x = (16 : Int32) ∨ x = (17 : Int32) ∨ x = (18 : Int32) ∨ x = (19 : Int32) ∨ x = (20 : Int32) ∨ x = (21 : Int32) ∨ x = (22 : Int32) ∨ x = (23 : Int32) ∨ x = (24 : Int32) ∨ x = (25 : Int32) ∨ x = (26 : Int32) ∨ x = (27 : Int32) ∨ x = (28 : Int32) ∨ x = (29 : Int32) ∨ x = (30 : Int32) ∨ x = (31 : Int32) ∨ x = (32 : Int32) ∨ x = (33 : Int32) ∨ x = (34 : Int32) ∨ x = (35 : Int32) ∨ x = (36 : Int32) ∨ x = (37 : Int32) ∨ x = (38 : Int32) ∨ x = (39 : Int32) ∨ x = (40 : Int32) ∨ x = (41 : Int32) ∨ x = (42 : Int32) ∨ x = (43 : Int32) ∨ x = (44 : Int32) ∨ x = (45 : Int32) ∨ x = (46 : Int32) ∨ (x.toInt < 0 ∨ 46 < x.toInt) := by
  by_cases h0 : x.toInt = (0 : Nat)
  · exact Or.inl (z_swE h0 (by decide))
  by_cases h1 : x.toInt = (1 : Nat)
  · exact Or.inr (Or.inl (z_swE h1 (by decide)))
  by_cases h2 : x.toInt = (2 : Nat)
  · exact Or.inr (Or.inr (Or.inl (z_swE h2 (by decide))))
  by_cases h3 : x.toInt = (3 : Nat)
  · exact Or.inr (Or.inr (Or.inr (Or.inl (z_swE h3 (by decide)))))
  by_cases h4 : x.toInt = (4 : Nat)
  · exact Or.inr (Or.inr (Or.inr (Or.inr (Or.inl (z_swE h4 (by decide))))))
  by_cases h5 : x.toInt = (5 : Nat)
  · exact Or.inr (Or.inr (Or.inr (Or.inr (Or.inr (Or.inl (z_swE h5 (by decide)))))))
  by_cases h6 : x.toInt = (6 : Nat)
  · exact Or.inr (Or.inr (Or.inr (Or.inr (Or.inr (Or.inr (Or.inl (z_swE h6 (by decide))))))))
  by_cases h7 : x.toInt = (7 : Nat)
  · exact Or.inr (Or.inr (Or.inr (Or.inr (Or.inr (Or.inr (Or.inr (Or.inl (z_swE h7 (by decide)))))))))
  by_cases h8 : x.toInt = (8 : Nat)
  · exact Or.inr (Or.inr (Or.inr (Or.inr (Or.inr (Or.inr (Or.inr (Or.inr (Or.inl (z_swE h8 (by decide))))))))))
  by_cases h9 : x.toInt = (9 : Nat)
  · exact Or.inr (Or.inr (Or.inr (Or.inr (Or.inr (Or.inr (Or.inr (Or.inr (Or.inr (Or.inl (z_swE h9 (by decide)))))))))))
  by_cases h10 : x.toInt = (10 : Nat)
  · exact Or.inr (Or.inr (Or.inr (Or.inr (Or.inr (Or.inr (Or.inr (Or.inr (Or.inr (Or.inr (Or.inl (z_swE h10 (by decide))))))))))))
  by_cases h11 : x.toInt = (11 : Nat)
  · exact Or.inr (Or.inr (Or.inr (Or.inr (Or.inr (Or.inr (Or.inr (Or.inr (Or.inr (Or.inr (Or.inr (Or.inl (z_swE h11 (by decide)))))))))))))
  by_cases h12 : x.toInt = (12 : Nat)
  · exact Or.inr (Or.inr (Or.inr (Or.inr (Or.inr (Or.inr (Or.inr (Or.inr (Or.inr (Or.inr (Or.inr (Or.inr (Or.inl (z_swE h12 (by decide))))))))))))))
  by_cases h13 : x.toInt = (13 : Nat)
  · exact Or.inr (Or.inr (Or.inr (Or.inr (Or.inr (Or.inr (Or.inr (Or.inr (Or.inr (Or.inr (Or.inr (Or.inr (Or.inr (Or.inl (z_swE h13 (by decide)))))))))))))))
  by_cases h14 : x.toInt = (14 : Nat)
  · exact Or.inr (Or.inr (Or.inr (Or.inr (Or.inr (Or.inr (Or.inr (Or.inr (Or.inr (Or.inr (Or.inr (Or.inr (Or.inr (Or.inr (Or.inl (z_swE h14 (by decide))))))))))))))))
  by_cases h15 : x.toInt = (15 : Nat)
  · exact Or.inr (Or.inr (Or.inr (Or.inr (Or.inr (Or.inr (Or.inr (Or.inr (Or.inr (Or.inr (Or.inr (Or.inr (Or.inr (Or.inr (Or.inr (Or.inl (z_swE h15 (by decide)))))))))))))))))
  by_cases h16 : x.toInt = (16 : Nat)
  · exact Or.inr (Or.inr (Or.inr (Or.inr (Or.inr (Or.inr (Or.inr (Or.inr (Or.inr (Or.inr (Or.inr (Or.inr (Or.inr (Or.inr (Or.inr (Or.inr (Or.inl (z_swE h16 (by decide))))))))))))))))))
  by_cases h17 : x.toInt = (17 : Nat)
  · exact Or.inr (Or.inr (Or.inr (Or.inr (Or.inr (Or.inr (Or.inr (Or.inr (Or.inr (Or.inr (Or.inr (Or.inr (Or.inr (Or.inr (Or.inr (Or.inr (Or.inr (Or.inl (z_swE h17 (by decide)))))))))))))))))))
  by_cases h18 : x.toInt = (18 : Nat)
  · exact Or.inr (Or.inr (Or.inr (Or.inr (Or.inr (Or.inr (Or.inr (Or.inr (Or.inr (Or.inr (Or.inr (Or.inr (Or.inr (Or.inr (Or.inr (Or.inr (Or.inr (Or.inr (Or.inl (z_swE h18 (by decide))))))))))))))))))))
  by_cases h19 : x.toInt = (19 : Nat)
  · exact Or.inr (Or.inr (Or.inr (Or.inr (Or.inr (Or.inr (Or.inr (Or.inr (Or.inr (Or.inr (Or.inr (Or.inr (Or.inr (Or.inr (Or.inr (Or.inr (Or.inr (Or.inr (Or.inr (Or.inl (z_swE h19 (by decide)))))))))))))))))))))
  by_cases h20 : x.toInt = (20 : Nat)
  · exact Or.inr (Or.inr (Or.inr (Or.inr (Or.inr (Or.inr (Or.inr (Or.inr (Or.inr (Or.inr (Or.inr (Or.inr (Or.inr (Or.inr (Or.inr (Or.inr (Or.inr (Or.inr (Or.inr (Or.inr (Or.inl (z_swE h20 (by decide))))))))))))))))))))))
  by_cases h21 : x.toInt = (21 : Nat)
  · exact Or.inr (Or.inr (Or.inr (Or.inr (Or.inr (Or.inr (Or.inr (Or.inr (Or.inr (Or.inr (Or.inr (Or.inr (Or.inr (Or.inr (Or.inr (Or.inr (Or.inr (Or.inr (Or.inr (Or.inr (Or.inr (Or.inl (z_swE h21 (by decide)))))))))))))))))))))))
  by_cases h22 : x.toInt = (22 : Nat)
  · exact Or.inr (Or.inr (Or.inr (Or.inr (Or.inr (Or.inr (Or.inr (Or.inr (Or.inr (Or.inr (Or.inr (Or.inr (Or.inr (Or.inr (Or.inr (Or.inr (Or.inr (Or.inr (Or.inr (Or.inr (Or.inr (Or.inr (Or.inl (z_swE h22 (by decide))))))))))))))))))))))))
  by_cases h23 : x.toInt = (23 : Nat)
  · exact Or.inr (Or.inr (Or.inr (Or.inr (Or.inr (Or.inr (Or.inr (Or.inr (Or.inr (Or.inr (Or.inr (Or.inr (Or.inr (Or.inr (Or.inr (Or.inr (Or.inr (Or.inr (Or.inr (Or.inr (Or.inr (Or.inr (Or.inr (Or.inl (z_swE h23 (by decide)))))))))))))))))))))))))
  by_cases h24 : x.toInt = (24 : Nat)
  · exact Or.inr (Or.inr (Or.inr (Or.inr (Or.inr (Or.inr (Or.inr (Or.inr (Or.inr (Or.inr (Or.inr (Or.inr (Or.inr (Or.inr (Or.inr (Or.inr (Or.inr (Or.inr (Or.inr (Or.inr (Or.inr (Or.inr (Or.inr (Or.inr (Or.inl (z_swE h24 (by decide))))))))))))))))))))))))))
  by_cases h25 : x.toInt = (25 : Nat)
  · exact Or.inr (Or.inr (Or.inr (Or.inr (Or.inr (Or.inr (Or.inr (Or.inr (Or.inr (Or.inr (Or.inr (Or.inr (Or.inr (Or.inr (Or.inr (Or.inr (Or.inr (Or.inr (Or.inr (Or.inr (Or.inr (Or.inr (Or.inr (Or.inr (Or.inr (Or.inl (z_swE h25 (by decide)))))))))))))))))))))))))))
  by_cases h26 : x.toInt = (26 : Nat)
  · exact Or.inr (Or.inr (Or.inr (Or.inr (Or.inr (Or.inr (Or.inr (Or.inr (Or.inr (Or.inr (Or.inr (Or.inr (Or.inr (Or.inr (Or.inr (Or.inr (Or.inr (Or.inr (Or.inr (Or.inr (Or.inr (Or.inr (Or.inr (Or.inr (Or.inr (Or.inr (Or.inl (z_swE h26 (by decide))))))))))))))))))))))))))))
  by_cases h27 : x.toInt = (27 : Nat)
  · exact Or.inr (Or.inr (Or.inr (Or.inr (Or.inr (Or.inr (Or.inr (Or.inr (Or.inr (Or.inr (Or.inr (Or.inr (Or.inr (Or.inr (Or.inr (Or.inr (Or.inr (Or.inr (Or.inr (Or.inr (Or.inr (Or.inr (Or.inr (Or.inr (Or.inr (Or.inr (Or.inr (Or.inl (z_swE h27 (by decide)))))))))))))))))))))))))))))
  by_cases h28 : x.toInt = (28 : Nat)
  · exact Or.inr (Or.inr (Or.inr (Or.inr (Or.inr (Or.inr (Or.inr (Or.inr (Or.inr (Or.inr (Or.inr (Or.inr (Or.inr (Or.inr (Or.inr (Or.inr (Or.inr (Or.inr (Or.inr (Or.inr (Or.inr (Or.inr (Or.inr (Or.inr (Or.inr (Or.inr (Or.inr (Or.inr (Or.inl (z_swE h28 (by decide))))))))))))))))))))))))))))))
  by_cases h29 : x.toInt = (29 : Nat)
  · exact Or.inr (Or.inr (Or.inr (Or.inr (Or.inr (Or.inr (Or.inr (Or.inr (Or.inr (Or.inr (Or.inr (Or.inr (Or.inr (Or.inr (Or.inr (Or.inr (Or.inr (Or.inr (Or.inr (Or.inr (Or.inr (Or.inr (Or.inr (Or.inr (Or.inr (Or.inr (Or.inr (Or.inr (Or.inr (Or.inl (z_swE h29 (by decide)))))))))))))))))))))))))))))))
  by_cases h30 : x.toInt = (30 : Nat)
  · exact Or.inr (Or.inr (Or.inr (Or.inr (Or.inr (Or.inr (Or.inr (Or.inr (Or.inr (Or.inr (Or.inr (Or.inr (Or.inr (Or.inr (Or.inr (Or.inr (Or.inr (Or.inr (Or.inr (Or.inr (Or.inr (Or.inr (Or.inr (Or.inr (Or.inr (Or.inr (Or.inr (Or.inr (Or.inr (Or.inr (Or.inl (z_swE h30 (by decide))))))))))))))))))))))))))))))))
  by_cases h31 : x.toInt = (31 : Nat)
  · exact Or.inr (Or.inr (Or.inr (Or.inr (Or.inr (Or.inr (Or.inr (Or.inr (Or.inr (Or.inr (Or.inr (Or.inr (Or.inr (Or.inr (Or.inr (Or.inr (Or.inr (Or.inr (Or.inr (Or.inr (Or.inr (Or.inr (Or.inr (Or.inr (Or.inr (Or.inr (Or.inr (Or.inr (Or.inr (Or.inr (Or.inr (Or.inl (z_swE h31 (by decide)))))))))))))))))))))))))))))))))
  by_cases h32 : x.toInt = (32 : Nat)
  · exact Or.inr (Or.inr (Or.inr (Or.inr (Or.inr (Or.inr (Or.inr (Or.inr (Or.inr (Or.inr (Or.inr (Or.inr (Or.inr (Or.inr (Or.inr (Or.inr (Or.inr (Or.inr (Or.inr (Or.inr (Or.inr (Or.inr (Or.inr (Or.inr (Or.inr (Or.inr (Or.inr (Or.inr (Or.inr (Or.inr (Or.inr (Or.inr (Or.inl (z_swE h32 (by decide))))))))))))))))))))))))))))))))))
  by_cases h33 : x.toInt = (33 : Nat)
  · exact Or.inr (Or.inr (Or.inr (Or.inr (Or.inr (Or.inr (Or.inr (Or.inr (Or.inr (Or.inr (Or.inr (Or.inr (Or.inr (Or.inr (Or.inr (Or.inr (Or.inr (Or.inr (Or.inr (Or.inr (Or.inr (Or.inr (Or.inr (Or.inr (Or.inr (Or.inr (Or.inr (Or.inr (Or.inr (Or.inr (Or.inr (Or.inr (Or.inr (Or.inl (z_swE h33 (by decide)))))))))))))))))))))))))))))))))))
  by_cases h34 : x.toInt = (34 : Nat)
  · exact Or.inr (Or.inr (Or.inr (Or.inr (Or.inr (Or.inr (Or.inr (Or.inr (Or.inr (Or.inr (Or.inr (Or.inr (Or.inr (Or.inr (Or.inr (Or.inr (Or.inr (Or.inr (Or.inr (Or.inr (Or.inr (Or.inr (Or.inr (Or.inr (Or.inr (Or.inr (Or.inr (Or.inr (Or.inr (Or.inr (Or.inr (Or.inr (Or.inr (Or.inr (Or.inl (z_swE h34 (by decide))))))))))))))))))))))))))))))))))))
  by_cases h35 : x.toInt = (35 : Nat)
  · exact Or.inr (Or.inr (Or.inr (Or.inr (Or.inr (Or.inr (Or.inr (Or.inr (Or.inr (Or.inr (Or.inr (Or.inr (Or.inr (Or.inr (Or.inr (Or.inr (Or.inr (Or.inr (Or.inr (Or.inr (Or.inr (Or.inr (Or.inr (Or.inr (Or.inr (Or.inr (Or.inr (Or.inr (Or.inr (Or.inr (Or.inr (Or.inr (Or.inr (Or.inr (Or.inr (Or.inl (z_swE h35 (by decide)))))))))))))))))))))))))))))))))))))
  by_cases h36 : x.toInt = (36 : Nat)
  · exact Or.inr (Or.inr (Or.inr (Or.inr (Or.inr (Or.inr (Or.inr (Or.inr (Or.inr (Or.inr (Or.inr (Or.inr (Or.inr (Or.inr (Or.inr (Or.inr (Or.inr (Or.inr (Or.inr (Or.inr (Or.inr (Or.inr (Or.inr (Or.inr (Or.inr (Or.inr (Or.inr (Or.inr (Or.inr (Or.inr (Or.inr (Or.inr (Or.inr (Or.inr (Or.inr (Or.inr (Or.inl (z_swE h36 (by decide))))))))))))))))))))))))))))))))))))))
  by_cases h37 : x.toInt = (37 : Nat)
  · exact Or.inr (Or.inr (Or.inr (Or.inr (Or.inr (Or.inr (Or.inr (Or.inr (Or.inr (Or.inr (Or.inr (Or.inr (Or.inr (Or.inr (Or.inr (Or.inr (Or.inr (Or.inr (Or.inr (Or.inr (Or.inr (Or.inr (Or.inr (Or.inr (Or.inr (Or.inr (Or.inr (Or.inr (Or.inr (Or.inr (Or.inr (Or.inr (Or.inr (Or.inr (Or.inr (Or.inr (Or.inr (Or.inl (z_swE h37 (by decide)))))))))))))))))))))))))))))))))))))))
  by_cases h38 : x.toInt = (38 : Nat)
  · exact Or.inr (Or.inr (Or.inr (Or.inr (Or.inr (Or.inr (Or.inr (Or.inr (Or.inr (Or.inr (Or.inr (Or.inr (Or.inr (Or.inr (Or.inr (Or.inr (Or.inr (Or.inr (Or.inr (Or.inr (Or.inr (Or.inr (Or.inr (Or.inr (Or.inr (Or.inr (Or.inr (Or.inr (Or.inr (Or.inr (Or.inr (Or.inr (Or.inr (Or.inr (Or.inr (Or.inr (Or.inr (Or.inr (Or.inl (z_swE h38 (by decide))))))))))))))))))))))))))))))))))))))))
  by_cases h39 : x.toInt = (39 : Nat)
  · exact Or.inr (Or.inr (Or.inr (Or.inr (Or.inr (Or.inr (Or.inr (Or.inr (Or.inr (Or.inr (Or.inr (Or.inr (Or.inr (Or.inr (Or.inr (Or.inr (Or.inr (Or.inr (Or.inr (Or.inr (Or.inr (Or.inr (Or.inr (Or.inr (Or.inr (Or.inr (Or.inr (Or.inr (Or.inr (Or.inr (Or.inr (Or.inr (Or.inr (Or.inr (Or.inr (Or.inr (Or.inr (Or.inr (Or.inr (Or.inl (z_swE h39 (by decide)))))))))))))))))))))))))))))))))))))))))
  by_cases h40 : x.toInt = (40 : Nat)
  · exact Or.inr (Or.inr (Or.inr (Or.inr (Or.inr (Or.inr (Or.inr (Or.inr (Or.inr (Or.inr (Or.inr (Or.inr (Or.inr (Or.inr (Or.inr (Or.inr (Or.inr (Or.inr (Or.inr (Or.inr (Or.inr (Or.inr (Or.inr (Or.inr (Or.inr (Or.inr (Or.inr (Or.inr (Or.inr (Or.inr (Or.inr (Or.inr (Or.inr (Or.inr (Or.inr (Or.inr (Or.inr (Or.inr (Or.inr (Or.inr (Or.inl (z_swE h40 (by decide))))))))))))))))))))))))))))))))))))))))))
  by_cases h41 : x.toInt = (41 : Nat)
  · exact Or.inr (Or.inr (Or.inr (Or.inr (Or.inr (Or.inr (Or.inr (Or.inr (Or.inr (Or.inr (Or.inr (Or.inr (Or.inr (Or.inr (Or.inr (Or.inr (Or.inr (Or.inr (Or.inr (Or.inr (Or.inr (Or.inr (Or.inr (Or.inr (Or.inr (Or.inr (Or.inr (Or.inr (Or.inr (Or.inr (Or.inr (Or.inr (Or.inr (Or.inr (Or.inr (Or.inr (Or.inr (Or.inr (Or.inr (Or.inr (Or.inr (Or.inl (z_swE h41 (by decide)))))))))))))))))))))))))))))))))))))))))))
  by_cases h42 : x.toInt = (42 : Nat)
  · exact Or.inr (Or.inr (Or.inr (Or.inr (Or.inr (Or.inr (Or.inr (Or.inr (Or.inr (Or.inr (Or.inr (Or.inr (Or.inr (Or.inr (Or.inr (Or.inr (Or.inr (Or.inr (Or.inr (Or.inr (Or.inr (Or.inr (Or.inr (Or.inr (Or.inr (Or.inr (Or.inr (Or.inr (Or.inr (Or.inr (Or.inr (Or.inr (Or.inr (Or.inr (Or.inr (Or.inr (Or.inr (Or.inr (Or.inr (Or.inr (Or.inr (Or.inr (Or.inl (z_swE h42 (by decide))))))))))))))))))))))))))))))))))))))))))))
  by_cases h43 : x.toInt = (43 : Nat)
  · exact Or.inr (Or.inr (Or.inr (Or.inr (Or.inr (Or.inr (Or.inr (Or.inr (Or.inr (Or.inr (Or.inr (Or.inr (Or.inr (Or.inr (Or.inr (Or.inr (Or.inr (Or.inr (Or.inr (Or.inr (Or.inr (Or.inr (Or.inr (Or.inr (Or.inr (Or.inr (Or.inr (Or.inr (Or.inr (Or.inr (Or.inr (Or.inr (Or.inr (Or.inr (Or.inr (Or.inr (Or.inr (Or.inr (Or.inr (Or.inr (Or.inr (Or.inr (Or.inr (Or.inl (z_swE h43 (by decide)))))))))))))))))))))))))))))))))))))))))))))
  by_cases h44 : x.toInt = (44 : Nat)
  · exact Or.inr (Or.inr (Or.inr (Or.inr (Or.inr (Or.inr (Or.inr (Or.inr (Or.inr (Or.inr (Or.inr (Or.inr (Or.inr (Or.inr (Or.inr (Or.inr (Or.inr (Or.inr (Or.inr (Or.inr (Or.inr (Or.inr (Or.inr (Or.inr (Or.inr (Or.inr (Or.inr (Or.inr (Or.inr (Or.inr (Or.inr (Or.inr (Or.inr (Or.inr (Or.inr (Or.inr (Or.inr (Or.inr (Or.inr (Or.inr (Or.inr (Or.inr (Or.inr (Or.inr (Or.inl (z_swE h44 (by decide))))))))))))))))))))))))))))))))))))))))))))))
  by_cases h45 : x.toInt = (45 : Nat)
  · exact Or.inr (Or.inr (Or.inr (Or.inr (Or.inr (Or.inr (Or.inr (Or.inr (Or.inr (Or.inr (Or.inr (Or.inr (Or.inr (Or.inr (Or.inr (Or.inr (Or.inr (Or.inr (Or.inr (Or.inr (Or.inr (Or.inr (Or.inr (Or.inr (Or.inr (Or.inr (Or.inr (Or.inr (Or.inr (Or.inr (Or.inr (Or.inr (Or.inr (Or.inr (Or.inr (Or.inr (Or.inr (Or.inr (Or.inr (Or.inr (Or.inr (Or.inr (Or.inr (Or.inr (Or.inr (Or.inl (z_swE h45 (by decide)))))))))))))))))))))))))))))))))))))))))))))))
  by_cases h46 : x.toInt = (46 : Nat)
  · exact Or.inr (Or.inr (Or.inr (Or.inr (Or.inr (Or.inr (Or.inr (Or.inr (Or.inr (Or.inr (Or.inr (Or.inr (Or.inr (Or.inr (Or.inr (Or.inr (Or.inr (Or.inr (Or.inr (Or.inr (Or.inr (Or.inr (Or.inr (Or.inr (Or.inr (Or.inr (Or.inr (Or.inr (Or.inr (Or.inr (Or.inr (Or.inr (Or.inr (Or.inr (Or.inr (Or.inr (Or.inr (Or.inr (Or.inr (Or.inr (Or.inr (Or.inr (Or.inr (Or.inr (Or.inr (Or.inr (Or.inl (z_swE h46 (by decide))))))))))))))))))))))))))))))))))))))))))))))))
  exact Or.inr (Or.inr (Or.inr (Or.inr (Or.inr (Or.inr (Or.inr (Or.inr (Or.inr (Or.inr (Or.inr (Or.inr (Or.inr (Or.inr (Or.inr (Or.inr (Or.inr (Or.inr (Or.inr (Or.inr (Or.inr (Or.inr (Or.inr (Or.inr (Or.inr (Or.inr (Or.inr (Or.inr (Or.inr (Or.inr (Or.inr (Or.inr (Or.inr (Or.inr (Or.inr (Or.inr (Or.inr (Or.inr (Or.inr (Or.inr (Or.inr (Or.inr (Or.inr (Or.inr (Or.inr (Or.inr (Or.inr ((by omega))))))))))))))))))))))))))))))))))))))))))))))))
theorem z_genV {x : Int32} (h : ∀ z : Int32, z_J G l y S pc lo (.int z :: st) w kc ks) : z_J G l y S pc lo (.int x :: st) w kc ks := h x
def z_hm (w w9 : z_W) : Prop := (∀ n, 1000 ≤ n → n % 64 < 56 → z_g w9 n = z_g w n) ∧ (z_fn w → z_fn w9)
theorem z_mst.hm {s : z_Z} (h : z_mst w s) (hw : z_hm w w') : z_mst w' s := by
  obtain ⟨h0, h1, h2, h3, ⟨f4, h4, h4'⟩, h5, h6, ⟨f7, h7, h7'⟩, h8, h9, h10, h11, h12⟩ := h
  have k : ∀ r, r < 56 → ∀ n, 1000 ≤ n → n % 64 = r → z_g w' n = z_g w n := fun r hr n h9 hn => hw.1 n h9 (by omega)
  exact ⟨hw.2 h0, (k 40 (by omega) 1000 (by omega) (by omega)).trans h1, z_li.m (k 41 (by omega)) h2, (k 42 (by omega) 1002 (by omega) (by omega)).trans h3, ⟨f4, (k 43 (by omega) 1003 (by omega) (by omega)).trans h4, h4'⟩, fun i hi => (k (44 + i) (by omega) (1004 + i) (by omega) (by omega)).trans (h5 i hi), z_li.m (k 47 (by omega)) h6, ⟨f7, (k 48 (by omega) 1008 (by omega) (by omega)).trans h7, h7'⟩, fun i hi => (k (49 + i) (by omega) (1009 + i) (by omega) (by omega)).trans (h8 i hi), fun t ht => z_li.m (k (51 + t) (by omega)) (h9 t ht), fun i hi => ⟨z_li.m (k (54 + i) (by omega)) (h10 i hi).1, (h10 i hi).2⟩, fun i hi => ⟨z_li.m (k (11 + i) (by omega)) (h11 i hi).1, (h11 i hi).2⟩, fun t ht => z_pr.m (k (14 + t) (by omega)) (h12 t ht)⟩
def z_LS (x : Nat) (kn : Int32) (w : z_W) : Prop := z_Wn kn w.1 ∧ (∃ s, z_mst w s ∧ s.1.2.2 = kn) ∧ (∃ (n : Int64) (v : Value), z_g w x = some (.inr (13, [.long n, v]))) ∧ 1000 ≤ x ∧ x % 64 = 60
theorem z_LS.cls {x : Nat} {kn : Int32} {w w9 : z_W} (h : z_LS x kn w) (h1 : z_Wn kn w9.1) (h2 : z_hi w w9) : z_LS x kn w9 := by
  obtain ⟨-, ⟨s, hs, hk⟩, ⟨n, v, hg⟩, hx, hx2⟩ := h
  exact ⟨h1, ⟨s, hs.hi h2, hk⟩, ⟨n, v, (h2.1 x hx (Or.inr (by omega))).trans hg⟩, hx, hx2⟩
theorem z_LS.out {x : Nat} {kn : Int32} {w w9 : z_W} {n : Int64} {v : Value} (h : z_LS x kn w) (u : z_up w x (.inr (13, [.long n, v])) w9) : z_LS x kn w9 := by
  obtain ⟨hW, ⟨s, hs, hk⟩, -, hx, hx2⟩ := h
  exact ⟨by rw [u.2.2.1]; exact hW, ⟨s, hs.hm ⟨fun m h1 h2 => u.2.1 m (fun z => by omega), u.2.2.2⟩, hk⟩, ⟨n, v, u.1⟩, hx, hx2⟩
theorem z_LS.x1 {x : Nat} {kn : Int32} {w : z_W} (h : z_LS x kn w) : 1000 ≤ x := h.2.2.2.1
theorem z_LS.fn {x : Nat} {kn : Int32} {w : z_W} (h : z_LS x kn w) : z_fn w := by
  obtain ⟨-, ⟨s, hs, -⟩, -⟩ := h
  exact hs.fn
theorem z_LS.rc {x : Nat} {kn : Int32} {w : z_W} (h : z_LS x kn w) : ∃ fs, z_g w 0 = some (.inr (12, fs)) := by
  obtain ⟨⟨xa, xb, b0, b1, rf, ma, fa, ca, mb, fb, cb, mt, xt, ft, ct, f0, g0, c0, m0, s0, f1, g1, c1, m1, s1, f2, g2, c2, m2, s2, f3, g3, c3, m3, s3, f4, g4, c4, m4, s4, f5, g5, c5, m5, s5, ek0, em0, es0, el0, ef0, ek1, em1, es1, el1, ef1, -, -, -, -, -, -, hL⟩, -⟩ := h
  exact ⟨_, z_g1 hL (by decide) rfl⟩
end ZLawR
end ZM5
section ZM6
section ZFn
def q_bd (v : Int32) : Int32 := if v < -999 then -999 else if 999 < v then 999 else v
def q_ev (v : Int32) : Bool := decide (v &&& 1 = 0)
def q_mx (v n : Int32) : Int32 := if v < n then n else v
def q_rt (r k v n : Int32) : Option Int32 :=
  if r = 0 then some (q_bd (v + n)) else if r = 1 then some (q_mx v n) else if r = 2 then some (cond (q_ev (q_bd (v + n))) (q_bd (v + n)) (-1000)) else if r = 3 then some (-1000) else if r = 4 then cond (q_ev (q_bd (v + n))) (some (q_bd (v + n))) none else some (q_bd (k + n))
def q_tt (t v n : Int32) : Option Int32 :=
  if t = 0 then some (z_bi (q_ev v)) else if t = 1 then some (z_bi (!q_ev v)) else if t = 2 then some (z_bi (decide (v < n))) else if t = 3 then some (z_bi (decide (n < v))) else if t = 4 then some (z_bi (decide (v = n))) else if v = n then none else some 0
def q_d (v : Int32) : Int32 := if v = -1000 then 0 else v
theorem q_and1 (v : Int32) : v &&& 1 = 0 ↔ v.toInt % 2 = 0 := by
  have e : (v &&& 1).toBitVec.toNat = v.toBitVec.toNat % 2 := by
    rw [Int32.toBitVec_and, BitVec.toNat_and]
    exact Nat.and_one_is_mod _
  have t : v.toInt = if 2 * v.toBitVec.toNat < 2 ^ 32 then (v.toBitVec.toNat : Int) else (v.toBitVec.toNat : Int) - 2 ^ 32 := BitVec.toInt_eq_toNat_cond v.toBitVec
  constructor
  · intro h
    have h2 : (v &&& 1).toBitVec.toNat = 0 := by rw [h]; rfl
    rw [e] at h2
    rw [t]
    split <;> omega
  · intro h
    apply Int32.toBitVec_inj.mp
    apply BitVec.eq_of_toNat_eq
    rw [e]
    show v.toBitVec.toNat % 2 = 0
    rw [t] at h
    split at h <;> omega
theorem q_tdiv2 (V : Int) : (0 ≤ V ∧ V.tdiv 2 = V / 2) ∨ (V < 0 ∧ V.tdiv 2 = -((-V) / 2)) := by
  rcases Int.lt_or_le V 0 with h | h
  · refine Or.inr ⟨h, ?_⟩
    have e : (-(-V)).tdiv 2 = -((-V).tdiv 2) := Int.neg_tdiv (-V) 2
    rw [Int.neg_neg] at e
    rw [e, Int.tdiv_eq_ediv_of_nonneg (by omega)]
  · exact Or.inl ⟨h, Int.tdiv_eq_ediv_of_nonneg h⟩
theorem q_rem2 (v : Int32) : (v - v / 2 * 2).toInt = v.toInt - v.toInt.tdiv 2 * 2 := by
  have h1 := Int32.le_toInt v
  have h2 := Int32.toInt_lt v
  have hd : (v / 2).toInt = v.toInt.tdiv 2 := Int32.toInt_div_of_ne_right v 2 (by decide)
  rw [Int32.toInt_sub, Int32.toInt_mul, hd, show (2 : Int32).toInt = 2 from rfl]
  have e1 : (v.toInt.tdiv 2 * 2).bmod (2 ^ 32) = v.toInt.tdiv 2 * 2 := by
    rcases q_tdiv2 v.toInt with ⟨h, e⟩ | ⟨h, e⟩
    · rw [e]; exact Int.bmod_eq_of_le (by omega) (by omega)
    · rw [e]; exact Int.bmod_eq_of_le (by omega) (by omega)
  rw [e1]
  rcases q_tdiv2 v.toInt with ⟨h, e⟩ | ⟨h, e⟩
  · rw [e]; exact Int.bmod_eq_of_le (by omega) (by omega)
  · rw [e]; exact Int.bmod_eq_of_le (by omega) (by omega)
theorem q_evm (v : Int32) : v - v / 2 * 2 = 0 ↔ v &&& 1 = 0 := by
  rw [q_and1]
  have h := q_rem2 v
  have hd := q_tdiv2 v.toInt
  constructor
  · intro z
    rw [z] at h
    have h : (0 : Int) = v.toInt - v.toInt.tdiv 2 * 2 := h
    omega
  · intro z
    apply Int32.toInt_inj.mp
    rw [h]
    show v.toInt - v.toInt.tdiv 2 * 2 = 0
    rcases hd with ⟨h, e⟩ | ⟨h, e⟩ <;> rw [e] <;> omega
theorem q_ev1 {v : Int32} (h : v &&& 1 = 0) : q_ev v = true := decide_eq_true h
theorem q_ev0 {v : Int32} (h : ¬ v &&& 1 = 0) : q_ev v = false := decide_eq_false h
theorem q_evm1 {v : Int32} (h : v - v / 2 * 2 = 0) : q_ev v = true := q_ev1 ((q_evm v).mp h)
theorem q_evm0 {v : Int32} (h : ¬ v - v / 2 * 2 = 0) : q_ev v = false := q_ev0 (fun z => h ((q_evm v).mpr z))
theorem q_bd1 {v : Int32} (h : 999 < v) : q_bd v = 999 := by
  have h : (999 : Int32).toInt < v.toInt := Int32.lt_iff_toInt_lt.mp h
  unfold q_bd
  rw [if_neg (fun z => by have z : v.toInt < (-999 : Int32).toInt := Int32.lt_iff_toInt_lt.mp z; rw [show (999 : Int32).toInt = 999 from rfl] at h; rw [show (-999 : Int32).toInt = -999 from rfl] at z; omega), if_pos (Int32.lt_iff_toInt_lt.mpr h)]
theorem q_bd2 {v : Int32} (h : v < -999) : q_bd v = -999 := by
  unfold q_bd
  rw [if_pos h]
theorem q_bd3 {v : Int32} (h1 : ¬ v < -999) (h2 : ¬ 999 < v) : q_bd v = v := by
  unfold q_bd
  rw [if_neg h1, if_neg h2]
theorem q_bdm (v : Int32) : (if (-999 : Int32) < (if v < (999 : Int32) then v else 999) then (if v < (999 : Int32) then v else 999) else -999) = q_bd v := by
  by_cases h : v < 999
  · rw [if_pos h]
    by_cases h2 : v < -999
    · rw [q_bd2 h2, if_neg (fun z => Int32.lt_irrefl (Int32.lt_trans z h2))]
    · rw [q_bd3 h2 (fun z => Int32.lt_irrefl (Int32.lt_trans z h))]
      by_cases h3 : -999 < v
      · rw [if_pos h3]
      · rw [if_neg h3]
        exact Int32.le_antisymm (Int32.not_lt.mp h2) (Int32.not_lt.mp h3)
  · rw [if_neg h, if_pos (by decide)]
    by_cases h2 : 999 < v
    · rw [q_bd1 h2]
    · have e : v = 999 := Int32.le_antisymm (Int32.not_lt.mp h2) (Int32.not_lt.mp h)
      rw [e]
      rfl
theorem q_sw {r : Int32} (h : r.toInt < 0 ∨ 4 < r.toInt) : ¬ r = 0 ∧ ¬ r = 1 ∧ ¬ r = 2 ∧ ¬ r = 3 ∧ ¬ r = 4 := by
  refine ⟨fun z => ?_, fun z => ?_, fun z => ?_, fun z => ?_, fun z => ?_⟩ <;> · subst z; revert h; decide
theorem q_rt5 {r k v n : Int32} (h : r.toInt < 0 ∨ 4 < r.toInt) : q_rt r k v n = some (q_bd (k + n)) := by
  obtain ⟨h0, h1, h2, h3, h4⟩ := q_sw h
  unfold q_rt
  rw [if_neg h0, if_neg h1, if_neg h2, if_neg h3, if_neg h4]
theorem q_tt5 {r v n : Int32} (h : r.toInt < 0 ∨ 4 < r.toInt) : q_tt r v n = if v = n then none else some 0 := by
  obtain ⟨h0, h1, h2, h3, h4⟩ := q_sw h
  unfold q_tt
  rw [if_neg h0, if_neg h1, if_neg h2, if_neg h3, if_neg h4]
theorem q_rt0 {k v n : Int32} : q_rt 0 k v n = some (q_bd (v + n)) := rfl
theorem q_rt1 {k v n : Int32} : q_rt 1 k v n = some (q_mx v n) := rfl
theorem q_rt2 {k v n : Int32} : q_rt 2 k v n = some (cond (q_ev (q_bd (v + n))) (q_bd (v + n)) (-1000)) := rfl
theorem q_rt3 {k v n : Int32} : q_rt 3 k v n = some (-1000) := rfl
theorem q_rt4 {k v n : Int32} : q_rt 4 k v n = cond (q_ev (q_bd (v + n))) (some (q_bd (v + n))) none := rfl
theorem q_tt0 {v n : Int32} : q_tt 0 v n = some (z_bi (q_ev v)) := rfl
theorem q_tt1 {v n : Int32} : q_tt 1 v n = some (z_bi (!q_ev v)) := rfl
theorem q_tt2 {v n : Int32} : q_tt 2 v n = some (z_bi (decide (v < n))) := rfl
theorem q_tt3 {v n : Int32} : q_tt 3 v n = some (z_bi (decide (n < v))) := rfl
theorem q_tt4 {v n : Int32} : q_tt 4 v n = some (z_bi (decide (v = n))) := rfl
theorem q_bdr (v : Int32) : z_vl (q_bd v) := by
  unfold q_bd z_vl
  split
  · exact ⟨by decide, by decide⟩
  · split
    · exact ⟨by decide, by decide⟩
    · exact ⟨Int32.not_lt.mp (by assumption), Int32.not_lt.mp (by assumption)⟩
theorem q_mx1 {v n : Int32} (h : n < v) : q_mx v n = v := if_neg (fun z => Int32.lt_irrefl (Int32.lt_trans h z))
theorem q_mx2 {v n : Int32} (h : v ≤ n) : q_mx v n = n := by
  unfold q_mx
  by_cases c : v < n
  · rw [if_pos c]
  · rw [if_neg c]
    exact Int32.le_antisymm h (Int32.not_lt.mp c)
theorem q_n2a {r : Int32} (h : r < 0) : ¬ (r = 0 ∨ r = 1) := by
  rintro (rfl | rfl)
  · exact absurd h (by decide)
  · exact absurd h (by decide)
theorem q_n2b {r : Int32} (h : ¬ r < Int32.ofNat 2) : ¬ (r = 0 ∨ r = 1) := by
  rintro (rfl | rfl)
  · exact h (by decide)
  · exact h (by decide)
abbrev q_k1 (P : Prop) [Decidable P] : Int32 := if P then 1 else 0
abbrev q_k2 (r : Int32) : Int32 := if r = 0 ∨ r = 1 then 0 else 1
abbrev q_k22 (r : Int32) (P : Prop) [Decidable P] : Int32 := if r = 0 ∨ r = 1 then (if P then 2 else 0) else 1
theorem q_k1a {A B C D : Prop} [Decidable (A ∨ B ∨ C ∨ D)] (h1 : ¬ A) (h2 : ¬ B) (h3 : ¬ C) (h4 : ¬ D) : q_k1 (A ∨ B ∨ C ∨ D) = 0 := if_neg (fun z => z.elim h1 (fun z => z.elim h2 (fun z => z.elim h3 h4)))
theorem q_k1b {A B C : Prop} [Decidable (A ∨ B ∨ C)] (h1 : ¬ A) (h2 : ¬ B) (h3 : ¬ C) : q_k1 (A ∨ B ∨ C) = 0 := if_neg (fun z => z.elim h1 (fun z => z.elim h2 h3))
theorem q_k2b {r : Int32} {P : Prop} [Decidable P] (e : r = 0 ∨ r = 1) (h : P) : q_k22 r P = 2 := by
  unfold q_k22
  rw [if_pos e, if_pos h]
theorem q_k2c {r : Int32} {P : Prop} [Decidable P] (e : r = 0 ∨ r = 1) (h : ¬ P) : q_k22 r P = 0 := by
  unfold q_k22
  rw [if_pos e, if_neg h]
theorem q_lo {x : Int32} (h : -1000 ≤ x) : ¬ x = -1001 := by
  rintro rfl
  exact absurd h (by decide)
theorem q_vlo {x : Int32} (h : z_vl x) : ¬ x = -1001 := by
  rintro rfl
  exact absurd h.1 (by decide)
theorem q_nor {x a b : Int32} (h : ¬ (x < a ∨ b < x)) : a ≤ x ∧ x ≤ b := ⟨Int32.not_lt.mp (fun z => h (Or.inl z)), Int32.not_lt.mp (fun z => h (Or.inr z))⟩
theorem q_dlo {q : Int32} (h : -1000 ≤ q) : ¬ q_d q = -1001 := by
  unfold q_d
  split
  · decide
  · exact q_lo h
theorem q_rtn {r p v t : Int32} (h1 : ¬ v = -1001) (h2 : ¬ t = -1001) (c : (q_rt r p v t).getD (-1001) = -1001) : q_rt r p v t = none := by
  by_cases e0 : r = 0
  · subst e0
    exact absurd c (q_vlo (q_bdr _))
  by_cases e1 : r = 1
  · subst e1
    rw [q_rt1] at c
    have c : q_mx v t = -1001 := c
    unfold q_mx at c
    split at c
    · exact absurd c h2
    · exact absurd c h1
  by_cases e2 : r = 2
  · subst e2
    rw [q_rt2] at c
    cases hb : q_ev (q_bd (v + t)) with
    | true => rw [hb] at c; exact absurd c (q_vlo (q_bdr _))
    | false => rw [hb] at c; exact absurd (show (-1000 : Int32) = -1001 from c) (by decide)
  by_cases e3 : r = 3
  · subst e3
    exact absurd c (by rw [q_rt3]; decide)
  by_cases e4 : r = 4
  · subst e4
    rw [q_rt4] at c ⊢
    cases hb : q_ev (q_bd (v + t)) with
    | true => rw [hb] at c; exact absurd c (q_vlo (q_bdr _))
    | false => rfl
  unfold q_rt at c
  rw [if_neg e0, if_neg e1, if_neg e2, if_neg e3, if_neg e4] at c
  exact absurd c (q_vlo (q_bdr _))
theorem q_g1 {r p q t : Int32} (h1 : ¬ (q < -1000 ∨ 999 < q)) (h4 : ¬ (t < -999 ∨ 999 < t)) (c : (q_rt r p (q_d q) t).getD (-1001) = -1001) : (q_rt r p (q_d q) t).getD (-9) = -9 := by
  rw [q_rtn (q_dlo (q_nor h1).1) (q_vlo (q_nor h4)) c]
  rfl
theorem q_g2 {o : Option Int32} {a b : Int32} (c : ¬ o.getD a = a) : o.getD a = o.getD b := by
  cases o with
  | none => exact absurd rfl c
  | some x => rfl
theorem q_bi {b : Bool} : z_bi b = 0 ∨ z_bi b = 1 := by cases b <;> decide
theorem q_tts {r p q x : Int32} (h : q_tt r p q = some x) : x = 0 ∨ x = 1 := by
  unfold q_tt at h
  split at h
  · cases h; exact q_bi
  split at h
  · cases h; exact q_bi
  split at h
  · cases h; exact q_bi
  split at h
  · cases h; exact q_bi
  split at h
  · cases h; exact q_bi
  split at h
  · cases h
  · cases h; exact Or.inl rfl
theorem q_h1 {r p q : Int32} (c : (q_tt r p q).getD (-1001) = -1001) : (q_tt r p q).getD (-9) = -9 := by
  cases h : q_tt r p q with
  | none => rfl
  | some x =>
    rw [h] at c
    have c : x = -1001 := c
    rcases q_tts h with z | z
    · rw [z] at c; exact absurd c (by decide)
    · rw [z] at c; exact absurd c (by decide)
end ZFn
end ZM6
section ZM7
section ZCx
variable {G : z_G} {l : Launch}
set_option maxRecDepth 100000 in
set_option maxHeartbeats 8000000 in
theorem c_X8_isEven_e (hl : l.stackTraces = false) (w : z_W) (a : Int32) : z_Con G l mX8_isEven 10 0 0 w [.int a] (fun v w9 => (v = some (.int (z_bi (q_ev a)))) ∧ w9 = w) (fun _ _ => False) := by
  refine z_body hl (by decide) rfl (Nat.le_of_ble_eq_true rfl) ?_
  show z_J G l mX8_isEven ((10, 0, 0, w, (fun v w9 => (v = some (.int (z_bi (q_ev a)))) ∧ w9 = w), fun _ _ => False)) 0 [(0, _)] [] _ 0 0
  refine j_iload_n dX8_isEven_0 rfl ?_
  refine j_iconst (v := 1) dX8_isEven_1 (by decide) ?_
  refine j_iand dX8_isEven_2 ?_
  refine j_if_ne (tgt := 10) dX8_isEven_3 (by decide) (fun c_3 => ?_) (fun c_3 => ?_)
  · refine j_iconst (v := 0) dX8_isEven_10 (by decide) ?_
    refine j_iret dX8_isEven_11 rfl rfl ?_ (Nat.le_of_ble_eq_true rfl) (Nat.le_of_ble_eq_true rfl)
    first | exact ⟨by rw [q_ev1 c_3]; rfl, rfl⟩ | exact ⟨by rw [q_ev0 c_3]; rfl, rfl⟩
  · refine j_iconst (v := 1) dX8_isEven_6 (by decide) ?_
    refine j_goto (tgt := 11) dX8_isEven_7 (by decide) ?_
    refine j_iret dX8_isEven_11 rfl rfl ?_ (Nat.le_of_ble_eq_true rfl) (Nat.le_of_ble_eq_true rfl)
    first | exact ⟨by rw [q_ev1 c_3]; rfl, rfl⟩ | exact ⟨by rw [q_ev0 c_3]; rfl, rfl⟩
set_option maxRecDepth 100000 in
set_option maxHeartbeats 8000000 in
theorem c_X8_bounded_e (hl : l.stackTraces = false) (w : z_W) (a : Int32) : z_Con G l mX8_bounded 10 0 0 w [.int a] (fun v w9 => (v = some (.int (q_bd a))) ∧ w9 = w) (fun _ _ => False) := by
  refine z_body hl (by decide) rfl (Nat.le_of_ble_eq_true rfl) ?_
  show z_J G l mX8_bounded ((10, 0, 0, w, (fun v w9 => (v = some (.int (q_bd a))) ∧ w9 = w), fun _ _ => False)) 0 [(0, _)] [] _ 0 0
  refine j_iload_n dX8_bounded_0 rfl ?_
  refine j_sipush (v := 999) dX8_bounded_1 (by decide) ?_
  refine j_icmp_le (tgt := 11) dX8_bounded_4 (by decide) (fun c_4 => ?_) (fun c_4 => ?_)
  · refine j_iload_n dX8_bounded_11 rfl ?_
    refine j_sipush (v := (-999)) dX8_bounded_12 (by decide) ?_
    refine j_icmp_ge (tgt := 24) dX8_bounded_15 (by decide) (fun c_15 => ?_) (fun c_15 => ?_)
    · refine j_iload_n dX8_bounded_24 rfl ?_
      refine j_iret dX8_bounded_25 rfl rfl ?_ (Nat.le_of_ble_eq_true rfl) (Nat.le_of_ble_eq_true rfl)
      first | exact ⟨by rw [q_bd1 (Int32.not_le.mp c_4)], rfl⟩ | exact ⟨by rw [q_bd2 (Int32.not_le.mp c_15)], rfl⟩ | exact ⟨by rw [q_bd3 (Int32.not_lt.mpr c_15) (Int32.not_lt.mpr c_4)], rfl⟩
    · refine j_sipush (v := (-999)) dX8_bounded_18 (by decide) ?_
      refine j_goto (tgt := 25) dX8_bounded_21 (by decide) ?_
      refine j_iret dX8_bounded_25 rfl rfl ?_ (Nat.le_of_ble_eq_true rfl) (Nat.le_of_ble_eq_true rfl)
      first | exact ⟨by rw [q_bd1 (Int32.not_le.mp c_4)], rfl⟩ | exact ⟨by rw [q_bd2 (Int32.not_le.mp c_15)], rfl⟩ | exact ⟨by rw [q_bd3 (Int32.not_lt.mpr c_15) (Int32.not_lt.mpr c_4)], rfl⟩
  · refine j_sipush (v := 999) dX8_bounded_7 (by decide) ?_
    refine j_iret dX8_bounded_10 rfl rfl ?_ (Nat.le_of_ble_eq_true rfl) (Nat.le_of_ble_eq_true rfl)
    first | exact ⟨by rw [q_bd1 (Int32.not_le.mp c_4)], rfl⟩ | exact ⟨by rw [q_bd2 (Int32.not_le.mp c_15)], rfl⟩ | exact ⟨by rw [q_bd3 (Int32.not_lt.mpr c_15) (Int32.not_lt.mpr c_4)], rfl⟩
set_option maxRecDepth 100000 in
set_option maxHeartbeats 8000000 in
theorem c_X8_ruleTells_e (hl : l.stackTraces = false) (w : z_W) (a b c e : Int32) : z_Con G l mX8_ruleTells 11 0 0 w [.int a, .int b, .int c, .int e] (fun v w9 => (v = some (.int ((q_rt a b (q_d c) e).getD (-1001)))) ∧ w9 = w) (fun _ _ => False) := by
  refine z_body hl (by decide) rfl (Nat.le_of_ble_eq_true rfl) ?_
  show z_J G l mX8_ruleTells ((11, 0, 0, w, (fun v w9 => (v = some (.int ((q_rt a b (q_d c) e).getD (-1001)))) ∧ w9 = w), fun _ _ => False)) 0 [(0, _), (1, _), (2, _), (3, _)] [] _ 0 0
  refine j_iload_n dX8_ruleTells_0 rfl ?_
  refine j_sipush (v := (-1000)) dX8_ruleTells_1 (by decide) ?_
  refine j_icmp_ne (tgt := 11) dX8_ruleTells_4 (by decide) (fun c_4 => ?_) (fun c_4 => ?_)
  · have hd : q_d c = c := if_neg c_4
    refine j_iload_n dX8_ruleTells_11 rfl ?_
    refine j_istore (lo' := [(4, _), (0, _), (1, _), (2, _), (3, _)]) dX8_ruleTells_12 (by decide) rfl ?_
    refine j_iload dX8_ruleTells_14 rfl ?_
    refine j_iload_n dX8_ruleTells_16 rfl ?_
    refine j_iadd dX8_ruleTells_17 ?_
    refine j_callS dX8_ruleTells_18 kX8_bounded lX8_309 stX8_bounded (c_X8_bounded_e hl _ _) (Nat.le_of_ble_eq_true rfl) ⟨(Nat.le_of_ble_eq_true rfl), (Nat.le_of_ble_eq_true rfl)⟩ rfl (Nat.le_of_ble_eq_true rfl) rfl rfl (fun _ _ h => h.elim) ?_
    rintro _ _ ⟨rfl, rfl⟩
    refine j_istore (lo' := [(5, _), (4, _), (0, _), (1, _), (2, _), (3, _)]) dX8_ruleTells_21 (by decide) rfl ?_
    refine j_iload_n dX8_ruleTells_23 rfl ?_
    rcases z_sw5 a with rfl | rfl | rfl | rfl | rfl | hp
    · refine j_tsIn (tgt := 60) dX8_ruleTells_24 (by decide) (by decide) rfl (by decide) ?_
      refine j_iload dX8_ruleTells_60 rfl ?_
      refine j_iret dX8_ruleTells_62 rfl rfl ?_ (Nat.le_of_ble_eq_true rfl) (Nat.le_of_ble_eq_true rfl)
      exact ⟨by rw [hd]; rfl, rfl⟩
    · refine j_tsIn (tgt := 63) dX8_ruleTells_24 (by decide) (by decide) rfl (by decide) ?_
      refine j_iload dX8_ruleTells_63 rfl ?_
      refine j_iload_n dX8_ruleTells_65 rfl ?_
      refine j_icmp_le (tgt := 74) dX8_ruleTells_66 (by decide) (fun c_66 => ?_) (fun c_66 => ?_)
      · refine j_iload_n dX8_ruleTells_74 rfl ?_
        refine j_iret dX8_ruleTells_75 rfl rfl ?_ (Nat.le_of_ble_eq_true rfl) (Nat.le_of_ble_eq_true rfl)
        first | exact ⟨by rw [hd, q_rt1, q_mx2 c_66]; rfl, rfl⟩ | exact ⟨by rw [hd, q_rt1, q_mx1 (Int32.not_le.mp c_66)]; rfl, rfl⟩
      · refine j_iload dX8_ruleTells_69 rfl ?_
        refine j_goto (tgt := 75) dX8_ruleTells_71 (by decide) ?_
        refine j_iret dX8_ruleTells_75 rfl rfl ?_ (Nat.le_of_ble_eq_true rfl) (Nat.le_of_ble_eq_true rfl)
        first | exact ⟨by rw [hd, q_rt1, q_mx2 c_66]; rfl, rfl⟩ | exact ⟨by rw [hd, q_rt1, q_mx1 (Int32.not_le.mp c_66)]; rfl, rfl⟩
    · refine j_tsIn (tgt := 76) dX8_ruleTells_24 (by decide) (by decide) rfl (by decide) ?_
      refine j_iload dX8_ruleTells_76 rfl ?_
      refine j_callS dX8_ruleTells_78 kX8_isEven lX8_312 stX8_isEven (c_X8_isEven_e hl _ _) (Nat.le_of_ble_eq_true rfl) ⟨(Nat.le_of_ble_eq_true rfl), (Nat.le_of_ble_eq_true rfl)⟩ rfl (Nat.le_of_ble_eq_true rfl) rfl rfl (fun _ _ h => h.elim) ?_
      rintro _ _ ⟨rfl, rfl⟩
      refine j_if_eq (tgt := 89) dX8_ruleTells_81 (by decide) (fun c_81 => ?_) (fun c_81 => ?_)
      · refine j_sipush (v := (-1000)) dX8_ruleTells_89 (by decide) ?_
        refine j_iret dX8_ruleTells_92 rfl rfl ?_ (Nat.le_of_ble_eq_true rfl) (Nat.le_of_ble_eq_true rfl)
        first | exact ⟨by rw [hd, q_rt2, z_bF c_81]; rfl, rfl⟩ | exact ⟨by rw [hd, q_rt2, z_bt c_81]; rfl, rfl⟩
      · refine j_iload dX8_ruleTells_84 rfl ?_
        refine j_goto (tgt := 92) dX8_ruleTells_86 (by decide) ?_
        refine j_iret dX8_ruleTells_92 rfl rfl ?_ (Nat.le_of_ble_eq_true rfl) (Nat.le_of_ble_eq_true rfl)
        first | exact ⟨by rw [hd, q_rt2, z_bF c_81]; rfl, rfl⟩ | exact ⟨by rw [hd, q_rt2, z_bt c_81]; rfl, rfl⟩
    · refine j_tsIn (tgt := 93) dX8_ruleTells_24 (by decide) (by decide) rfl (by decide) ?_
      refine j_sipush (v := (-1000)) dX8_ruleTells_93 (by decide) ?_
      refine j_iret dX8_ruleTells_96 rfl rfl ?_ (Nat.le_of_ble_eq_true rfl) (Nat.le_of_ble_eq_true rfl)
      exact ⟨rfl, rfl⟩
    · refine j_tsIn (tgt := 97) dX8_ruleTells_24 (by decide) (by decide) rfl (by decide) ?_
      refine j_iload dX8_ruleTells_97 rfl ?_
      refine j_callS dX8_ruleTells_99 kX8_isEven lX8_312 stX8_isEven (c_X8_isEven_e hl _ _) (Nat.le_of_ble_eq_true rfl) ⟨(Nat.le_of_ble_eq_true rfl), (Nat.le_of_ble_eq_true rfl)⟩ rfl (Nat.le_of_ble_eq_true rfl) rfl rfl (fun _ _ h => h.elim) ?_
      rintro _ _ ⟨rfl, rfl⟩
      refine j_if_eq (tgt := 110) dX8_ruleTells_102 (by decide) (fun c_102 => ?_) (fun c_102 => ?_)
      · refine j_sipush (v := (-1001)) dX8_ruleTells_110 (by decide) ?_
        refine j_iret dX8_ruleTells_113 rfl rfl ?_ (Nat.le_of_ble_eq_true rfl) (Nat.le_of_ble_eq_true rfl)
        first | exact ⟨by rw [hd, q_rt4, z_bF c_102]; rfl, rfl⟩ | exact ⟨by rw [hd, q_rt4, z_bt c_102]; rfl, rfl⟩
      · refine j_iload dX8_ruleTells_105 rfl ?_
        refine j_goto (tgt := 113) dX8_ruleTells_107 (by decide) ?_
        refine j_iret dX8_ruleTells_113 rfl rfl ?_ (Nat.le_of_ble_eq_true rfl) (Nat.le_of_ble_eq_true rfl)
        first | exact ⟨by rw [hd, q_rt4, z_bF c_102]; rfl, rfl⟩ | exact ⟨by rw [hd, q_rt4, z_bt c_102]; rfl, rfl⟩
    · refine j_tsOut (tgt := 114) dX8_ruleTells_24 hp (by decide) ?_
      refine j_iload_n dX8_ruleTells_114 rfl ?_
      refine j_iload_n dX8_ruleTells_115 rfl ?_
      refine j_iadd dX8_ruleTells_116 ?_
      refine j_callS dX8_ruleTells_117 kX8_bounded lX8_309 stX8_bounded (c_X8_bounded_e hl _ _) (Nat.le_of_ble_eq_true rfl) ⟨(Nat.le_of_ble_eq_true rfl), (Nat.le_of_ble_eq_true rfl)⟩ rfl (Nat.le_of_ble_eq_true rfl) rfl rfl (fun _ _ h => h.elim) ?_
      rintro _ _ ⟨rfl, rfl⟩
      refine j_iret dX8_ruleTells_120 rfl rfl ?_ (Nat.le_of_ble_eq_true rfl) (Nat.le_of_ble_eq_true rfl)
      exact ⟨by rw [q_rt5 hp]; rfl, rfl⟩
  · have hd : q_d c = 0 := if_pos c_4
    refine j_iconst (v := 0) dX8_ruleTells_7 (by decide) ?_
    refine j_goto (tgt := 12) dX8_ruleTells_8 (by decide) ?_
    refine j_istore (lo' := [(4, _), (0, _), (1, _), (2, _), (3, _)]) dX8_ruleTells_12 (by decide) rfl ?_
    refine j_iload dX8_ruleTells_14 rfl ?_
    refine j_iload_n dX8_ruleTells_16 rfl ?_
    refine j_iadd dX8_ruleTells_17 ?_
    refine j_callS dX8_ruleTells_18 kX8_bounded lX8_309 stX8_bounded (c_X8_bounded_e hl _ _) (Nat.le_of_ble_eq_true rfl) ⟨(Nat.le_of_ble_eq_true rfl), (Nat.le_of_ble_eq_true rfl)⟩ rfl (Nat.le_of_ble_eq_true rfl) rfl rfl (fun _ _ h => h.elim) ?_
    rintro _ _ ⟨rfl, rfl⟩
    refine j_istore (lo' := [(5, _), (4, _), (0, _), (1, _), (2, _), (3, _)]) dX8_ruleTells_21 (by decide) rfl ?_
    refine j_iload_n dX8_ruleTells_23 rfl ?_
    rcases z_sw5 a with rfl | rfl | rfl | rfl | rfl | hp
    · refine j_tsIn (tgt := 60) dX8_ruleTells_24 (by decide) (by decide) rfl (by decide) ?_
      refine j_iload dX8_ruleTells_60 rfl ?_
      refine j_iret dX8_ruleTells_62 rfl rfl ?_ (Nat.le_of_ble_eq_true rfl) (Nat.le_of_ble_eq_true rfl)
      exact ⟨by rw [hd]; rfl, rfl⟩
    · refine j_tsIn (tgt := 63) dX8_ruleTells_24 (by decide) (by decide) rfl (by decide) ?_
      refine j_iload dX8_ruleTells_63 rfl ?_
      refine j_iload_n dX8_ruleTells_65 rfl ?_
      refine j_icmp_le (tgt := 74) dX8_ruleTells_66 (by decide) (fun c_66 => ?_) (fun c_66 => ?_)
      · refine j_iload_n dX8_ruleTells_74 rfl ?_
        refine j_iret dX8_ruleTells_75 rfl rfl ?_ (Nat.le_of_ble_eq_true rfl) (Nat.le_of_ble_eq_true rfl)
        first | exact ⟨by rw [hd, q_rt1, q_mx2 c_66]; rfl, rfl⟩ | exact ⟨by rw [hd, q_rt1, q_mx1 (Int32.not_le.mp c_66)]; rfl, rfl⟩
      · refine j_iload dX8_ruleTells_69 rfl ?_
        refine j_goto (tgt := 75) dX8_ruleTells_71 (by decide) ?_
        refine j_iret dX8_ruleTells_75 rfl rfl ?_ (Nat.le_of_ble_eq_true rfl) (Nat.le_of_ble_eq_true rfl)
        first | exact ⟨by rw [hd, q_rt1, q_mx2 c_66]; rfl, rfl⟩ | exact ⟨by rw [hd, q_rt1, q_mx1 (Int32.not_le.mp c_66)]; rfl, rfl⟩
    · refine j_tsIn (tgt := 76) dX8_ruleTells_24 (by decide) (by decide) rfl (by decide) ?_
      refine j_iload dX8_ruleTells_76 rfl ?_
      refine j_callS dX8_ruleTells_78 kX8_isEven lX8_312 stX8_isEven (c_X8_isEven_e hl _ _) (Nat.le_of_ble_eq_true rfl) ⟨(Nat.le_of_ble_eq_true rfl), (Nat.le_of_ble_eq_true rfl)⟩ rfl (Nat.le_of_ble_eq_true rfl) rfl rfl (fun _ _ h => h.elim) ?_
      rintro _ _ ⟨rfl, rfl⟩
      refine j_if_eq (tgt := 89) dX8_ruleTells_81 (by decide) (fun c_81 => ?_) (fun c_81 => ?_)
      · refine j_sipush (v := (-1000)) dX8_ruleTells_89 (by decide) ?_
        refine j_iret dX8_ruleTells_92 rfl rfl ?_ (Nat.le_of_ble_eq_true rfl) (Nat.le_of_ble_eq_true rfl)
        first | exact ⟨by rw [hd, q_rt2, z_bF c_81]; rfl, rfl⟩ | exact ⟨by rw [hd, q_rt2, z_bt c_81]; rfl, rfl⟩
      · refine j_iload dX8_ruleTells_84 rfl ?_
        refine j_goto (tgt := 92) dX8_ruleTells_86 (by decide) ?_
        refine j_iret dX8_ruleTells_92 rfl rfl ?_ (Nat.le_of_ble_eq_true rfl) (Nat.le_of_ble_eq_true rfl)
        first | exact ⟨by rw [hd, q_rt2, z_bF c_81]; rfl, rfl⟩ | exact ⟨by rw [hd, q_rt2, z_bt c_81]; rfl, rfl⟩
    · refine j_tsIn (tgt := 93) dX8_ruleTells_24 (by decide) (by decide) rfl (by decide) ?_
      refine j_sipush (v := (-1000)) dX8_ruleTells_93 (by decide) ?_
      refine j_iret dX8_ruleTells_96 rfl rfl ?_ (Nat.le_of_ble_eq_true rfl) (Nat.le_of_ble_eq_true rfl)
      exact ⟨rfl, rfl⟩
    · refine j_tsIn (tgt := 97) dX8_ruleTells_24 (by decide) (by decide) rfl (by decide) ?_
      refine j_iload dX8_ruleTells_97 rfl ?_
      refine j_callS dX8_ruleTells_99 kX8_isEven lX8_312 stX8_isEven (c_X8_isEven_e hl _ _) (Nat.le_of_ble_eq_true rfl) ⟨(Nat.le_of_ble_eq_true rfl), (Nat.le_of_ble_eq_true rfl)⟩ rfl (Nat.le_of_ble_eq_true rfl) rfl rfl (fun _ _ h => h.elim) ?_
      rintro _ _ ⟨rfl, rfl⟩
      refine j_if_eq (tgt := 110) dX8_ruleTells_102 (by decide) (fun c_102 => ?_) (fun c_102 => ?_)
      · refine j_sipush (v := (-1001)) dX8_ruleTells_110 (by decide) ?_
        refine j_iret dX8_ruleTells_113 rfl rfl ?_ (Nat.le_of_ble_eq_true rfl) (Nat.le_of_ble_eq_true rfl)
        first | exact ⟨by rw [hd, q_rt4, z_bF c_102]; rfl, rfl⟩ | exact ⟨by rw [hd, q_rt4, z_bt c_102]; rfl, rfl⟩
      · refine j_iload dX8_ruleTells_105 rfl ?_
        refine j_goto (tgt := 113) dX8_ruleTells_107 (by decide) ?_
        refine j_iret dX8_ruleTells_113 rfl rfl ?_ (Nat.le_of_ble_eq_true rfl) (Nat.le_of_ble_eq_true rfl)
        first | exact ⟨by rw [hd, q_rt4, z_bF c_102]; rfl, rfl⟩ | exact ⟨by rw [hd, q_rt4, z_bt c_102]; rfl, rfl⟩
    · refine j_tsOut (tgt := 114) dX8_ruleTells_24 hp (by decide) ?_
      refine j_iload_n dX8_ruleTells_114 rfl ?_
      refine j_iload_n dX8_ruleTells_115 rfl ?_
      refine j_iadd dX8_ruleTells_116 ?_
      refine j_callS dX8_ruleTells_117 kX8_bounded lX8_309 stX8_bounded (c_X8_bounded_e hl _ _) (Nat.le_of_ble_eq_true rfl) ⟨(Nat.le_of_ble_eq_true rfl), (Nat.le_of_ble_eq_true rfl)⟩ rfl (Nat.le_of_ble_eq_true rfl) rfl rfl (fun _ _ h => h.elim) ?_
      rintro _ _ ⟨rfl, rfl⟩
      refine j_iret dX8_ruleTells_120 rfl rfl ?_ (Nat.le_of_ble_eq_true rfl) (Nat.le_of_ble_eq_true rfl)
      exact ⟨by rw [q_rt5 hp]; rfl, rfl⟩
set_option maxRecDepth 100000 in
set_option maxHeartbeats 8000000 in
theorem c_X8_testTells_e (hl : l.stackTraces = false) (w : z_W) (a b c : Int32) : z_Con G l mX8_testTells 11 0 0 w [.int a, .int b, .int c] (fun v w9 => (v = some (.int ((q_tt a b c).getD (-1001)))) ∧ w9 = w) (fun _ _ => False) := by
  refine z_body hl (by decide) rfl (Nat.le_of_ble_eq_true rfl) ?_
  show z_J G l mX8_testTells ((11, 0, 0, w, (fun v w9 => (v = some (.int ((q_tt a b c).getD (-1001)))) ∧ w9 = w), fun _ _ => False)) 0 [(0, _), (1, _), (2, _)] [] _ 0 0
  refine j_iload_n dX8_testTells_0 rfl ?_
  rcases z_sw5 a with rfl | rfl | rfl | rfl | rfl | hp
  · refine j_tsIn (tgt := 36) dX8_testTells_1 (by decide) (by decide) rfl (by decide) ?_
    refine j_iload_n dX8_testTells_36 rfl ?_
    refine j_callS dX8_testTells_37 kX8_isEven lX8_312 stX8_isEven (c_X8_isEven_e hl _ _) (Nat.le_of_ble_eq_true rfl) ⟨(Nat.le_of_ble_eq_true rfl), (Nat.le_of_ble_eq_true rfl)⟩ rfl (Nat.le_of_ble_eq_true rfl) rfl rfl (fun _ _ h => h.elim) ?_
    rintro _ _ ⟨rfl, rfl⟩
    refine j_callS dX8_testTells_40 kX8_oneIf lX8_83 stX8_oneIf (c_X8_oneIf_b hl _ _) (Nat.le_of_ble_eq_true rfl) ⟨(Nat.le_of_ble_eq_true rfl), (Nat.le_of_ble_eq_true rfl)⟩ rfl (Nat.le_of_ble_eq_true rfl) rfl rfl (fun _ _ h => h.elim) ?_
    rintro _ _ ⟨rfl, rfl⟩
    refine j_iret dX8_testTells_43 rfl rfl ?_ (Nat.le_of_ble_eq_true rfl) (Nat.le_of_ble_eq_true rfl)
    exact ⟨rfl, rfl⟩
  · refine j_tsIn (tgt := 44) dX8_testTells_1 (by decide) (by decide) rfl (by decide) ?_
    refine j_iload_n dX8_testTells_44 rfl ?_
    refine j_callS dX8_testTells_45 kX8_isEven lX8_312 stX8_isEven (c_X8_isEven_e hl _ _) (Nat.le_of_ble_eq_true rfl) ⟨(Nat.le_of_ble_eq_true rfl), (Nat.le_of_ble_eq_true rfl)⟩ rfl (Nat.le_of_ble_eq_true rfl) rfl rfl (fun _ _ h => h.elim) ?_
    rintro _ _ ⟨rfl, rfl⟩
    refine j_if_ne (tgt := 55) dX8_testTells_48 (by decide) (fun c_48 => ?_) (fun c_48 => ?_)
    · refine j_iconst (v := 0) dX8_testTells_55 (by decide) ?_
      refine j_callS dX8_testTells_56 kX8_oneIf lX8_83 stX8_oneIf (c_X8_oneIf_b hl _ false) (Nat.le_of_ble_eq_true rfl) ⟨(Nat.le_of_ble_eq_true rfl), (Nat.le_of_ble_eq_true rfl)⟩ rfl (Nat.le_of_ble_eq_true rfl) rfl rfl (fun _ _ h => h.elim) ?_
      rintro _ _ ⟨rfl, rfl⟩
      refine j_iret dX8_testTells_59 rfl rfl ?_ (Nat.le_of_ble_eq_true rfl) (Nat.le_of_ble_eq_true rfl)
      first | exact ⟨by rw [q_tt1, z_bF c_48]; rfl, rfl⟩ | exact ⟨by rw [q_tt1, z_bt c_48]; rfl, rfl⟩
    · refine j_iconst (v := 1) dX8_testTells_51 (by decide) ?_
      refine j_goto (tgt := 56) dX8_testTells_52 (by decide) ?_
      refine j_callS dX8_testTells_56 kX8_oneIf lX8_83 stX8_oneIf (c_X8_oneIf_b hl _ true) (Nat.le_of_ble_eq_true rfl) ⟨(Nat.le_of_ble_eq_true rfl), (Nat.le_of_ble_eq_true rfl)⟩ rfl (Nat.le_of_ble_eq_true rfl) rfl rfl (fun _ _ h => h.elim) ?_
      rintro _ _ ⟨rfl, rfl⟩
      refine j_iret dX8_testTells_59 rfl rfl ?_ (Nat.le_of_ble_eq_true rfl) (Nat.le_of_ble_eq_true rfl)
      first | exact ⟨by rw [q_tt1, z_bF c_48]; rfl, rfl⟩ | exact ⟨by rw [q_tt1, z_bt c_48]; rfl, rfl⟩
  · refine j_tsIn (tgt := 60) dX8_testTells_1 (by decide) (by decide) rfl (by decide) ?_
    refine j_iload_n dX8_testTells_60 rfl ?_
    refine j_iload_n dX8_testTells_61 rfl ?_
    refine j_icmp_ge (tgt := 69) dX8_testTells_62 (by decide) (fun c_62 => ?_) (fun c_62 => ?_)
    · refine j_iconst (v := 0) dX8_testTells_69 (by decide) ?_
      refine j_callS dX8_testTells_70 kX8_oneIf lX8_83 stX8_oneIf (c_X8_oneIf_b hl _ false) (Nat.le_of_ble_eq_true rfl) ⟨(Nat.le_of_ble_eq_true rfl), (Nat.le_of_ble_eq_true rfl)⟩ rfl (Nat.le_of_ble_eq_true rfl) rfl rfl (fun _ _ h => h.elim) ?_
      rintro _ _ ⟨rfl, rfl⟩
      refine j_iret dX8_testTells_73 rfl rfl ?_ (Nat.le_of_ble_eq_true rfl) (Nat.le_of_ble_eq_true rfl)
      first | exact ⟨by rw [q_tt2, decide_eq_false (Int32.not_lt.mpr c_62)]; rfl, rfl⟩ | exact ⟨by rw [q_tt2, decide_eq_true (Int32.not_le.mp c_62)]; rfl, rfl⟩
    · refine j_iconst (v := 1) dX8_testTells_65 (by decide) ?_
      refine j_goto (tgt := 70) dX8_testTells_66 (by decide) ?_
      refine j_callS dX8_testTells_70 kX8_oneIf lX8_83 stX8_oneIf (c_X8_oneIf_b hl _ true) (Nat.le_of_ble_eq_true rfl) ⟨(Nat.le_of_ble_eq_true rfl), (Nat.le_of_ble_eq_true rfl)⟩ rfl (Nat.le_of_ble_eq_true rfl) rfl rfl (fun _ _ h => h.elim) ?_
      rintro _ _ ⟨rfl, rfl⟩
      refine j_iret dX8_testTells_73 rfl rfl ?_ (Nat.le_of_ble_eq_true rfl) (Nat.le_of_ble_eq_true rfl)
      first | exact ⟨by rw [q_tt2, decide_eq_false (Int32.not_lt.mpr c_62)]; rfl, rfl⟩ | exact ⟨by rw [q_tt2, decide_eq_true (Int32.not_le.mp c_62)]; rfl, rfl⟩
  · refine j_tsIn (tgt := 74) dX8_testTells_1 (by decide) (by decide) rfl (by decide) ?_
    refine j_iload_n dX8_testTells_74 rfl ?_
    refine j_iload_n dX8_testTells_75 rfl ?_
    refine j_icmp_le (tgt := 83) dX8_testTells_76 (by decide) (fun c_76 => ?_) (fun c_76 => ?_)
    · refine j_iconst (v := 0) dX8_testTells_83 (by decide) ?_
      refine j_callS dX8_testTells_84 kX8_oneIf lX8_83 stX8_oneIf (c_X8_oneIf_b hl _ false) (Nat.le_of_ble_eq_true rfl) ⟨(Nat.le_of_ble_eq_true rfl), (Nat.le_of_ble_eq_true rfl)⟩ rfl (Nat.le_of_ble_eq_true rfl) rfl rfl (fun _ _ h => h.elim) ?_
      rintro _ _ ⟨rfl, rfl⟩
      refine j_iret dX8_testTells_87 rfl rfl ?_ (Nat.le_of_ble_eq_true rfl) (Nat.le_of_ble_eq_true rfl)
      first | exact ⟨by rw [q_tt3, decide_eq_false (Int32.not_lt.mpr c_76)]; rfl, rfl⟩ | exact ⟨by rw [q_tt3, decide_eq_true (Int32.not_le.mp c_76)]; rfl, rfl⟩
    · refine j_iconst (v := 1) dX8_testTells_79 (by decide) ?_
      refine j_goto (tgt := 84) dX8_testTells_80 (by decide) ?_
      refine j_callS dX8_testTells_84 kX8_oneIf lX8_83 stX8_oneIf (c_X8_oneIf_b hl _ true) (Nat.le_of_ble_eq_true rfl) ⟨(Nat.le_of_ble_eq_true rfl), (Nat.le_of_ble_eq_true rfl)⟩ rfl (Nat.le_of_ble_eq_true rfl) rfl rfl (fun _ _ h => h.elim) ?_
      rintro _ _ ⟨rfl, rfl⟩
      refine j_iret dX8_testTells_87 rfl rfl ?_ (Nat.le_of_ble_eq_true rfl) (Nat.le_of_ble_eq_true rfl)
      first | exact ⟨by rw [q_tt3, decide_eq_false (Int32.not_lt.mpr c_76)]; rfl, rfl⟩ | exact ⟨by rw [q_tt3, decide_eq_true (Int32.not_le.mp c_76)]; rfl, rfl⟩
  · refine j_tsIn (tgt := 88) dX8_testTells_1 (by decide) (by decide) rfl (by decide) ?_
    refine j_iload_n dX8_testTells_88 rfl ?_
    refine j_iload_n dX8_testTells_89 rfl ?_
    refine j_icmp_ne (tgt := 97) dX8_testTells_90 (by decide) (fun c_90 => ?_) (fun c_90 => ?_)
    · refine j_iconst (v := 0) dX8_testTells_97 (by decide) ?_
      refine j_callS dX8_testTells_98 kX8_oneIf lX8_83 stX8_oneIf (c_X8_oneIf_b hl _ false) (Nat.le_of_ble_eq_true rfl) ⟨(Nat.le_of_ble_eq_true rfl), (Nat.le_of_ble_eq_true rfl)⟩ rfl (Nat.le_of_ble_eq_true rfl) rfl rfl (fun _ _ h => h.elim) ?_
      rintro _ _ ⟨rfl, rfl⟩
      refine j_iret dX8_testTells_101 rfl rfl ?_ (Nat.le_of_ble_eq_true rfl) (Nat.le_of_ble_eq_true rfl)
      first | exact ⟨by rw [q_tt4, decide_eq_false c_90]; rfl, rfl⟩ | exact ⟨by rw [q_tt4, decide_eq_true c_90]; rfl, rfl⟩
    · refine j_iconst (v := 1) dX8_testTells_93 (by decide) ?_
      refine j_goto (tgt := 98) dX8_testTells_94 (by decide) ?_
      refine j_callS dX8_testTells_98 kX8_oneIf lX8_83 stX8_oneIf (c_X8_oneIf_b hl _ true) (Nat.le_of_ble_eq_true rfl) ⟨(Nat.le_of_ble_eq_true rfl), (Nat.le_of_ble_eq_true rfl)⟩ rfl (Nat.le_of_ble_eq_true rfl) rfl rfl (fun _ _ h => h.elim) ?_
      rintro _ _ ⟨rfl, rfl⟩
      refine j_iret dX8_testTells_101 rfl rfl ?_ (Nat.le_of_ble_eq_true rfl) (Nat.le_of_ble_eq_true rfl)
      first | exact ⟨by rw [q_tt4, decide_eq_false c_90]; rfl, rfl⟩ | exact ⟨by rw [q_tt4, decide_eq_true c_90]; rfl, rfl⟩
  · refine j_tsOut (tgt := 102) dX8_testTells_1 hp (by decide) ?_
    refine j_iload_n dX8_testTells_102 rfl ?_
    refine j_iload_n dX8_testTells_103 rfl ?_
    refine j_icmp_ne (tgt := 113) dX8_testTells_104 (by decide) (fun c_104 => ?_) (fun c_104 => ?_)
    · refine j_iconst (v := 0) dX8_testTells_113 (by decide) ?_
      refine j_iret dX8_testTells_114 rfl rfl ?_ (Nat.le_of_ble_eq_true rfl) (Nat.le_of_ble_eq_true rfl)
      first | exact ⟨by rw [q_tt5 hp, if_neg c_104]; rfl, rfl⟩ | exact ⟨by rw [q_tt5 hp, if_pos c_104]; rfl, rfl⟩
    · refine j_sipush (v := (-1001)) dX8_testTells_107 (by decide) ?_
      refine j_goto (tgt := 114) dX8_testTells_110 (by decide) ?_
      refine j_iret dX8_testTells_114 rfl rfl ?_ (Nat.le_of_ble_eq_true rfl) (Nat.le_of_ble_eq_true rfl)
      first | exact ⟨by rw [q_tt5 hp, if_neg c_104]; rfl, rfl⟩ | exact ⟨by rw [q_tt5 hp, if_pos c_104]; rfl, rfl⟩
set_option maxRecDepth 100000 in
set_option maxHeartbeats 8000000 in
theorem c_X8_checkRange_e (hl : l.stackTraces = false) (w : z_W) (a b c : Int32) : z_Con G l mX8_checkRange 10 1 6 w [.int a, .int b, .int c] (fun v w9 => (v = none ∧ ¬ (a < b ∨ c < a)) ∧ w9 = w) (fun E w9 => (z_xA E ∧ (a < b ∨ c < a)) ∧ w9 = w) := by
  refine z_body hl (by decide) rfl (Nat.le_of_ble_eq_true rfl) ?_
  show z_J G l mX8_checkRange ((10, 1, 6, w, (fun v w9 => (v = none ∧ ¬ (a < b ∨ c < a)) ∧ w9 = w), fun E w9 => (z_xA E ∧ (a < b ∨ c < a)) ∧ w9 = w)) 0 [(0, _), (1, _), (2, _)] [] _ 0 0
  refine j_iload_n dX8_checkRange_0 rfl ?_
  refine j_iload_n dX8_checkRange_1 rfl ?_
  refine j_icmp_lt (tgt := 10) dX8_checkRange_2 (by decide) (fun c_2 => ?_) (fun c_2 => ?_)
  · exact j_throwSW (text := "the number is out of its range") rfl th_A (by decide +kernel) dX8_checkRange_10 dX8_checkRange_13 dX8_checkRange_14 dX8_checkRange_17 dX8_checkRange_20 (Nat.le_of_ble_eq_true rfl) (Nat.le_of_ble_eq_true rfl) ⟨⟨rfl, by first | exact Or.inl c_2 | exact Or.inr (Int32.not_le.mp c_7)⟩, rfl⟩ (Nat.le_of_ble_eq_true rfl) (Nat.le_of_ble_eq_true rfl)
  · refine j_iload_n dX8_checkRange_5 rfl ?_
    refine j_iload_n dX8_checkRange_6 rfl ?_
    refine j_icmp_le (tgt := 21) dX8_checkRange_7 (by decide) (fun c_7 => ?_) (fun c_7 => ?_)
    · refine j_vret dX8_checkRange_21 rfl ?_ (Nat.le_of_ble_eq_true rfl) (Nat.le_of_ble_eq_true rfl)
      exact ⟨⟨rfl, fun z => z.elim (fun z => c_2 z) (fun z => absurd z (Int32.not_lt.mpr c_7))⟩, rfl⟩
    · exact j_throwSW (text := "the number is out of its range") rfl th_A (by decide +kernel) dX8_checkRange_10 dX8_checkRange_13 dX8_checkRange_14 dX8_checkRange_17 dX8_checkRange_20 (Nat.le_of_ble_eq_true rfl) (Nat.le_of_ble_eq_true rfl) ⟨⟨rfl, by first | exact Or.inl c_2 | exact Or.inr (Int32.not_le.mp c_7)⟩, rfl⟩ (Nat.le_of_ble_eq_true rfl) (Nat.le_of_ble_eq_true rfl)
set_option maxRecDepth 100000 in
set_option maxHeartbeats 8000000 in
theorem c_X8_checkValue_e (hl : l.stackTraces = false) (w : z_W) (a : Int32) : z_Con G l mX8_checkValue 11 1 6 w [.int a] (fun v w9 => (v = none ∧ ¬ (a < -999 ∨ 999 < a)) ∧ w9 = w) (fun E w9 => (z_xA E ∧ (a < -999 ∨ 999 < a)) ∧ w9 = w) := by
  refine z_body hl (by decide) rfl (Nat.le_of_ble_eq_true rfl) ?_
  show z_J G l mX8_checkValue ((11, 1, 6, w, (fun v w9 => (v = none ∧ ¬ (a < -999 ∨ 999 < a)) ∧ w9 = w), fun E w9 => (z_xA E ∧ (a < -999 ∨ 999 < a)) ∧ w9 = w)) 0 [(0, _)] [] _ 0 0
  refine j_iload_n dX8_checkValue_0 rfl ?_
  refine j_sipush (v := (-999)) dX8_checkValue_1 (by decide) ?_
  refine j_sipush (v := 999) dX8_checkValue_4 (by decide) ?_
  refine j_callS dX8_checkValue_7 kX8_checkRange lX8_72 stX8_checkRange (c_X8_checkRange_e hl _ _ _ _) (Nat.le_of_ble_eq_true rfl) ⟨(Nat.le_of_ble_eq_true rfl), (Nat.le_of_ble_eq_true rfl)⟩ rfl (Nat.le_of_ble_eq_true rfl) rfl rfl (fun _ _ h => ⟨(fun h1 => h1) h.1, h.2⟩) ?_
  rintro _ _ ⟨⟨rfl, hc7⟩, rfl⟩
  refine j_vret dX8_checkValue_10 rfl ?_ (Nat.le_of_ble_eq_true rfl) (Nat.le_of_ble_eq_true rfl)
  exact ⟨⟨rfl, hc7⟩, rfl⟩
set_option maxRecDepth 100000 in
set_option maxHeartbeats 8000000 in
theorem c_X8_checkKey_e (hl : l.stackTraces = false) (w : z_W) (a : Int32) : z_Con G l mX8_checkKey 11 1 6 w [.int a] (fun v w9 => (v = none ∧ ¬ (a < 0 ∨ 19 < a)) ∧ w9 = w) (fun E w9 => (z_xA E ∧ (a < 0 ∨ 19 < a)) ∧ w9 = w) := by
  refine z_body hl (by decide) rfl (Nat.le_of_ble_eq_true rfl) ?_
  show z_J G l mX8_checkKey ((11, 1, 6, w, (fun v w9 => (v = none ∧ ¬ (a < 0 ∨ 19 < a)) ∧ w9 = w), fun E w9 => (z_xA E ∧ (a < 0 ∨ 19 < a)) ∧ w9 = w)) 0 [(0, _)] [] _ 0 0
  refine j_iload_n dX8_checkKey_0 rfl ?_
  refine j_iconst (v := 0) dX8_checkKey_1 (by decide) ?_
  refine j_bipush (v := 19) dX8_checkKey_2 (by decide) ?_
  refine j_callS dX8_checkKey_4 kX8_checkRange lX8_72 stX8_checkRange (c_X8_checkRange_e hl _ _ _ _) (Nat.le_of_ble_eq_true rfl) ⟨(Nat.le_of_ble_eq_true rfl), (Nat.le_of_ble_eq_true rfl)⟩ rfl (Nat.le_of_ble_eq_true rfl) rfl rfl (fun _ _ h => ⟨(fun h1 => h1) h.1, h.2⟩) ?_
  rintro _ _ ⟨⟨rfl, hc4⟩, rfl⟩
  refine j_vret dX8_checkKey_7 rfl ?_ (Nat.le_of_ble_eq_true rfl) (Nat.le_of_ble_eq_true rfl)
  exact ⟨⟨rfl, hc4⟩, rfl⟩
set_option maxRecDepth 100000 in
set_option maxHeartbeats 8000000 in
theorem c_X8_rowFor_e (hl : l.stackTraces = false) (rf : Int32) (kn : Int32) (ma : Int32) (xa : Bool) (fa : Nat → Int32) (ca : Nat → Int32) (mb : Int32) (xb : Bool) (fb : Nat → Int32) (cb : Nat → Int32) (mt : Int32) (xt : Bool) (ft : Nat → Int32) (ct : Nat → Int32) (f0 : Nat → Int32) (g0 : Nat → Int32) (c0 : Nat → Int32) (m0 : Int32) (s0 : Int32) (f1 : Nat → Int32) (g1 : Nat → Int32) (c1 : Nat → Int32) (m1 : Int32) (s1 : Int32) (f2 : Nat → Int32) (g2 : Nat → Int32) (c2 : Nat → Int32) (m2 : Int32) (s2 : Int32) (f3 : Nat → Int32) (g3 : Nat → Int32) (c3 : Nat → Int32) (m3 : Int32) (s3 : Int32) (f4 : Nat → Int32) (g4 : Nat → Int32) (c4 : Nat → Int32) (m4 : Int32) (s4 : Int32) (f5 : Nat → Int32) (g5 : Nat → Int32) (c5 : Nat → Int32) (m5 : Int32) (s5 : Int32) (ek0 : Int32) (em0 : Int32) (es0 : Int32) (el0 : Int32) (b0 : Int32) (ef0 : Nat → Int32) (ek1 : Int32) (em1 : Int32) (es1 : Int32) (el1 : Int32) (b1 : Int32) (ef1 : Nat → Int32) (r : Int32) : z_CX G l mX8_rowFor 10 1 6 (z_cw rf kn ma xa fa ca mb xb fb cb mt xt ft ct f0 g0 c0 m0 s0 f1 g1 c1 m1 s1 f2 g2 c2 m2 s2 f3 g3 c3 m3 s3 f4 g4 c4 m4 s4 f5 g5 c5 m5 s5 ek0 em0 es0 el0 b0 ef0 ek1 em1 es1 el1 b1 ef1 []) [.ref 0, .int r] (fun v L => ∃ n : Nat, v = some (.ref n) ∧ ((r = 0 ∧ n = 2) ∨ (r = 1 ∧ n = 6)) ∧ L = (z_cw rf kn ma xa fa ca mb xb fb cb mt xt ft ct f0 g0 c0 m0 s0 f1 g1 c1 m1 s1 f2 g2 c2 m2 s2 f3 g3 c3 m3 s3 f4 g4 c4 m4 s4 f5 g5 c5 m5 s5 ek0 em0 es0 el0 b0 ef0 ek1 em1 es1 el1 b1 ef1 [])) (fun E L => (z_xI E ∧ ¬ (r = 0 ∨ r = 1)) ∧ L = (z_cw rf kn ma xa fa ca mb xb fb cb mt xt ft ct f0 g0 c0 m0 s0 f1 g1 c1 m1 s1 f2 g2 c2 m2 s2 f3 g3 c3 m3 s3 f4 g4 c4 m4 s4 f5 g5 c5 m5 s5 ek0 em0 es0 el0 b0 ef0 ek1 em1 es1 el1 b1 ef1 [])) := by
  refine z_body hl (by decide) rfl (Nat.le_of_ble_eq_true rfl) ?_
  show z_J G l mX8_rowFor (z_SX 10 1 6 (z_cw rf kn ma xa fa ca mb xb fb cb mt xt ft ct f0 g0 c0 m0 s0 f1 g1 c1 m1 s1 f2 g2 c2 m2 s2 f3 g3 c3 m3 s3 f4 g4 c4 m4 s4 f5 g5 c5 m5 s5 ek0 em0 es0 el0 b0 ef0 ek1 em1 es1 el1 b1 ef1 []) (fun v L => ∃ n : Nat, v = some (.ref n) ∧ ((r = 0 ∧ n = 2) ∨ (r = 1 ∧ n = 6)) ∧ L = (z_cw rf kn ma xa fa ca mb xb fb cb mt xt ft ct f0 g0 c0 m0 s0 f1 g1 c1 m1 s1 f2 g2 c2 m2 s2 f3 g3 c3 m3 s3 f4 g4 c4 m4 s4 f5 g5 c5 m5 s5 ek0 em0 es0 el0 b0 ef0 ek1 em1 es1 el1 b1 ef1 [])) (fun E L => (z_xI E ∧ ¬ (r = 0 ∨ r = 1)) ∧ L = (z_cw rf kn ma xa fa ca mb xb fb cb mt xt ft ct f0 g0 c0 m0 s0 f1 g1 c1 m1 s1 f2 g2 c2 m2 s2 f3 g3 c3 m3 s3 f4 g4 c4 m4 s4 f5 g5 c5 m5 s5 ek0 em0 es0 el0 b0 ef0 ek1 em1 es1 el1 b1 ef1 []))) 0 [(0, _), (1, _)] [] _ 0 0
  refine j_iload_n dX8_rowFor_0 rfl ?_
  refine j_if_lt (tgt := 13) dX8_rowFor_1 (by decide) (fun c_1 => ?_) (fun c_1 => ?_)
  · exact j_throwSW (text := "there is no such row") rfl th_I (by decide +kernel) dX8_rowFor_13 dX8_rowFor_16 dX8_rowFor_17 dX8_rowFor_20 dX8_rowFor_23 (Nat.le_of_ble_eq_true rfl) (Nat.le_of_ble_eq_true rfl) ⟨rfl, rfl, ⟨rfl, by first | exact q_n2a c_1 | exact q_n2b c_10⟩, rfl⟩ (Nat.le_of_ble_eq_true rfl) (Nat.le_of_ble_eq_true rfl)
  · refine j_iload_n dX8_rowFor_4 rfl ?_
    refine j_aload_n dX8_rowFor_5 rfl rfl ?_
    refine j_getf dX8_rowFor_6 fX8_10 rfl rfl ?_
    refine j_alen dX8_rowFor_9 rfl rfl rfl ?_
    refine j_icmp_lt (tgt := 24) dX8_rowFor_10 (by decide) (fun c_10 => ?_) (fun c_10 => ?_)
    · rcases z_r2 c_1 c_10 with rfl | rfl
      · refine j_aload_n dX8_rowFor_24 rfl rfl ?_
        refine j_getf dX8_rowFor_25 fX8_10 rfl rfl ?_
        refine j_iload_n dX8_rowFor_28 rfl ?_
        refine j_aald (v := .ref 2) dX8_rowFor_29 rfl rfl rfl (vp_in_iff.mpr (by decide)) rfl ?_
        refine j_aret dX8_rowFor_30 rfl (Or.inl ⟨_, rfl⟩) rfl ?_ (Nat.le_of_ble_eq_true rfl) (Nat.le_of_ble_eq_true rfl)
        exact ⟨rfl, rfl, _, rfl, (by first | exact Or.inl ⟨rfl, rfl⟩ | exact Or.inr (⟨rfl, rfl⟩)), rfl⟩
      · refine j_aload_n dX8_rowFor_24 rfl rfl ?_
        refine j_getf dX8_rowFor_25 fX8_10 rfl rfl ?_
        refine j_iload_n dX8_rowFor_28 rfl ?_
        refine j_aald (v := .ref 6) dX8_rowFor_29 rfl rfl rfl (vp_in_iff.mpr (by decide)) rfl ?_
        refine j_aret dX8_rowFor_30 rfl (Or.inl ⟨_, rfl⟩) rfl ?_ (Nat.le_of_ble_eq_true rfl) (Nat.le_of_ble_eq_true rfl)
        exact ⟨rfl, rfl, _, rfl, (by first | exact Or.inl ⟨rfl, rfl⟩ | exact Or.inr (⟨rfl, rfl⟩)), rfl⟩
    · exact j_throwSW (text := "there is no such row") rfl th_I (by decide +kernel) dX8_rowFor_13 dX8_rowFor_16 dX8_rowFor_17 dX8_rowFor_20 dX8_rowFor_23 (Nat.le_of_ble_eq_true rfl) (Nat.le_of_ble_eq_true rfl) ⟨rfl, rfl, ⟨rfl, by first | exact q_n2a c_1 | exact q_n2b c_10⟩, rfl⟩ (Nat.le_of_ble_eq_true rfl) (Nat.le_of_ble_eq_true rfl)
set_option maxRecDepth 100000 in
set_option maxHeartbeats 8000000 in
theorem c_X8_hearerFor_e (hl : l.stackTraces = false) (rf : Int32) (kn : Int32) (ma : Int32) (xa : Bool) (fa : Nat → Int32) (ca : Nat → Int32) (mb : Int32) (xb : Bool) (fb : Nat → Int32) (cb : Nat → Int32) (mt : Int32) (xt : Bool) (ft : Nat → Int32) (ct : Nat → Int32) (f0 : Nat → Int32) (g0 : Nat → Int32) (c0 : Nat → Int32) (m0 : Int32) (s0 : Int32) (f1 : Nat → Int32) (g1 : Nat → Int32) (c1 : Nat → Int32) (m1 : Int32) (s1 : Int32) (f2 : Nat → Int32) (g2 : Nat → Int32) (c2 : Nat → Int32) (m2 : Int32) (s2 : Int32) (f3 : Nat → Int32) (g3 : Nat → Int32) (c3 : Nat → Int32) (m3 : Int32) (s3 : Int32) (f4 : Nat → Int32) (g4 : Nat → Int32) (c4 : Nat → Int32) (m4 : Int32) (s4 : Int32) (f5 : Nat → Int32) (g5 : Nat → Int32) (c5 : Nat → Int32) (m5 : Int32) (s5 : Int32) (ek0 : Int32) (em0 : Int32) (es0 : Int32) (el0 : Int32) (b0 : Int32) (ef0 : Nat → Int32) (ek1 : Int32) (em1 : Int32) (es1 : Int32) (el1 : Int32) (b1 : Int32) (ef1 : Nat → Int32) (r : Int32) : z_CX G l mX8_hearerFor 10 1 6 (z_cw rf kn ma xa fa ca mb xb fb cb mt xt ft ct f0 g0 c0 m0 s0 f1 g1 c1 m1 s1 f2 g2 c2 m2 s2 f3 g3 c3 m3 s3 f4 g4 c4 m4 s4 f5 g5 c5 m5 s5 ek0 em0 es0 el0 b0 ef0 ek1 em1 es1 el1 b1 ef1 []) [.ref 0, .int r] (fun v L => ∃ n : Nat, v = some (.ref n) ∧ ((r = 0 ∧ n = 27) ∨ (r = 1 ∧ n = 29)) ∧ L = (z_cw rf kn ma xa fa ca mb xb fb cb mt xt ft ct f0 g0 c0 m0 s0 f1 g1 c1 m1 s1 f2 g2 c2 m2 s2 f3 g3 c3 m3 s3 f4 g4 c4 m4 s4 f5 g5 c5 m5 s5 ek0 em0 es0 el0 b0 ef0 ek1 em1 es1 el1 b1 ef1 [])) (fun E L => (z_xI E ∧ ¬ (r = 0 ∨ r = 1)) ∧ L = (z_cw rf kn ma xa fa ca mb xb fb cb mt xt ft ct f0 g0 c0 m0 s0 f1 g1 c1 m1 s1 f2 g2 c2 m2 s2 f3 g3 c3 m3 s3 f4 g4 c4 m4 s4 f5 g5 c5 m5 s5 ek0 em0 es0 el0 b0 ef0 ek1 em1 es1 el1 b1 ef1 [])) := by
  refine z_body hl (by decide) rfl (Nat.le_of_ble_eq_true rfl) ?_
  show z_J G l mX8_hearerFor (z_SX 10 1 6 (z_cw rf kn ma xa fa ca mb xb fb cb mt xt ft ct f0 g0 c0 m0 s0 f1 g1 c1 m1 s1 f2 g2 c2 m2 s2 f3 g3 c3 m3 s3 f4 g4 c4 m4 s4 f5 g5 c5 m5 s5 ek0 em0 es0 el0 b0 ef0 ek1 em1 es1 el1 b1 ef1 []) (fun v L => ∃ n : Nat, v = some (.ref n) ∧ ((r = 0 ∧ n = 27) ∨ (r = 1 ∧ n = 29)) ∧ L = (z_cw rf kn ma xa fa ca mb xb fb cb mt xt ft ct f0 g0 c0 m0 s0 f1 g1 c1 m1 s1 f2 g2 c2 m2 s2 f3 g3 c3 m3 s3 f4 g4 c4 m4 s4 f5 g5 c5 m5 s5 ek0 em0 es0 el0 b0 ef0 ek1 em1 es1 el1 b1 ef1 [])) (fun E L => (z_xI E ∧ ¬ (r = 0 ∨ r = 1)) ∧ L = (z_cw rf kn ma xa fa ca mb xb fb cb mt xt ft ct f0 g0 c0 m0 s0 f1 g1 c1 m1 s1 f2 g2 c2 m2 s2 f3 g3 c3 m3 s3 f4 g4 c4 m4 s4 f5 g5 c5 m5 s5 ek0 em0 es0 el0 b0 ef0 ek1 em1 es1 el1 b1 ef1 []))) 0 [(0, _), (1, _)] [] _ 0 0
  refine j_iload_n dX8_hearerFor_0 rfl ?_
  refine j_if_lt (tgt := 13) dX8_hearerFor_1 (by decide) (fun c_1 => ?_) (fun c_1 => ?_)
  · exact j_throwSW (text := "there is no such hearer") rfl th_I (by decide +kernel) dX8_hearerFor_13 dX8_hearerFor_16 dX8_hearerFor_17 dX8_hearerFor_20 dX8_hearerFor_23 (Nat.le_of_ble_eq_true rfl) (Nat.le_of_ble_eq_true rfl) ⟨rfl, rfl, ⟨rfl, by first | exact q_n2a c_1 | exact q_n2b c_10⟩, rfl⟩ (Nat.le_of_ble_eq_true rfl) (Nat.le_of_ble_eq_true rfl)
  · refine j_iload_n dX8_hearerFor_4 rfl ?_
    refine j_aload_n dX8_hearerFor_5 rfl rfl ?_
    refine j_getf dX8_hearerFor_6 fX8_32 rfl rfl ?_
    refine j_alen dX8_hearerFor_9 rfl rfl rfl ?_
    refine j_icmp_lt (tgt := 24) dX8_hearerFor_10 (by decide) (fun c_10 => ?_) (fun c_10 => ?_)
    · rcases z_r2 c_1 c_10 with rfl | rfl
      · refine j_aload_n dX8_hearerFor_24 rfl rfl ?_
        refine j_getf dX8_hearerFor_25 fX8_32 rfl rfl ?_
        refine j_iload_n dX8_hearerFor_28 rfl ?_
        refine j_aald (v := .ref 27) dX8_hearerFor_29 rfl rfl rfl (vp_in_iff.mpr (by decide)) rfl ?_
        refine j_aret dX8_hearerFor_30 rfl (Or.inl ⟨_, rfl⟩) rfl ?_ (Nat.le_of_ble_eq_true rfl) (Nat.le_of_ble_eq_true rfl)
        exact ⟨rfl, rfl, _, rfl, (by first | exact Or.inl ⟨rfl, rfl⟩ | exact Or.inr (⟨rfl, rfl⟩)), rfl⟩
      · refine j_aload_n dX8_hearerFor_24 rfl rfl ?_
        refine j_getf dX8_hearerFor_25 fX8_32 rfl rfl ?_
        refine j_iload_n dX8_hearerFor_28 rfl ?_
        refine j_aald (v := .ref 29) dX8_hearerFor_29 rfl rfl rfl (vp_in_iff.mpr (by decide)) rfl ?_
        refine j_aret dX8_hearerFor_30 rfl (Or.inl ⟨_, rfl⟩) rfl ?_ (Nat.le_of_ble_eq_true rfl) (Nat.le_of_ble_eq_true rfl)
        exact ⟨rfl, rfl, _, rfl, (by first | exact Or.inl ⟨rfl, rfl⟩ | exact Or.inr (⟨rfl, rfl⟩)), rfl⟩
    · exact j_throwSW (text := "there is no such hearer") rfl th_I (by decide +kernel) dX8_hearerFor_13 dX8_hearerFor_16 dX8_hearerFor_17 dX8_hearerFor_20 dX8_hearerFor_23 (Nat.le_of_ble_eq_true rfl) (Nat.le_of_ble_eq_true rfl) ⟨rfl, rfl, ⟨rfl, by first | exact q_n2a c_1 | exact q_n2b c_10⟩, rfl⟩ (Nat.le_of_ble_eq_true rfl) (Nat.le_of_ble_eq_true rfl)
set_option maxRecDepth 100000 in
set_option maxHeartbeats 8000000 in
theorem c_X8_refused_e (hl : l.stackTraces = false) (rf : Int32) (kn : Int32) (ma : Int32) (xa : Bool) (fa : Nat → Int32) (ca : Nat → Int32) (mb : Int32) (xb : Bool) (fb : Nat → Int32) (cb : Nat → Int32) (mt : Int32) (xt : Bool) (ft : Nat → Int32) (ct : Nat → Int32) (f0 : Nat → Int32) (g0 : Nat → Int32) (c0 : Nat → Int32) (m0 : Int32) (s0 : Int32) (f1 : Nat → Int32) (g1 : Nat → Int32) (c1 : Nat → Int32) (m1 : Int32) (s1 : Int32) (f2 : Nat → Int32) (g2 : Nat → Int32) (c2 : Nat → Int32) (m2 : Int32) (s2 : Int32) (f3 : Nat → Int32) (g3 : Nat → Int32) (c3 : Nat → Int32) (m3 : Int32) (s3 : Int32) (f4 : Nat → Int32) (g4 : Nat → Int32) (c4 : Nat → Int32) (m4 : Int32) (s4 : Int32) (f5 : Nat → Int32) (g5 : Nat → Int32) (c5 : Nat → Int32) (m5 : Int32) (s5 : Int32) (ek0 : Int32) (em0 : Int32) (es0 : Int32) (el0 : Int32) (b0 : Int32) (ef0 : Nat → Int32) (ek1 : Int32) (em1 : Int32) (es1 : Int32) (el1 : Int32) (b1 : Int32) (ef1 : Nat → Int32) : z_CF G l mX8_refused 10 0 0 (z_cw rf kn ma xa fa ca mb xb fb cb mt xt ft ct f0 g0 c0 m0 s0 f1 g1 c1 m1 s1 f2 g2 c2 m2 s2 f3 g3 c3 m3 s3 f4 g4 c4 m4 s4 f5 g5 c5 m5 s5 ek0 em0 es0 el0 b0 ef0 ek1 em1 es1 el1 b1 ef1 []) [.ref 0] (fun v L => v = some (.int (-9)) ∧ L = (z_cw (rf + 1) kn ma xa fa ca mb xb fb cb mt xt ft ct f0 g0 c0 m0 s0 f1 g1 c1 m1 s1 f2 g2 c2 m2 s2 f3 g3 c3 m3 s3 f4 g4 c4 m4 s4 f5 g5 c5 m5 s5 ek0 em0 es0 el0 b0 ef0 ek1 em1 es1 el1 b1 ef1 [])) := by
  refine z_body hl (by decide) rfl (Nat.le_of_ble_eq_true rfl) ?_
  show z_J G l mX8_refused (z_SF 10 0 0 (z_cw rf kn ma xa fa ca mb xb fb cb mt xt ft ct f0 g0 c0 m0 s0 f1 g1 c1 m1 s1 f2 g2 c2 m2 s2 f3 g3 c3 m3 s3 f4 g4 c4 m4 s4 f5 g5 c5 m5 s5 ek0 em0 es0 el0 b0 ef0 ek1 em1 es1 el1 b1 ef1 []) (fun v L => v = some (.int (-9)) ∧ L = (z_cw (rf + 1) kn ma xa fa ca mb xb fb cb mt xt ft ct f0 g0 c0 m0 s0 f1 g1 c1 m1 s1 f2 g2 c2 m2 s2 f3 g3 c3 m3 s3 f4 g4 c4 m4 s4 f5 g5 c5 m5 s5 ek0 em0 es0 el0 b0 ef0 ek1 em1 es1 el1 b1 ef1 []))) 0 [(0, _)] [] _ 0 0
  refine j_aload_n dX8_refused_0 rfl rfl ?_
  refine j_dup dX8_refused_1 rfl ?_
  refine j_getf dX8_refused_2 fX8_256 rfl rfl ?_
  refine j_iconst (v := 1) dX8_refused_5 (by decide) ?_
  refine j_iadd dX8_refused_6 ?_
  refine j_put (w' := (z_cw _ _ _ _ _ _ _ _ _ _ _ _ _ _ _ _ _ _ _ _ _ _ _ _ _ _ _ _ _ _ _ _ _ _ _ _ _ _ _ _ _ _ _ _ _ _ _ _ _ _ _ _ _ _ _ _ [], z_no)) dX8_refused_7 fX8_256 tX8_7 rfl ⟨rfl, rfl⟩ rfl ?_
  refine j_bipush (v := (-9)) dX8_refused_10 (by decide) ?_
  refine j_iret dX8_refused_12 rfl rfl ?_ (Nat.le_of_ble_eq_true rfl) (Nat.le_of_ble_eq_true rfl)
  exact ⟨rfl, (by first | exact z_cwl | rfl), rfl, rfl⟩
end ZCx
end ZM7
section ZM8
section ZMx
variable {G : z_G} {l : Launch}
theorem q_nin {x a b : Int32} (h : ¬ (a ≤ x ∧ x ≤ b)) : x < a ∨ b < x := by
  by_cases h1 : x < a
  · exact Or.inl h1
  · by_cases h2 : b < x
    · exact Or.inr h2
    · exact absurd ⟨Int32.not_lt.mp h1, Int32.not_lt.mp h2⟩ h
theorem q_inn {x a b : Int32} (h : a ≤ x ∧ x ≤ b) : ¬ (x < a ∨ b < x) := fun z => z.elim (Int32.not_lt.mpr h.1) (Int32.not_lt.mpr h.2)
theorem q_key20 {x : Int32} (h : ∃ i, i < 20 ∧ x = nI i) : ¬ (x < 0 ∨ 19 < x) := by
  obtain ⟨i, hi, rfl⟩ := h
  have e := nI_toInt (n := i) (by omega)
  rintro (z | z)
  · have z : (nI i).toInt < (0 : Int32).toInt := Int32.lt_iff_toInt_lt.mp z
    rw [e, show (0 : Int32).toInt = 0 from rfl] at z
    omega
  · have z : (19 : Int32).toInt < (nI i).toInt := Int32.lt_iff_toInt_lt.mp z
    rw [e, show (19 : Int32).toInt = 19 from rfl] at z
    omega
theorem q_no2 {x : Int32} (h : ¬ (0 ≤ x ∧ x ≤ 1)) : ¬ (x = 0 ∨ x = 1) := by
  rintro (rfl | rfl)
  · exact h ⟨by decide, by decide⟩
  · exact h ⟨by decide, by decide⟩
theorem q_i2 {i : Nat} (h : i < 2) : nI i = 0 ∨ nI i = 1 := by
  rcases (show i = 0 ∨ i = 1 by omega) with rfl | rfl
  · exact Or.inl rfl
  · exact Or.inr rfl
theorem q_ts {x y : Int32} : ((y < -999 ∨ 999 < y) ∨ (x < -999 ∨ y < x)) ↔ ¬ (z_vl x ∧ z_vl y ∧ x ≤ y) := by
  unfold z_vl
  simp only [Int32.lt_iff_toInt_lt, Int32.le_iff_toInt_le, show (-999 : Int32).toInt = -999 from rfl, show (999 : Int32).toInt = 999 from rfl]
  omega
set_option maxRecDepth 100000 in
set_option maxHeartbeats 8000000 in
theorem cm_bounded_e (hl : l.stackTraces = false) (w : z_W) (x : Int32)  : z_Con G l mX11_bounded 11 0 0 w [.int x] (fun v w9 => v = some (.int (q_bd x)) ∧ w9 = w) (fun _ _ => False) := by
  refine z_body hl (by decide) rfl (Nat.le_of_ble_eq_true rfl) ?_
  show z_J G l mX11_bounded _ 0 [(0, _)] [] _ 0 0
  refine j_sipush (v := (-999)) dX11_bounded_0 (by decide) ?_
  refine j_sipush (v := 999) dX11_bounded_3 (by decide) ?_
  refine j_iload_n dX11_bounded_6 rfl ?_
  refine j_mmin dX11_bounded_7 (z_w 1606 ((lwt_7_4 1).trans rfl) (by decide +kernel)) (Nat.le_of_ble_eq_true rfl) (Nat.le_of_ble_eq_true rfl) (Nat.le_of_ble_eq_true rfl) (Nat.le_of_ble_eq_true rfl) ?_
  refine j_mmax dX11_bounded_10 (z_w 1607 ((lwt_7_4 2).trans rfl) (by decide +kernel)) (Nat.le_of_ble_eq_true rfl) (Nat.le_of_ble_eq_true rfl) (Nat.le_of_ble_eq_true rfl) (Nat.le_of_ble_eq_true rfl) ?_
  refine j_iret dX11_bounded_13 rfl rfl ?_ (Nat.le_of_ble_eq_true rfl) (Nat.le_of_ble_eq_true rfl)
  exact ⟨congrArg (fun z => some (Value.int z)) (q_bdm x), rfl⟩
set_option maxRecDepth 100000 in
set_option maxHeartbeats 8000000 in
theorem cm_one1 (hl : l.stackTraces = false) (w : z_W)   : z_Con G l mX11_one 10 0 0 w [.int 1] (fun v w9 => v = some (.int 1) ∧ w9 = w) (fun _ _ => False) := by
  refine z_body hl (by decide) rfl (Nat.le_of_ble_eq_true rfl) ?_
  show z_J G l mX11_one _ 0 [(0, _)] [] _ 0 0
  refine j_iload_n dX11_one_0 rfl ?_
  refine j_if_eq (tgt := 8) dX11_one_1 (by decide) (fun c_1_3 => ?_) (fun c_1_3 => ?_)
  · exact absurd c_1_3 (by decide)
  · refine j_iconst (v := 1) dX11_one_4 (by decide) ?_
    refine j_goto (tgt := 9) dX11_one_5 (by decide) ?_
    refine j_iret dX11_one_9 rfl rfl ?_ (Nat.le_of_ble_eq_true rfl) (Nat.le_of_ble_eq_true rfl)
    exact ⟨rfl, rfl⟩
set_option maxRecDepth 100000 in
set_option maxHeartbeats 8000000 in
theorem cm_one0 (hl : l.stackTraces = false) (w : z_W)   : z_Con G l mX11_one 10 0 0 w [.int 0] (fun v w9 => v = some (.int 0) ∧ w9 = w) (fun _ _ => False) := by
  refine z_body hl (by decide) rfl (Nat.le_of_ble_eq_true rfl) ?_
  show z_J G l mX11_one _ 0 [(0, _)] [] _ 0 0
  refine j_iload_n dX11_one_0 rfl ?_
  refine j_if_eq (tgt := 8) dX11_one_1 (by decide) (fun c_1_3 => ?_) (fun c_1_3 => ?_)
  · refine j_iconst (v := 0) dX11_one_8 (by decide) ?_
    refine j_iret dX11_one_9 rfl rfl ?_ (Nat.le_of_ble_eq_true rfl) (Nat.le_of_ble_eq_true rfl)
    exact ⟨rfl, rfl⟩
  · exact absurd c_1_3 (by decide)
set_option maxRecDepth 100000 in
set_option maxHeartbeats 8000000 in
theorem cm_rule_e (hl : l.stackTraces = false) (w : z_W) (a b c d : Int32)  : z_Con G l mX11_rule 12 0 0 w [.int a, .int b, .int c, .int d] (fun v w9 => v = some (.int ((q_rt a b c d).getD 100000)) ∧ w9 = w) (fun _ _ => False) := by
  refine z_body hl (by decide) rfl (Nat.le_of_ble_eq_true rfl) ?_
  show z_J G l mX11_rule _ 0 [(0, _), (1, _), (2, _), (3, _)] [] _ 0 0
  refine j_iload_n dX11_rule_0 rfl ?_
  refine j_iload_n dX11_rule_1 rfl ?_
  refine j_iadd dX11_rule_2 ?_
  refine j_callS dX11_rule_3 kX11_bounded lX11_63 stX11_bounded (cm_bounded_e hl w _) (Nat.le_of_ble_eq_true rfl) ⟨(Nat.le_of_ble_eq_true rfl), (Nat.le_of_ble_eq_true rfl)⟩ rfl (Nat.le_of_ble_eq_true rfl) rfl rfl (fun _ _ h => h.elim) ?_
  rintro _ _ ⟨rfl, hw1⟩
  refine j_w w hw1 ?_
  refine j_istore (lo' := [(4, _), (0, _), (1, _), (2, _), (3, _)]) dX11_rule_6 (by decide) rfl ?_
  refine j_iload_n dX11_rule_8 rfl ?_
  rcases z_sw5 a with rfl | rfl | rfl | rfl | rfl | hp
  · refine j_tsIn (tgt := 44) dX11_rule_9 (by decide) (by decide) rfl (by decide) ?_
    refine j_iload dX11_rule_44 rfl ?_
    refine j_iret dX11_rule_46 rfl rfl ?_ (Nat.le_of_ble_eq_true rfl) (Nat.le_of_ble_eq_true rfl)
    exact ⟨rfl, rfl⟩
  · refine j_tsIn (tgt := 47) dX11_rule_9 (by decide) (by decide) rfl (by decide) ?_
    refine j_iload_n dX11_rule_47 rfl ?_
    refine j_iload_n dX11_rule_48 rfl ?_
    refine j_mmax dX11_rule_49 (z_w 1607 ((lwt_7_4 2).trans rfl) (by decide +kernel)) (Nat.le_of_ble_eq_true rfl) (Nat.le_of_ble_eq_true rfl) (Nat.le_of_ble_eq_true rfl) (Nat.le_of_ble_eq_true rfl) ?_
    refine j_iret dX11_rule_52 rfl rfl ?_ (Nat.le_of_ble_eq_true rfl) (Nat.le_of_ble_eq_true rfl)
    exact ⟨rfl, rfl⟩
  · refine j_tsIn (tgt := 53) dX11_rule_9 (by decide) (by decide) rfl (by decide) ?_
    refine j_iload dX11_rule_53 rfl ?_
    refine j_iconst (v := 2) dX11_rule_55 (by decide) ?_
    refine j_irem dX11_rule_56 (by decide) ?_
    refine j_if_ne (tgt := 65) dX11_rule_57 (by decide) (fun c_57_25 => ?_) (fun c_57_25 => ?_)
    · refine j_sipush (v := (-1000)) dX11_rule_65 (by decide) ?_
      refine j_iret dX11_rule_68 rfl rfl ?_ (Nat.le_of_ble_eq_true rfl) (Nat.le_of_ble_eq_true rfl)
      first | exact ⟨by rw [q_rt2, q_evm0 c_57_25]; rfl, rfl⟩ | exact ⟨by rw [q_rt2, q_evm1 c_57_25]; rfl, rfl⟩
    · refine j_iload dX11_rule_60 rfl ?_
      refine j_goto (tgt := 68) dX11_rule_62 (by decide) ?_
      refine j_iret dX11_rule_68 rfl rfl ?_ (Nat.le_of_ble_eq_true rfl) (Nat.le_of_ble_eq_true rfl)
      first | exact ⟨by rw [q_rt2, q_evm0 c_57_25]; rfl, rfl⟩ | exact ⟨by rw [q_rt2, q_evm1 c_57_25]; rfl, rfl⟩
  · refine j_tsIn (tgt := 69) dX11_rule_9 (by decide) (by decide) rfl (by decide) ?_
    refine j_sipush (v := (-1000)) dX11_rule_69 (by decide) ?_
    refine j_iret dX11_rule_72 rfl rfl ?_ (Nat.le_of_ble_eq_true rfl) (Nat.le_of_ble_eq_true rfl)
    exact ⟨rfl, rfl⟩
  · refine j_tsIn (tgt := 73) dX11_rule_9 (by decide) (by decide) rfl (by decide) ?_
    refine j_iload dX11_rule_73 rfl ?_
    refine j_iconst (v := 2) dX11_rule_75 (by decide) ?_
    refine j_irem dX11_rule_76 (by decide) ?_
    refine j_if_eq (tgt := 85) dX11_rule_77 (by decide) (fun c_77_41 => ?_) (fun c_77_41 => ?_)
    · refine j_iload dX11_rule_85 rfl ?_
      refine j_iret dX11_rule_87 rfl rfl ?_ (Nat.le_of_ble_eq_true rfl) (Nat.le_of_ble_eq_true rfl)
      first | exact ⟨by rw [q_rt4, q_evm0 c_77_41]; rfl, rfl⟩ | exact ⟨by rw [q_rt4, q_evm1 c_77_41]; rfl, rfl⟩
    · refine j_ldc dX11_rule_80 kcX11_67 ?_
      refine j_goto (tgt := 87) dX11_rule_82 (by decide) ?_
      refine j_iret dX11_rule_87 rfl rfl ?_ (Nat.le_of_ble_eq_true rfl) (Nat.le_of_ble_eq_true rfl)
      first | exact ⟨by rw [q_rt4, q_evm0 c_77_41]; rfl, rfl⟩ | exact ⟨by rw [q_rt4, q_evm1 c_77_41]; rfl, rfl⟩
  · refine j_tsOut (tgt := 88) dX11_rule_9 hp (by decide) ?_
    refine j_iload_n dX11_rule_88 rfl ?_
    refine j_iload_n dX11_rule_89 rfl ?_
    refine j_iadd dX11_rule_90 ?_
    refine j_callS dX11_rule_91 kX11_bounded lX11_63 stX11_bounded (cm_bounded_e hl w _) (Nat.le_of_ble_eq_true rfl) ⟨(Nat.le_of_ble_eq_true rfl), (Nat.le_of_ble_eq_true rfl)⟩ rfl (Nat.le_of_ble_eq_true rfl) rfl rfl (fun _ _ h => h.elim) ?_
    rintro _ _ ⟨rfl, hw2⟩
    refine j_w w hw2 ?_
    refine j_iret dX11_rule_94 rfl rfl ?_ (Nat.le_of_ble_eq_true rfl) (Nat.le_of_ble_eq_true rfl)
    exact ⟨by rw [q_rt5 hp]; rfl, rfl⟩
set_option maxRecDepth 100000 in
set_option maxHeartbeats 8000000 in
theorem cm_test_e (hl : l.stackTraces = false) (w : z_W) (a b c : Int32)  : z_Con G l mX11_test 12 0 0 w [.int a, .int b, .int c] (fun v w9 => v = some (.int ((q_tt a b c).getD 100000)) ∧ w9 = w) (fun _ _ => False) := by
  refine z_body hl (by decide) rfl (Nat.le_of_ble_eq_true rfl) ?_
  show z_J G l mX11_test _ 0 [(0, _), (1, _), (2, _)] [] _ 0 0
  refine j_iload_n dX11_test_0 rfl ?_
  rcases z_sw5 a with rfl | rfl | rfl | rfl | rfl | hp
  · refine j_tsIn (tgt := 36) dX11_test_1 (by decide) (by decide) rfl (by decide) ?_
    refine j_iload_n dX11_test_36 rfl ?_
    refine j_iconst (v := 2) dX11_test_37 (by decide) ?_
    refine j_irem dX11_test_38 (by decide) ?_
    refine j_if_ne (tgt := 46) dX11_test_39 (by decide) (fun c_39_8 => ?_) (fun c_39_8 => ?_)
    · refine j_iconst (v := 0) dX11_test_46 (by decide) ?_
      refine j_callS dX11_test_47 kX11_one lX11_68 stX11_one (cm_one0 hl w) (Nat.le_of_ble_eq_true rfl) ⟨(Nat.le_of_ble_eq_true rfl), (Nat.le_of_ble_eq_true rfl)⟩ rfl (Nat.le_of_ble_eq_true rfl) rfl rfl (fun _ _ h => h.elim) ?_
      rintro _ _ ⟨rfl, hw3⟩
      refine j_w w hw3 ?_
      refine j_iret dX11_test_50 rfl rfl ?_ (Nat.le_of_ble_eq_true rfl) (Nat.le_of_ble_eq_true rfl)
      first | exact ⟨by rw [q_tt0, q_evm0 c_39_8]; rfl, rfl⟩ | exact ⟨by rw [q_tt0, q_evm1 c_39_8]; rfl, rfl⟩
    · refine j_iconst (v := 1) dX11_test_42 (by decide) ?_
      refine j_goto (tgt := 47) dX11_test_43 (by decide) ?_
      refine j_callS dX11_test_47 kX11_one lX11_68 stX11_one (cm_one1 hl w) (Nat.le_of_ble_eq_true rfl) ⟨(Nat.le_of_ble_eq_true rfl), (Nat.le_of_ble_eq_true rfl)⟩ rfl (Nat.le_of_ble_eq_true rfl) rfl rfl (fun _ _ h => h.elim) ?_
      rintro _ _ ⟨rfl, hw4⟩
      refine j_w w hw4 ?_
      refine j_iret dX11_test_50 rfl rfl ?_ (Nat.le_of_ble_eq_true rfl) (Nat.le_of_ble_eq_true rfl)
      first | exact ⟨by rw [q_tt0, q_evm0 c_39_8]; rfl, rfl⟩ | exact ⟨by rw [q_tt0, q_evm1 c_39_8]; rfl, rfl⟩
  · refine j_tsIn (tgt := 51) dX11_test_1 (by decide) (by decide) rfl (by decide) ?_
    refine j_iload_n dX11_test_51 rfl ?_
    refine j_iconst (v := 2) dX11_test_52 (by decide) ?_
    refine j_irem dX11_test_53 (by decide) ?_
    refine j_if_eq (tgt := 61) dX11_test_54 (by decide) (fun c_54_26 => ?_) (fun c_54_26 => ?_)
    · refine j_iconst (v := 0) dX11_test_61 (by decide) ?_
      refine j_callS dX11_test_62 kX11_one lX11_68 stX11_one (cm_one0 hl w) (Nat.le_of_ble_eq_true rfl) ⟨(Nat.le_of_ble_eq_true rfl), (Nat.le_of_ble_eq_true rfl)⟩ rfl (Nat.le_of_ble_eq_true rfl) rfl rfl (fun _ _ h => h.elim) ?_
      rintro _ _ ⟨rfl, hw5⟩
      refine j_w w hw5 ?_
      refine j_iret dX11_test_65 rfl rfl ?_ (Nat.le_of_ble_eq_true rfl) (Nat.le_of_ble_eq_true rfl)
      first | exact ⟨by rw [q_tt1, q_evm0 c_54_26]; rfl, rfl⟩ | exact ⟨by rw [q_tt1, q_evm1 c_54_26]; rfl, rfl⟩
    · refine j_iconst (v := 1) dX11_test_57 (by decide) ?_
      refine j_goto (tgt := 62) dX11_test_58 (by decide) ?_
      refine j_callS dX11_test_62 kX11_one lX11_68 stX11_one (cm_one1 hl w) (Nat.le_of_ble_eq_true rfl) ⟨(Nat.le_of_ble_eq_true rfl), (Nat.le_of_ble_eq_true rfl)⟩ rfl (Nat.le_of_ble_eq_true rfl) rfl rfl (fun _ _ h => h.elim) ?_
      rintro _ _ ⟨rfl, hw6⟩
      refine j_w w hw6 ?_
      refine j_iret dX11_test_65 rfl rfl ?_ (Nat.le_of_ble_eq_true rfl) (Nat.le_of_ble_eq_true rfl)
      first | exact ⟨by rw [q_tt1, q_evm0 c_54_26]; rfl, rfl⟩ | exact ⟨by rw [q_tt1, q_evm1 c_54_26]; rfl, rfl⟩
  · refine j_tsIn (tgt := 66) dX11_test_1 (by decide) (by decide) rfl (by decide) ?_
    refine j_iload_n dX11_test_66 rfl ?_
    refine j_iload_n dX11_test_67 rfl ?_
    refine j_icmp_ge (tgt := 75) dX11_test_68 (by decide) (fun c_68_43 => ?_) (fun c_68_43 => ?_)
    · refine j_iconst (v := 0) dX11_test_75 (by decide) ?_
      refine j_callS dX11_test_76 kX11_one lX11_68 stX11_one (cm_one0 hl w) (Nat.le_of_ble_eq_true rfl) ⟨(Nat.le_of_ble_eq_true rfl), (Nat.le_of_ble_eq_true rfl)⟩ rfl (Nat.le_of_ble_eq_true rfl) rfl rfl (fun _ _ h => h.elim) ?_
      rintro _ _ ⟨rfl, hw7⟩
      refine j_w w hw7 ?_
      refine j_iret dX11_test_79 rfl rfl ?_ (Nat.le_of_ble_eq_true rfl) (Nat.le_of_ble_eq_true rfl)
      first | exact ⟨by rw [q_tt2, decide_eq_false (Int32.not_lt.mpr c_68_43)]; rfl, rfl⟩ | exact ⟨by rw [q_tt2, decide_eq_true (Int32.not_le.mp c_68_43)]; rfl, rfl⟩
    · refine j_iconst (v := 1) dX11_test_71 (by decide) ?_
      refine j_goto (tgt := 76) dX11_test_72 (by decide) ?_
      refine j_callS dX11_test_76 kX11_one lX11_68 stX11_one (cm_one1 hl w) (Nat.le_of_ble_eq_true rfl) ⟨(Nat.le_of_ble_eq_true rfl), (Nat.le_of_ble_eq_true rfl)⟩ rfl (Nat.le_of_ble_eq_true rfl) rfl rfl (fun _ _ h => h.elim) ?_
      rintro _ _ ⟨rfl, hw8⟩
      refine j_w w hw8 ?_
      refine j_iret dX11_test_79 rfl rfl ?_ (Nat.le_of_ble_eq_true rfl) (Nat.le_of_ble_eq_true rfl)
      first | exact ⟨by rw [q_tt2, decide_eq_false (Int32.not_lt.mpr c_68_43)]; rfl, rfl⟩ | exact ⟨by rw [q_tt2, decide_eq_true (Int32.not_le.mp c_68_43)]; rfl, rfl⟩
  · refine j_tsIn (tgt := 80) dX11_test_1 (by decide) (by decide) rfl (by decide) ?_
    refine j_iload_n dX11_test_80 rfl ?_
    refine j_iload_n dX11_test_81 rfl ?_
    refine j_icmp_le (tgt := 89) dX11_test_82 (by decide) (fun c_82_60 => ?_) (fun c_82_60 => ?_)
    · refine j_iconst (v := 0) dX11_test_89 (by decide) ?_
      refine j_callS dX11_test_90 kX11_one lX11_68 stX11_one (cm_one0 hl w) (Nat.le_of_ble_eq_true rfl) ⟨(Nat.le_of_ble_eq_true rfl), (Nat.le_of_ble_eq_true rfl)⟩ rfl (Nat.le_of_ble_eq_true rfl) rfl rfl (fun _ _ h => h.elim) ?_
      rintro _ _ ⟨rfl, hw9⟩
      refine j_w w hw9 ?_
      refine j_iret dX11_test_93 rfl rfl ?_ (Nat.le_of_ble_eq_true rfl) (Nat.le_of_ble_eq_true rfl)
      first | exact ⟨by rw [q_tt3, decide_eq_false (Int32.not_lt.mpr c_82_60)]; rfl, rfl⟩ | exact ⟨by rw [q_tt3, decide_eq_true (Int32.not_le.mp c_82_60)]; rfl, rfl⟩
    · refine j_iconst (v := 1) dX11_test_85 (by decide) ?_
      refine j_goto (tgt := 90) dX11_test_86 (by decide) ?_
      refine j_callS dX11_test_90 kX11_one lX11_68 stX11_one (cm_one1 hl w) (Nat.le_of_ble_eq_true rfl) ⟨(Nat.le_of_ble_eq_true rfl), (Nat.le_of_ble_eq_true rfl)⟩ rfl (Nat.le_of_ble_eq_true rfl) rfl rfl (fun _ _ h => h.elim) ?_
      rintro _ _ ⟨rfl, hw10⟩
      refine j_w w hw10 ?_
      refine j_iret dX11_test_93 rfl rfl ?_ (Nat.le_of_ble_eq_true rfl) (Nat.le_of_ble_eq_true rfl)
      first | exact ⟨by rw [q_tt3, decide_eq_false (Int32.not_lt.mpr c_82_60)]; rfl, rfl⟩ | exact ⟨by rw [q_tt3, decide_eq_true (Int32.not_le.mp c_82_60)]; rfl, rfl⟩
  · refine j_tsIn (tgt := 94) dX11_test_1 (by decide) (by decide) rfl (by decide) ?_
    refine j_iload_n dX11_test_94 rfl ?_
    refine j_iload_n dX11_test_95 rfl ?_
    refine j_icmp_ne (tgt := 103) dX11_test_96 (by decide) (fun c_96_77 => ?_) (fun c_96_77 => ?_)
    · refine j_iconst (v := 0) dX11_test_103 (by decide) ?_
      refine j_callS dX11_test_104 kX11_one lX11_68 stX11_one (cm_one0 hl w) (Nat.le_of_ble_eq_true rfl) ⟨(Nat.le_of_ble_eq_true rfl), (Nat.le_of_ble_eq_true rfl)⟩ rfl (Nat.le_of_ble_eq_true rfl) rfl rfl (fun _ _ h => h.elim) ?_
      rintro _ _ ⟨rfl, hw11⟩
      refine j_w w hw11 ?_
      refine j_iret dX11_test_107 rfl rfl ?_ (Nat.le_of_ble_eq_true rfl) (Nat.le_of_ble_eq_true rfl)
      first | exact ⟨by rw [q_tt4, decide_eq_false c_96_77]; rfl, rfl⟩ | exact ⟨by rw [q_tt4, decide_eq_true c_96_77]; rfl, rfl⟩
    · refine j_iconst (v := 1) dX11_test_99 (by decide) ?_
      refine j_goto (tgt := 104) dX11_test_100 (by decide) ?_
      refine j_callS dX11_test_104 kX11_one lX11_68 stX11_one (cm_one1 hl w) (Nat.le_of_ble_eq_true rfl) ⟨(Nat.le_of_ble_eq_true rfl), (Nat.le_of_ble_eq_true rfl)⟩ rfl (Nat.le_of_ble_eq_true rfl) rfl rfl (fun _ _ h => h.elim) ?_
      rintro _ _ ⟨rfl, hw12⟩
      refine j_w w hw12 ?_
      refine j_iret dX11_test_107 rfl rfl ?_ (Nat.le_of_ble_eq_true rfl) (Nat.le_of_ble_eq_true rfl)
      first | exact ⟨by rw [q_tt4, decide_eq_false c_96_77]; rfl, rfl⟩ | exact ⟨by rw [q_tt4, decide_eq_true c_96_77]; rfl, rfl⟩
  · refine j_tsOut (tgt := 108) dX11_test_1 hp (by decide) ?_
    refine j_iload_n dX11_test_108 rfl ?_
    refine j_iload_n dX11_test_109 rfl ?_
    refine j_icmp_ne (tgt := 118) dX11_test_110 (by decide) (fun c_110_94 => ?_) (fun c_110_94 => ?_)
    · refine j_iconst (v := 0) dX11_test_118 (by decide) ?_
      refine j_iret dX11_test_119 rfl rfl ?_ (Nat.le_of_ble_eq_true rfl) (Nat.le_of_ble_eq_true rfl)
      first | exact ⟨by rw [q_tt5 hp, if_neg c_110_94]; rfl, rfl⟩ | exact ⟨by rw [q_tt5 hp, if_pos c_110_94]; rfl, rfl⟩
    · refine j_ldc dX11_test_113 kcX11_67 ?_
      refine j_goto (tgt := 119) dX11_test_115 (by decide) ?_
      refine j_iret dX11_test_119 rfl rfl ?_ (Nat.le_of_ble_eq_true rfl) (Nat.le_of_ble_eq_true rfl)
      first | exact ⟨by rw [q_tt5 hp, if_neg c_110_94]; rfl, rfl⟩ | exact ⟨by rw [q_tt5 hp, if_pos c_110_94]; rfl, rfl⟩
end ZMx
end ZM8
