section ZLt
variable {G : z_G} {l : Launch}
set_option maxRecDepth 100000 in
set_option maxHeartbeats 8000000 in
theorem cl_clear (hl : l.stackTraces = false) (w : z_W) (ρ a : Nat) (mo : Int32) (L : List Value) (h : z_li w ρ a mo L) (hf : z_fn w) : z_Con G l mJx4a65c_clear_da8c8 11 0 0 w [.ref a] (fun v w9 => v = none ∧ z_fw ρ w w9 ∧ ∃ mo9, z_li w9 ρ a mo9 []) (fun _ _ => False) := by
  rcases h.2.2.2 with ⟨m, n, f, hA⟩ | ⟨k, hL, hk, ga⟩
  · obtain ⟨a1, a2, a3, ga, gm, a6, a7, a8⟩ := id hA
    clear hf
    refine z_body hl (by decide) rfl (Nat.le_of_ble_eq_true rfl) ?_
    show z_J G l mJx4a65c_clear_da8c8 _ 0 [(0, _)] [] _ 0 0
    refine j_aload_n dJx4a65c_clear_da8c8_0 rfl rfl ?_
    refine j_dup dJx4a65c_clear_da8c8_1 rfl ?_
    refine j_getf dJx4a65c_clear_da8c8_2 fJx4a65c_63 ga rfl ?_
    refine j_iconst (v := 1) dJx4a65c_clear_da8c8_5 (by decide) ?_
    refine j_iadd dJx4a65c_clear_da8c8_6 ?_
    refine j_put (w' := _) dJx4a65c_clear_da8c8_7 fJx4a65c_63 tJx4a65c_0 ga ⟨rfl, rfl⟩ rfl ?_
    refine j_seal h.1 ?_
    intro w1 u1
    have g1_m := (u1.2.1 _ a3).trans gm
    have g1_a := u1.1
    refine j_aload_n dJx4a65c_clear_da8c8_10 rfl rfl ?_
    refine j_getf dJx4a65c_clear_da8c8_11 fJx4a65c_9 g1_a rfl ?_
    refine j_astore_n (lo' := [(1, _), (0, _)]) dJx4a65c_clear_da8c8_14 rfl (by decide) rfl ?_
    refine j_aload_n dJx4a65c_clear_da8c8_15 rfl rfl ?_
    refine j_getf dJx4a65c_clear_da8c8_16 fJx4a65c_48 g1_a rfl ?_
    refine j_istore_n (lo' := [(2, _), (1, _), (0, _)]) dJx4a65c_clear_da8c8_19 (by decide) rfl ?_
    refine j_aload_n dJx4a65c_clear_da8c8_20 rfl rfl ?_
    refine j_iconst (v := 0) dJx4a65c_clear_da8c8_21 (by decide) ?_
    refine j_top (congrArg Value.int nI_o0) ?_
    refine j_dup_x1 dJx4a65c_clear_da8c8_22 rfl rfl ?_
    refine j_put (w' := _) dJx4a65c_clear_da8c8_23 fJx4a65c_48 tJx4a65c_2 g1_a ⟨rfl, rfl⟩ rfl ?_
    refine j_seal h.1 ?_
    intro w2 u2
    have g2_m := (u2.2.1 _ a3).trans g1_m
    have g2_a := u2.1
    refine j_istore_n (lo' := [(3, _), (2, _), (1, _), (0, _)]) dJx4a65c_clear_da8c8_26 (by decide) rfl ?_
    have loop27 : ∀ (n9 : Nat) (w3 : z_W) (j : Nat) (F : Nat → Value), (j ≤ L.length) → (L.length < j + n9) → (z_fw ρ w w3) → (z_g w3 a = some (.inr (4, [.int (mo + Int32.ofInt 1), .ref m, .int (nI 0)]))) → (z_g w3 m = some (.inl (3, n, F))) → z_J G l mJx4a65c_clear_da8c8 (11, 0, 0, w, (fun v w9 => v = none ∧ z_fw ρ w w9 ∧ ∃ mo9, z_li w9 ρ a mo9 []), (fun _ _ => False)) 27 [(0, .ref a), (1, .ref m), (2, .int (nI L.length)), (3, .int (nI j))] [] w3 0 0 := by
      intro n9
      induction n9 with
      | zero => intro w3 j F k1 k0 k2 k3 k4; exact absurd k0 (by omega)
      | succ n9 ih =>
        intro w3 j F k1 k0 k2 k3 k4
        refine j_iload_n dJx4a65c_clear_da8c8_27 rfl ?_
        refine j_iload_n dJx4a65c_clear_da8c8_28 rfl ?_
        refine j_icmp_ge (tgt := 42) dJx4a65c_clear_da8c8_29 (by decide) (fun c_29_36 => ?_) (fun c_29_36 => ?_)
        · refine j_vret dJx4a65c_clear_da8c8_42 rfl ?_ (Nat.le_of_ble_eq_true rfl) (Nat.le_of_ble_eq_true rfl)
          exact ⟨rfl, k2, _, z_li.of h.1 h.2.1 (fun v hv => by cases hv) ⟨a1, a2, a3, k3, k4, Nat.zero_le _, a7, fun q v hq => by simp at hq⟩⟩
        · have hj : j < L.length := Nat.not_le.mp (fun z => c_29_36 ((nI_leI (by omega) (by omega)).mpr z))
          refine j_aload_n dJx4a65c_clear_da8c8_32 rfl rfl ?_
          refine j_iload_n dJx4a65c_clear_da8c8_33 rfl ?_
          refine j_null dJx4a65c_clear_da8c8_34 ?_
          refine j_aastN (w' := _) dJx4a65c_clear_da8c8_35 k4 rfl (vp_in_nI (by omega) (by omega)) rfl ?_
          refine j_seal a1 ?_
          intro w4 u4
          have g4_a := (u4.2.1 _ (Ne.symm a3)).trans k3
          have g4_m := u4.1
          refine j_iinc (lo' := [(3, _), (0, _), (1, _), (2, _)]) dJx4a65c_clear_da8c8_36 rfl (z_inc _) (by decide) rfl ?_
          refine j_goto (tgt := 27) dJx4a65c_clear_da8c8_39 (by decide) ?_
          exact j_lo2 (ih w4 (j + 1) _ (by omega) (by omega) (k2.tr (u4.fw a1 a2)) g4_a g4_m) (z_q1 rfl (z_q1 rfl (z_q1 rfl (z_q1 rfl z_q0))))
    exact j_lo2 (loop27 (L.length + 1) w2 0 f (Nat.zero_le _) (by omega) ((u1.fw h.1 h.2.1).tr (u2.fw h.1 h.2.1)) g2_a g2_m) (z_q1 rfl (z_q1 rfl (z_q1 rfl (z_q1 rfl z_q0))))
  · subst hL
    clear hf
    refine z_body hl (by decide) rfl (Nat.le_of_ble_eq_true rfl) ?_
    show z_J G l mJx4a65c_clear_da8c8 _ 0 [(0, _)] [] _ 0 0
    refine j_aload_n dJx4a65c_clear_da8c8_0 rfl rfl ?_
    refine j_dup dJx4a65c_clear_da8c8_1 rfl ?_
    refine j_getf dJx4a65c_clear_da8c8_2 fJx4a65c_63 ga rfl ?_
    refine j_iconst (v := 1) dJx4a65c_clear_da8c8_5 (by decide) ?_
    refine j_iadd dJx4a65c_clear_da8c8_6 ?_
    refine j_put (w' := _) dJx4a65c_clear_da8c8_7 fJx4a65c_63 tJx4a65c_0 ga ⟨rfl, rfl⟩ rfl ?_
    refine j_seal h.1 ?_
    intro w1 u1
    have g1_a := u1.1
    refine j_aload_n dJx4a65c_clear_da8c8_10 rfl rfl ?_
    refine j_getf dJx4a65c_clear_da8c8_11 fJx4a65c_9 g1_a rfl ?_
    refine j_astore_n (lo' := [(1, _), (0, _)]) dJx4a65c_clear_da8c8_14 rfl (by decide) rfl ?_
    refine j_aload_n dJx4a65c_clear_da8c8_15 rfl rfl ?_
    refine j_getf dJx4a65c_clear_da8c8_16 fJx4a65c_48 g1_a rfl ?_
    refine j_istore_n (lo' := [(2, _), (1, _), (0, _)]) dJx4a65c_clear_da8c8_19 (by decide) rfl ?_
    refine j_aload_n dJx4a65c_clear_da8c8_20 rfl rfl ?_
    refine j_iconst (v := 0) dJx4a65c_clear_da8c8_21 (by decide) ?_
    refine j_dup_x1 dJx4a65c_clear_da8c8_22 rfl rfl ?_
    refine j_put (w' := _) dJx4a65c_clear_da8c8_23 fJx4a65c_48 tJx4a65c_2 g1_a ⟨rfl, rfl⟩ rfl ?_
    refine j_seal h.1 ?_
    intro w2 u2
    have g2_a := u2.1
    refine j_istore_n (lo' := [(3, _), (2, _), (1, _), (0, _)]) dJx4a65c_clear_da8c8_26 (by decide) rfl ?_
    refine j_iload_n dJx4a65c_clear_da8c8_27 rfl ?_
    refine j_iload_n dJx4a65c_clear_da8c8_28 rfl ?_
    refine j_icmp_ge (tgt := 42) dJx4a65c_clear_da8c8_29 (by decide) (fun c_29_27 => ?_) (fun c_29_27 => ?_)
    · refine j_vret dJx4a65c_clear_da8c8_42 rfl ?_ (Nat.le_of_ble_eq_true rfl) (Nat.le_of_ble_eq_true rfl)
      exact ⟨rfl, ((u1.fw h.1 h.2.1).tr (u2.fw h.1 h.2.1)), _, h.1, h.2.1, (fun v hv => by cases hv), Or.inr ⟨k, rfl, hk, g2_a⟩⟩
    · exact absurd (by decide) c_29_27
set_option maxRecDepth 100000 in
set_option maxHeartbeats 8000000 in
theorem cl_ALi (hl : l.stackTraces = false) (w : z_W) (ρ a : Nat) (h1 : 1000 ≤ a) (h2 : a % 64 = ρ) (ga : z_g w a = some (.inr (4, [.int 0, .null, .int 0]))) : z_Con G l mJxc12de_init_da8c8 11 0 0 w [.ref a] (fun v w9 => v = none ∧ z_fw ρ w w9 ∧ (∀ k, k ≠ a → z_g w9 k = z_g w k) ∧ z_g w9 a = some (.inr (4, [.int 0, .null, .int 0]))) (fun _ _ => False) := by
  refine z_body hl (by decide) rfl (Nat.le_of_ble_eq_true rfl) ?_
  show z_J G l mJxc12de_init_da8c8 _ 0 [(0, _)] [] _ 0 0
  refine j_aload_n dJxc12de_init_da8c8_0 rfl rfl ?_
  refine j_callI dJxc12de_init_da8c8_1 kJxa1e45_init_da8c8 rfl lJxc12de_1 inJxa1e45_init_da8c8 rfl (c_Jxa1e45_init_da8c8 hl w _) (Nat.le_of_ble_eq_true rfl) ⟨(Nat.le_of_ble_eq_true rfl), (Nat.le_of_ble_eq_true rfl)⟩ rfl (Nat.le_of_ble_eq_true rfl) rfl rfl (fun _ _ h => h.elim) ?_
  rintro _ _ ⟨rfl, hw15⟩
  refine j_w w hw15 ?_
  refine j_aload_n dJxc12de_init_da8c8_4 rfl rfl ?_
  refine j_iconst (v := 0) dJxc12de_init_da8c8_5 (by decide) ?_
  refine j_put (w' := _) dJxc12de_init_da8c8_6 fJxc12de_7 tJx4a65c_0 ga ⟨rfl, rfl⟩ rfl ?_
  refine j_seal h1 ?_
  intro w1 u1
  have g1_a := u1.1
  refine j_vret dJxc12de_init_da8c8_9 rfl ?_ (Nat.le_of_ble_eq_true rfl) (Nat.le_of_ble_eq_true rfl)
  exact ⟨rfl, (u1.fw h1 h2), u1.2.1, g1_a⟩
set_option maxRecDepth 100000 in
set_option maxHeartbeats 8000000 in
theorem cl_init (hl : l.stackTraces = false) (w : z_W) (ρ a : Nat) (h1 : 1000 ≤ a) (h2 : a % 64 = ρ) (ga : z_g w a = some (.inr (4, [.int 0, .null, .int 0]))) : z_Con G l mJx4a65c_init_da8c8 12 0 0 w [.ref a] (fun v w9 => v = none ∧ z_fw ρ w w9 ∧ (∀ k, k ≠ a → z_g w9 k = z_g w k) ∧ z_li w9 ρ a 0 []) (fun _ _ => False) := by
  refine z_body hl (by decide) rfl (Nat.le_of_ble_eq_true rfl) ?_
  show z_J G l mJx4a65c_init_da8c8 _ 0 [(0, _)] [] _ 0 0
  refine j_aload_n dJx4a65c_init_da8c8_0 rfl rfl ?_
  refine j_callI dJx4a65c_init_da8c8_1 kJxc12de_init_da8c8 rfl lJx4a65c_1 inJxc12de_init_da8c8 rfl (cl_ALi hl w ρ a h1 h2 ga) (Nat.le_of_ble_eq_true rfl) ⟨(Nat.le_of_ble_eq_true rfl), (Nat.le_of_ble_eq_true rfl)⟩ rfl (Nat.le_of_ble_eq_true rfl) rfl rfl (fun _ _ h => h.elim) ?_
  rintro _ w1 ⟨rfl, fw1, hk1, gz1⟩
  refine j_aload_n dJx4a65c_init_da8c8_4 rfl rfl ?_
  refine j_gets dJx4a65c_init_da8c8_5 (List.mem_of_getElem? (i := 2) rfl) rfl (z_w 1353 ((lwt_6_3 18).trans rfl) (by decide +kernel)) ?_
  refine j_put (w' := _) dJx4a65c_init_da8c8_8 fJx4a65c_9 tJx4a65c_1 gz1 (Or.inr ⟨_, rfl⟩) rfl ?_
  refine j_seal h1 ?_
  intro w2 u2
  have g2_a := u2.1
  refine j_vret dJx4a65c_init_da8c8_11 rfl ?_ (Nat.le_of_ble_eq_true rfl) (Nat.le_of_ble_eq_true rfl)
  exact ⟨rfl, (fw1.tr (u2.fw h1 h2)), fun k hk => (u2.2.1 k hk).trans (hk1 k hk), h1, h2, fun v hv => (by cases hv), Or.inr ⟨0, rfl, by decide, g2_a⟩⟩
set_option maxRecDepth 100000 in
set_option maxHeartbeats 8000000 in
theorem cl_itI (hl : l.stackTraces = false) (w : z_W) (γ ρ i a : Nat) (mo : Int32) (L : List Value) (h : z_li w ρ a mo L) (h1 : 1000 ≤ i) (h2 : i % 64 = γ) (hne : a ≠ i) (gi : z_g w i = some (.inr (3, [.int 0, .int 0, .int 0, .null]))) : z_Con G l mJx35411_init_45d68 11 0 0 w [.ref i, .ref a] (fun v w9 => v = none ∧ z_fw γ w w9 ∧ z_g w9 i = some (.inr (3, [.int (nI 0), .int (Int32.ofInt (-1)), .int mo, .ref a]))) (fun _ _ => False) := by
  obtain ⟨v0, hv0, ga⟩ := h.cell
  refine z_body hl (by decide) rfl (Nat.le_of_ble_eq_true rfl) ?_
  show z_J G l mJx35411_init_45d68 _ 0 [(0, _), (1, _)] [] _ 0 0
  refine j_aload_n dJx35411_init_45d68_0 rfl rfl ?_
  refine j_aload_n dJx35411_init_45d68_1 rfl rfl ?_
  refine j_putF (w' := _) dJx35411_init_45d68_2 fJx35411_1 tJx35411_3 rfl (z_dc rfl rfl (z_w 1754 ((lwg_8 29).trans rfl) (by decide +kernel))) gi (Or.inl ⟨_, rfl⟩) rfl ?_
  refine j_seal h1 ?_
  intro w1 u1
  have g1_a := (u1.2.1 _ hne).trans ga
  have g1_i := u1.1
  refine j_aload_n dJx35411_init_45d68_5 rfl rfl ?_
  refine j_objI dJx35411_init_45d68_6 oJx35411_7 z_oi1 z_oi2 (Nat.le_of_ble_eq_true rfl) (Nat.le_of_ble_eq_true rfl) ?_
  refine j_aload_n dJx35411_init_45d68_9 rfl rfl ?_
  refine j_iconst (v := (-1)) dJx35411_init_45d68_10 (by decide) ?_
  refine j_put (w' := _) dJx35411_init_45d68_11 fJx35411_13 tJx35411_1 g1_i ⟨rfl, rfl⟩ rfl ?_
  refine j_seal h1 ?_
  intro w2 u2
  have g2_a := (u2.2.1 _ hne).trans g1_a
  have g2_i := u2.1
  refine j_aload_n dJx35411_init_45d68_14 rfl rfl ?_
  refine j_aload_n dJx35411_init_45d68_15 rfl rfl ?_
  refine j_getf dJx35411_init_45d68_16 fJx35411_1 g2_i rfl ?_
  refine j_getf dJx35411_init_45d68_19 fJx35411_17 g2_a rfl ?_
  refine j_put (w' := _) dJx35411_init_45d68_22 fJx35411_22 tJx35411_2 g2_i ⟨rfl, rfl⟩ rfl ?_
  refine j_seal h1 ?_
  intro w3 u3
  have g3_a := (u3.2.1 _ hne).trans g2_a
  have g3_i := u3.1
  refine j_vret dJx35411_init_45d68_25 rfl ?_ (Nat.le_of_ble_eq_true rfl) (Nat.le_of_ble_eq_true rfl)
  exact ⟨rfl, (((u1.fw h1 h2).tr (u2.fw h1 h2)).tr (u3.fw h1 h2)), g3_i⟩
set_option maxRecDepth 100000 in
set_option maxHeartbeats 8000000 in
theorem cl_iter (hl : l.stackTraces = false) (w : z_W) (γ ρ a : Nat) (mo : Int32) (L : List Value) (h : z_li w ρ a mo L) (hγ : γ < 64) (hne : ρ ≠ γ) (hf : z_fn w) : z_Con G l mJx4a65c_iterator_32c93 12 1 4 w [.ref a] (fun v w9 => ∃ i : Nat, v = some (.ref i) ∧ z_fw γ w w9 ∧ 1000 ≤ i ∧ i % 64 = γ ∧ z_g w i = none ∧ z_it w9 i a mo 0) (fun _ _ => False) := by
  obtain ⟨v0, hv0, ga⟩ := h.cell
  refine z_body hl (by decide) rfl (Nat.le_of_ble_eq_true rfl) ?_
  show z_J G l mJx4a65c_iterator_32c93 _ 0 [(0, _)] [] _ 0 0
  obtain ⟨x1, hx1a, hx1b, hx1c⟩ := z_fresh (γ) hγ hf
  have n_a_x1 := z_neF hx1c ga
  refine j_new (w' := _) (n := x1) dJx4a65c_iterator_32c93_0 nJx4a65c_267 rfl (z_alW hx1c hx1a) (Nat.le_of_ble_eq_true rfl) (Nat.le_of_ble_eq_true rfl) ?_
  refine j_seal hx1a ?_
  intro w1 u1
  have g1_a := (u1.2.1 _ n_a_x1).trans ga
  have g1_x1 := u1.1
  have hf1 := u1.2.2.2 hf
  refine j_dup dJx4a65c_iterator_32c93_3 rfl ?_
  refine j_aload_n dJx4a65c_iterator_32c93_4 rfl rfl ?_
  refine j_callI dJx4a65c_iterator_32c93_5 kJx35411_init_45d68 rfl lJx4a65c_269 inJx35411_init_45d68 rfl (cl_itI hl w1 γ ρ x1 a mo L (h.fw (u1.fw hx1a hx1b) hne) hx1a hx1b n_a_x1 g1_x1) (Nat.le_of_ble_eq_true rfl) ⟨(Nat.le_of_ble_eq_true rfl), (Nat.le_of_ble_eq_true rfl)⟩ rfl (Nat.le_of_ble_eq_true rfl) rfl rfl (fun _ _ h => h.elim) ?_
  rintro _ w2 ⟨rfl, fw2, gz2⟩
  have hf2 := fw2.2.1 hf1
  refine j_aret dJx4a65c_iterator_32c93_8 rfl (Or.inl ⟨_, rfl⟩) rfl ?_ (Nat.le_of_ble_eq_true rfl) (Nat.le_of_ble_eq_true rfl)
  exact ⟨x1, rfl, ((u1.fw hx1a hx1b).tr fw2), hx1a, hx1b, hx1c, _, gz2⟩
set_option maxRecDepth 100000 in
set_option maxHeartbeats 8000000 in
theorem cl_hasN (hl : l.stackTraces = false) (w : z_W) (i ρ a k : Nat) (mo : Int32) (L : List Value) (h : z_li w ρ a mo L) (hi : z_it w i a mo k) (hk : k ≤ L.length) : z_Con G l mJx35411_hasNext_aae02 10 0 0 w [.ref i] (fun v w9 => (∃ x : Int32, v = some (.int x) ∧ (x = 0 → k = L.length) ∧ (¬ x = 0 → k < L.length)) ∧ w9 = w) (fun _ _ => False) := by
  obtain ⟨v0, hv0, ga⟩ := h.cell
  obtain ⟨la, gi⟩ := hi
  have hlen := h.len
  refine z_body hl (by decide) rfl (Nat.le_of_ble_eq_true rfl) ?_
  show z_J G l mJx35411_hasNext_aae02 _ 0 [(0, _)] [] _ 0 0
  refine j_aload_n dJx35411_hasNext_aae02_0 rfl rfl ?_
  refine j_getf dJx35411_hasNext_aae02_1 fJx35411_25 gi rfl ?_
  refine j_aload_n dJx35411_hasNext_aae02_4 rfl rfl ?_
  refine j_getf dJx35411_hasNext_aae02_5 fJx35411_1 gi rfl ?_
  refine j_getf dJx35411_hasNext_aae02_8 fJx35411_28 ga rfl ?_
  refine j_icmp_eq (tgt := 18) dJx35411_hasNext_aae02_11 (by decide) (fun c_11_7 => ?_) (fun c_11_7 => ?_)
  · have he : k = L.length := nI_inj c_11_7 (by omega) (by omega)
    refine j_iconst (v := 0) dJx35411_hasNext_aae02_18 (by decide) ?_
    refine j_iret dJx35411_hasNext_aae02_19 rfl rfl ?_ (Nat.le_of_ble_eq_true rfl) (Nat.le_of_ble_eq_true rfl)
    exact ⟨⟨_, rfl, fun _ => he, fun z => absurd rfl z⟩, rfl⟩
  · have he : k < L.length := by rcases Nat.lt_or_eq_of_le hk with z | z; exact z; exact absurd (congrArg nI z) c_11_7
    refine j_iconst (v := 1) dJx35411_hasNext_aae02_14 (by decide) ?_
    refine j_goto (tgt := 19) dJx35411_hasNext_aae02_15 (by decide) ?_
    refine j_iret dJx35411_hasNext_aae02_19 rfl rfl ?_ (Nat.le_of_ble_eq_true rfl) (Nat.le_of_ble_eq_true rfl)
    exact ⟨⟨_, rfl, fun z => absurd z (by decide), fun _ => he⟩, rfl⟩
set_option maxRecDepth 100000 in
set_option maxHeartbeats 8000000 in
theorem cl_chkC (hl : l.stackTraces = false) (w : z_W) (i ρ a k : Nat) (mo : Int32) (L : List Value) (h : z_li w ρ a mo L) (hi : z_it w i a mo k) : z_Con G l mJx35411_checkForComodification_da8c8 10 0 0 w [.ref i] (fun v w9 => v = none ∧ w9 = w) (fun _ _ => False) := by
  obtain ⟨v0, hv0, ga⟩ := h.cell
  obtain ⟨la, gi⟩ := hi
  have hlen := h.len
  refine z_body hl (by decide) rfl (Nat.le_of_ble_eq_true rfl) ?_
  show z_J G l mJx35411_checkForComodification_da8c8 _ 0 [(0, _)] [] _ 0 0
  refine j_aload_n dJx35411_checkForComodification_da8c8_0 rfl rfl ?_
  refine j_getf dJx35411_checkForComodification_da8c8_1 fJx35411_1 gi rfl ?_
  refine j_getf dJx35411_checkForComodification_da8c8_4 fJx35411_17 ga rfl ?_
  refine j_aload_n dJx35411_checkForComodification_da8c8_7 rfl rfl ?_
  refine j_getf dJx35411_checkForComodification_da8c8_8 fJx35411_22 gi rfl ?_
  refine j_icmp_eq (tgt := 22) dJx35411_checkForComodification_da8c8_11 (by decide) (fun c_11_7 => ?_) (fun c_11_7 => ?_)
  · refine j_vret dJx35411_checkForComodification_da8c8_22 rfl ?_ (Nat.le_of_ble_eq_true rfl) (Nat.le_of_ble_eq_true rfl)
    exact ⟨rfl, rfl⟩
  · exact absurd rfl c_11_7
set_option maxRecDepth 100000 in
set_option maxHeartbeats 8000000 in
theorem cl_next (hl : l.stackTraces = false) (w : z_W) (γ i ρ a k : Nat) (mo : Int32) (L : List Value) (v0 : Value) (h : z_li w ρ a mo L) (hi : z_it w i a mo k) (hj : L[k]? = some v0) (h1 : 1000 ≤ i) (h2 : i % 64 = γ) (hne : ρ ≠ γ) : z_Con G l mJx35411_next_0502b 12 0 0 w [.ref i] (fun v w9 => v = some v0 ∧ z_fw γ w w9 ∧ z_it w9 i a mo (k + 1)) (fun _ _ => False) := by
  obtain ⟨m, n, f, a1, a2, a3, ga, gm, a6, a7, a8⟩ := h.one hj
  have h3 := h.2.1
  have hjl : k < L.length := (List.getElem?_eq_some_iff.mp hj).1
  obtain ⟨la, gi⟩ := id hi
  refine z_body hl (by decide) rfl (Nat.le_of_ble_eq_true rfl) ?_
  show z_J G l mJx35411_next_0502b _ 0 [(0, _)] [] _ 0 0
  refine j_aload_n dJx35411_next_0502b_0 rfl rfl ?_
  refine j_callV (q := (RJx35411, TJx35411, 4)) dJx35411_next_0502b_1 kJx35411_checkForComodification_da8c8 lJx35411_31 inJx35411_checkForComodification_da8c8 seJx35411_checkForComodification_da8c8 gi rfl (cl_chkC hl w i ρ a k mo L h hi) (Nat.le_of_ble_eq_true rfl) ⟨(Nat.le_of_ble_eq_true rfl), (Nat.le_of_ble_eq_true rfl)⟩ rfl (Nat.le_of_ble_eq_true rfl) rfl rfl (fun _ _ h => h.elim) ?_
  rintro _ _ ⟨rfl, hw16⟩
  refine j_w w hw16 ?_
  refine j_aload_n dJx35411_next_0502b_4 rfl rfl ?_
  refine j_getf dJx35411_next_0502b_5 fJx35411_25 gi rfl ?_
  refine j_istore_n (lo' := [(1, _), (0, _)]) dJx35411_next_0502b_8 (by decide) rfl ?_
  refine j_iload_n dJx35411_next_0502b_9 rfl ?_
  refine j_aload_n dJx35411_next_0502b_10 rfl rfl ?_
  refine j_getf dJx35411_next_0502b_11 fJx35411_1 gi rfl ?_
  refine j_getf dJx35411_next_0502b_14 fJx35411_28 ga rfl ?_
  refine j_icmp_lt (tgt := 28) dJx35411_next_0502b_17 (by decide) (fun c_17_13 => ?_) (fun c_17_13 => ?_)
  · refine j_aload_n dJx35411_next_0502b_28 rfl rfl ?_
    refine j_getf dJx35411_next_0502b_29 fJx35411_1 gi rfl ?_
    refine j_getf dJx35411_next_0502b_32 fJx35411_37 ga rfl ?_
    refine j_astore_n (lo' := [(2, _), (1, _), (0, _)]) dJx35411_next_0502b_35 rfl (by decide) rfl ?_
    refine j_iload_n dJx35411_next_0502b_36 rfl ?_
    refine j_aload_n dJx35411_next_0502b_37 rfl rfl ?_
    refine j_alen dJx35411_next_0502b_38 gm rfl rfl ?_
    refine j_icmp_lt (tgt := 50) dJx35411_next_0502b_39 (by decide) (fun c_39_21 => ?_) (fun c_39_21 => ?_)
    · refine j_aload_n dJx35411_next_0502b_50 rfl rfl ?_
      refine j_iload_n dJx35411_next_0502b_51 rfl ?_
      refine j_iconst (v := 1) dJx35411_next_0502b_52 (by decide) ?_
      refine j_iadd dJx35411_next_0502b_53 ?_
      refine j_top (congrArg Value.int (nI_1 k)) ?_
      refine j_put (w' := _) dJx35411_next_0502b_54 fJx35411_25 tJx35411_0 gi ⟨rfl, rfl⟩ rfl ?_
      refine j_seal h1 ?_
      intro w1 u1
      have g1_a := (u1.2.1 _ (by omega)).trans ga
      have g1_m := (u1.2.1 _ (by omega)).trans gm
      have g1_i := u1.1
      refine j_aload_n dJx35411_next_0502b_57 rfl rfl ?_
      refine j_aload_n dJx35411_next_0502b_58 rfl rfl ?_
      refine j_iload_n dJx35411_next_0502b_59 rfl ?_
      refine j_dup_x1 dJx35411_next_0502b_60 rfl rfl ?_
      refine j_put (w' := _) dJx35411_next_0502b_61 fJx35411_13 tJx35411_1 g1_i ⟨rfl, rfl⟩ rfl ?_
      refine j_seal h1 ?_
      intro w2 u2
      have g2_a := (u2.2.1 _ (by omega)).trans g1_a
      have g2_m := (u2.2.1 _ (by omega)).trans g1_m
      have g2_i := u2.1
      refine j_aald dJx35411_next_0502b_64 g2_m rfl rfl (vp_in_nI (by omega) (by omega)) (show f (nI k).toNatClampNeg = v0 by rw [z_cla (by omega)]; exact a8 k v0 hj) ?_
      refine j_aret dJx35411_next_0502b_65 rfl (Or.inl ⟨_, rfl⟩) (h.ir hj) ?_ (Nat.le_of_ble_eq_true rfl) (Nat.le_of_ble_eq_true rfl)
      exact ⟨rfl, ((u1.fw h1 h2).tr (u2.fw h1 h2)), _, g2_i⟩
    · exact absurd (nI_lt (show k < n by omega) (by omega)) c_39_21
  · exact absurd (nI_lt hjl (by omega)) c_17_13
set_option maxRecDepth 100000 in
set_option maxHeartbeats 8000000 in
theorem cl_toA (hl : l.stackTraces = false) (w : z_W) (ρ σ a M : Nat) (mo : Int32) (L : List Value) (h : z_li w σ a mo L) (hρ : ρ < 64) (hf : z_fn w) (hM : L.length ≤ M) (hM2 : M ≤ 1000) (hel : ∀ v ∈ L, z_el σ w v) : z_Con G l mJx4a65c_toArray_d5877 14 1 M w [.ref a] (fun v w9 => ∃ (m9 : Nat) (g : Nat → Value), v = some (.ref m9) ∧ z_fw ρ w w9 ∧ 1000 ≤ m9 ∧ m9 % 64 = ρ ∧ (∀ k e, z_g w k = some e → k ≠ m9) ∧ z_g w9 m9 = some (.inl (3, L.length, g)) ∧ (∀ k e, z_g w k = some e → z_g w9 k = some e) ∧ ∀ (j : Nat) (v : Value), L[j]? = some v → g j = v) (fun _ _ => False) := by
  rcases h.2.2.2 with ⟨m, n, f, hA⟩ | ⟨k, hL, hk, ga⟩
  · obtain ⟨a1, a2, a3, ga, gm, a6, a7, a8⟩ := id hA
    refine z_body hl (by decide) rfl (Nat.le_of_ble_eq_true rfl) ?_
    show z_J G l mJx4a65c_toArray_d5877 _ 0 [(0, _)] [] _ 0 0
    refine j_aload_n dJx4a65c_toArray_d5877_0 rfl rfl ?_
    refine j_getf dJx4a65c_toArray_d5877_1 fJx4a65c_9 ga rfl ?_
    refine j_aload_n dJx4a65c_toArray_d5877_4 rfl rfl ?_
    refine j_getf dJx4a65c_toArray_d5877_5 fJx4a65c_48 ga rfl ?_
    refine j_callS dJx4a65c_toArray_d5877_8 kJ7_copyOf_1904c lJx4a65c_66 stJ7_copyOf_1904c (cl_cpB hl w ρ m n L.length f hρ hf gm (by omega) (by omega) (fun j _ hj => z_elK hel hA hj)) (Nat.le_of_ble_eq_true rfl) ⟨(Nat.le_of_ble_eq_true rfl), (by show _ ≤ M; omega)⟩ rfl (Nat.le_of_ble_eq_true rfl) rfl rfl (fun _ _ h => h.elim) ?_
    rintro _ w1 ⟨m9, g9, rfl, fw1, c1, c2, c3, c4, c5, c6⟩
    have hf1 := fw1.2.1 hf
    refine j_aret dJx4a65c_toArray_d5877_11 rfl (Or.inr ⟨_, rfl⟩) rfl ?_ (Nat.le_of_ble_eq_true rfl) (by show _ ≤ M; omega)
    exact ⟨m9, g9, rfl, fw1, c1, c2, c3, c4, c5, fun j v hj => by have hjl := (List.getElem?_eq_some_iff.mp hj).1; rw [c6 j (by omega) hjl]; exact a8 j v hj⟩
  · subst hL
    refine z_body hl (by decide) rfl (Nat.le_of_ble_eq_true rfl) ?_
    show z_J G l mJx4a65c_toArray_d5877 _ 0 [(0, _)] [] _ 0 0
    refine j_aload_n dJx4a65c_toArray_d5877_0 rfl rfl ?_
    refine j_getf dJx4a65c_toArray_d5877_1 fJx4a65c_9 ga rfl ?_
    refine j_aload_n dJx4a65c_toArray_d5877_4 rfl rfl ?_
    refine j_getf dJx4a65c_toArray_d5877_5 fJx4a65c_48 ga rfl ?_
    refine j_callS dJx4a65c_toArray_d5877_8 kJ7_copyOf_1904c lJx4a65c_66 stJ7_copyOf_1904c (cl_cpBK hl w ρ k 0 hρ hf hk (by omega)) (Nat.le_of_ble_eq_true rfl) ⟨(Nat.le_of_ble_eq_true rfl), (by show _ ≤ M; omega)⟩ rfl (Nat.le_of_ble_eq_true rfl) rfl rfl (fun _ _ h => h.elim) ?_
    rintro _ w1 ⟨m9, g9, rfl, fw1, c1, c2, c3, c4, c5⟩
    have hf1 := fw1.2.1 hf
    refine j_aret dJx4a65c_toArray_d5877_11 rfl (Or.inr ⟨_, rfl⟩) rfl ?_ (Nat.le_of_ble_eq_true rfl) (by show _ ≤ M; omega)
    exact ⟨m9, g9, rfl, fw1, c1, c2, c3, c4, c5, fun j v hj => by simp at hj⟩
set_option maxRecDepth 100000 in
set_option maxHeartbeats 8000000 in
theorem cl_initC (hl : l.stackTraces = false) (w : z_W) (ρ σ a b M : Nat) (mo : Int32) (L : List Value) (h1 : 1000 ≤ a) (h2 : a % 64 = ρ) (ga : z_g w a = some (.inr (4, [.int 0, .null, .int 0]))) (h : z_li w σ b mo L) (hσ : σ ≠ ρ) (hne : b ≠ a) (hρ : ρ < 64) (hf : z_fn w) (hM : L.length ≤ M) (hM2 : M ≤ 1000) (hel : ∀ v ∈ L, ∃ b, v = .float b) : z_Con G l mJx4a65c_init_4bcb3 16 1 M w [.ref a, .ref b] (fun v w9 => v = none ∧ z_fw ρ w w9 ∧ z_li w9 ρ a 0 L) (fun _ _ => False) := by
  obtain ⟨v0, hv0, gb⟩ := h.cell
  have hlen := h.len
  have hir := h.2.2.1
  have hb2 := h.2.1
  refine z_body hl (by decide) rfl (Nat.le_of_ble_eq_true rfl) ?_
  show z_J G l mJx4a65c_init_4bcb3 _ 0 [(0, _), (1, _)] [] _ 0 0
  refine j_aload_n dJx4a65c_init_4bcb3_0 rfl rfl ?_
  refine j_callI dJx4a65c_init_4bcb3_1 kJxc12de_init_da8c8 rfl lJx4a65c_1 inJxc12de_init_da8c8 rfl (cl_ALi hl w ρ a h1 h2 ga) (Nat.le_of_ble_eq_true rfl) ⟨(Nat.le_of_ble_eq_true rfl), (Nat.le_of_ble_eq_true rfl)⟩ rfl (Nat.le_of_ble_eq_true rfl) rfl rfl (fun _ _ h => h.elim) ?_
  rintro _ w1 ⟨rfl, fw1, hk1, gz1⟩
  have g1_b := fw1.g (Or.inr (by omega)) gb
  have hf1 := fw1.2.1 hf
  refine j_aload_n dJx4a65c_init_4bcb3_4 rfl rfl ?_
  refine j_callF (x := ⟨"java/util/Collection", "toArray", "()[Ljava/lang/Object;"⟩) (q := (RJx4a65c, TJx4a65c, 3)) dJx4a65c_init_4bcb3_5 kJx4a65c_toArray_d5877 ⟨(z_w 1621 ((lwt_7_4 16).trans rfl) (by decide +kernel)), (z_w 1625 ((lwt_7_4 20).trans rfl) (by decide +kernel)), inJx4a65c_toArray_d5877, ⟨by decide, by decide⟩, rfl, fun U h => h.1⟩ g1_b rfl (cl_toA hl w1 ρ σ b M mo L (h.fw fw1 hσ) hρ hf1 hM hM2 (fun v hv => by obtain ⟨b9, rfl⟩ := hel v hv; exact z_elF)) (Nat.le_of_ble_eq_true rfl) ⟨(Nat.le_of_ble_eq_true rfl), (by show _ ≤ M; omega)⟩ rfl (Nat.le_of_ble_eq_true rfl) rfl ?_
  rintro _ w2 ⟨m9, g9, rfl, fw2, c1, c2, c3, c4, c5, c6⟩
  have hf2 := fw2.2.1 hf1
  have g2_a := c5 a _ gz1
  have g2_b := c5 b _ g1_b
  refine j_astore_n (lo' := [(2, _), (0, _), (1, _)]) dJx4a65c_init_4bcb3_10 rfl (by decide) rfl ?_
  refine j_aload_n dJx4a65c_init_4bcb3_11 rfl rfl ?_
  refine j_aload_n dJx4a65c_init_4bcb3_12 rfl rfl ?_
  refine j_alen dJx4a65c_init_4bcb3_13 c4 rfl rfl ?_
  refine j_dup_x1 dJx4a65c_init_4bcb3_14 rfl rfl ?_
  refine j_put (w' := _) dJx4a65c_init_4bcb3_15 fJx4a65c_48 tJx4a65c_2 g2_a ⟨rfl, rfl⟩ rfl ?_
  refine j_seal h1 ?_
  intro w3 u3
  have g3_b := (u3.2.1 _ hne).trans g2_b
  have g3_m := (u3.2.1 _ (Ne.symm (c3 a _ gz1))).trans c4
  have g3_a := u3.1
  have hf3 := u3.2.2.2 hf2
  refine j_if_eq (tgt := 57) dJx4a65c_init_4bcb3_18 (by decide) (fun c_18_25 => ?_) (fun c_18_25 => ?_)
  · have hL0 : L = [] := List.eq_nil_of_length_eq_zero (nI_inj (a := L.length) (b := 0) c_18_25 (by omega) (by omega))
    refine j_aload_n dJx4a65c_init_4bcb3_57 rfl rfl ?_
    refine j_gets dJx4a65c_init_4bcb3_58 (List.mem_of_getElem? (i := 3) rfl) rfl (z_w 1639 ((lwt_7_5 4).trans rfl) (by decide +kernel)) ?_
    refine j_put (w' := _) dJx4a65c_init_4bcb3_61 fJx4a65c_9 tJx4a65c_1 g3_a (Or.inr ⟨_, rfl⟩) rfl ?_
    refine j_seal h1 ?_
    intro w4 u4
    have g4_b := (u4.2.1 _ hne).trans g3_b
    have g4_m := (u4.2.1 _ (Ne.symm (c3 a _ gz1))).trans g3_m
    have g4_a := u4.1
    have hf4 := u4.2.2.2 hf3
    refine j_vret dJx4a65c_init_4bcb3_64 rfl ?_ (Nat.le_of_ble_eq_true rfl) (by show _ ≤ M; omega)
    exact ⟨rfl, (((fw1.tr fw2).tr (u3.fw h1 h2)).tr (u4.fw h1 h2)), h1, h2, hir, Or.inr ⟨1, hL0, by decide, by have e9 := g4_a; rw [hL0] at e9; exact e9⟩⟩
  · refine j_aload_n dJx4a65c_init_4bcb3_21 rfl rfl ?_
    refine j_gcI dJx4a65c_init_4bcb3_22 (z_w 1631 ((lwt_7_4 26).trans rfl) (by decide +kernel)) (z_w 1424 ((lwt_6_5 29).trans rfl) (by decide +kernel)) (z_w 1442 ((lwt_6_6 17).trans rfl) (by decide +kernel)) gc_i gc_n g3_b (Nat.le_of_ble_eq_true rfl) (Nat.le_of_ble_eq_true rfl) ?_
    refine j_ldcC dJx4a65c_init_4bcb3_27 (z_w 1636 ((lwt_7_5 1).trans rfl) (by decide +kernel)) ?_
    refine j_acmp_neK (tgt := 40) dJx4a65c_init_4bcb3_29 (by decide) ?_
    refine j_aload_n dJx4a65c_init_4bcb3_32 rfl rfl ?_
    refine j_aload_n dJx4a65c_init_4bcb3_33 rfl rfl ?_
    refine j_put (w' := _) dJx4a65c_init_4bcb3_34 fJx4a65c_9 tJx4a65c_1 g3_a (Or.inr ⟨_, rfl⟩) rfl ?_
    refine j_seal h1 ?_
    intro w5 u5
    have g5_b := (u5.2.1 _ hne).trans g3_b
    have g5_m := (u5.2.1 _ (Ne.symm (c3 a _ gz1))).trans g3_m
    have g5_a := u5.1
    have hf5 := u5.2.2.2 hf3
    refine j_goto (tgt := 64) dJx4a65c_init_4bcb3_37 (by decide) ?_
    refine j_vret dJx4a65c_init_4bcb3_64 rfl ?_ (Nat.le_of_ble_eq_true rfl) (by show _ ≤ M; omega)
    exact ⟨rfl, (((fw1.tr fw2).tr (u3.fw h1 h2)).tr (u5.fw h1 h2)), z_li.of h1 h2 hir ⟨c1, c2, Ne.symm (c3 a _ gz1), g5_a, g5_m, Nat.le_refl _, hlen, c6⟩⟩
end ZLt
