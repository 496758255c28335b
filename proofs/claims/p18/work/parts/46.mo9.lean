section ZMs9
variable {G : z_G} {l : Launch}
theorem j_mnew2 {y : z_M} {S : z_S} {pc : Nat} {lo : List (Nat × Value)} {st : List Value} {w : z_W} {kc ks : Nat} {idx a b c d : Nat} (hd : decode y.2.1 pc = .ok (.multianewarray idx 2, 4)) (hcl : Cond.classLink y.1.cls idx "[[I" ∈ z_tbl) (hov : Cond.arrayOver (.array .int) ∈ z_nst) (har : Cond.arrayClass .int ∈ z_tbl)
    (ha : 1000 ≤ a) (hb : 1000 ≤ b) (hc : 1000 ≤ c) (hd9 : 1000 ≤ d) (fa : z_g w a = none) (fb : z_g w b = none) (fc : z_g w c = none) (fd : z_g w d = none) (nab : b ≠ a) (nac : c ≠ a) (nad : d ≠ a) (nbc : c ≠ b) (nbd : d ≠ b) (ncd : d ≠ c)
    (hcs : kc + (1 + 3) ≤ S.2.1) (hss : ks + (3 + 3 * 7) ≤ S.2.2.1)
    (h : ∀ w', w'.1 = w.1 → (z_fn w → z_fn w') → (∀ m, m ≠ a → m ≠ b → m ≠ c → m ≠ d → z_g w' m = z_g w m) → (∃ f, z_g w' a = some (.inl (8, 3, f)) ∧ f 0 = .ref b ∧ f 1 = .ref c ∧ f 2 = .ref d) → z_g w' b = some (.inl (0, 7, fun _ => .int 0)) → z_g w' c = some (.inl (0, 7, fun _ => .int 0)) → z_g w' d = some (.inl (0, 7, fun _ => .int 0)) → z_J G l y S (pc + 4) lo (.ref a :: st) w' (kc + 4) (ks + 24)) : z_J G l y S pc lo (.int 7 :: .int 3 :: st) w kc ks := by
  refine j_mnew hd hcl hov har ha hb hc hd9 fa fb fc fd nab nac nad nbc nbd ncd hcs hss ?_
  obtain ⟨a1, a2, a3, a4⟩ := z_upS (w := w) (n := a) (e := .inl (8, 3, fun _ => .null)) ha
  generalize z_s w a (.inl (8, 3, fun _ => .null)) = w1 at *
  obtain ⟨b1, b2, b3, b4⟩ := z_upS (w := w1) (n := b) (e := .inl (0, 7, fun _ => .int 0)) hb
  generalize z_s w1 b (.inl (0, 7, fun _ => .int 0)) = w2 at *
  obtain ⟨c1, c2, c3, c4⟩ := z_upS (w := w2) (n := c) (e := .inl (0, 7, fun _ => .int 0)) hc
  generalize z_s w2 c (.inl (0, 7, fun _ => .int 0)) = w3 at *
  obtain ⟨d1, d2, d3, d4⟩ := z_upS (w := w3) (n := d) (e := .inl (0, 7, fun _ => .int 0)) hd9
  generalize z_s w3 d (.inl (0, 7, fun _ => .int 0)) = w4 at *
  obtain ⟨e1, e2, e3, e4⟩ := z_upS (w := w4) (n := a) (e := .inl (8, 3, z_u (z_u (z_u (fun _ => .null) 0 (.ref b)) 1 (.ref c)) 2 (.ref d))) ha
  generalize z_s w4 a (.inl (8, 3, z_u (z_u (z_u (fun _ => .null) 0 (.ref b)) 1 (.ref c)) 2 (.ref d))) = w5 at *
  exact h w5 (e3.trans (d3.trans (c3.trans (b3.trans a3)))) (fun z => e4 (d4 (c4 (b4 (a4 z))))) (fun m m1 m2 m3 m4 => (e2 m m1).trans ((d2 m m4).trans ((c2 m m3).trans ((b2 m m2).trans (a2 m m1))))) ⟨_, e1, rfl, rfl, rfl⟩ ((e2 b nab).trans ((d2 b (Ne.symm nbd)).trans ((c2 b (Ne.symm nbc)).trans b1))) ((e2 c nac).trans ((d2 c (Ne.symm ncd)).trans c1)) ((e2 d nad).trans d1)
theorem z_mem2 {P : Value → Prop} {L : List Value} {e : Value} (h : ∀ v ∈ L, P v) (he : P e) : ∀ v ∈ L ++ [e], P v := fun v hv => by
  rcases List.mem_append.mp hv with hv | hv
  · exact h v hv
  · rw [List.mem_singleton.mp hv]; exact he
set_option maxRecDepth 100000 in
set_option maxHeartbeats 8000000 in
theorem cm_init1009 (hl : l.stackTraces = false) (w : z_W)  (hfn : z_fn w) (hno : ∀ k, k = 1014 → z_g w k = none) (gh : z_g w 1009 = some (.inr (14, [.int 0, .int 0, .int 0, .int 0, .null]))) : z_Con G l mX10_init 14 1 3 w [.ref 1009] (fun v w9 => v = none ∧ w9.1 = w.1 ∧ z_fn w9 ∧ (∀ k, k < 1000 ∨ (k % 64 ≠ 49 ∧ k % 64 ≠ 54) → z_g w9 k = z_g w k) ∧ z_g w9 1009 = some (.inr (14, [.int (-1000), .int 0, .int 0, .int (-1), .ref 1014])) ∧ z_li w9 54 1014 0 []) (fun _ _ => False) := by
  have f_1014 : z_g w 1014 = none := hno 1014 (by decide)
  have b0 : w.1 = w.1 := rfl
  refine z_body hl (by decide) rfl (Nat.le_of_ble_eq_true rfl) ?_
  show z_J G l mX10_init _ 0 [(0, _)] [] _ 0 0
  refine j_aload_n dX10_init_0 rfl rfl ?_
  refine j_objI dX10_init_1 oX10_3 z_oi1 z_oi2 (Nat.le_of_ble_eq_true rfl) (Nat.le_of_ble_eq_true rfl) ?_
  refine j_aload_n dX10_init_4 rfl rfl ?_
  refine j_sipush (v := (-1000)) dX10_init_5 (by decide) ?_
  refine j_put (w' := _) dX10_init_8 fX10_9 tX10_0 gh ⟨rfl, rfl⟩ rfl ?_
  refine j_seal (n := 1009) (by decide) ?_
  intro w1 u1
  have fw1 := u1.fw (ρ := 49) (by decide) (by decide)
  have g1_1014 := (fw1.2.2 1014 (Or.inr (by decide))).trans f_1014
  have g1_1009 := u1.1
  have b1 := (fw1.1).trans b0
  have hf1 := fw1.2.1 hfn
  refine j_aload_n dX10_init_11 rfl rfl ?_
  refine j_iconst (v := (-1)) dX10_init_12 (by decide) ?_
  refine j_put (w' := _) dX10_init_13 fX10_15 tX10_3 g1_1009 ⟨rfl, rfl⟩ rfl ?_
  refine j_seal (n := 1009) (by decide) ?_
  intro w2 u2
  have fw2 := u2.fw (ρ := 49) (by decide) (by decide)
  have g2_1014 := (fw2.2.2 1014 (Or.inr (by decide))).trans g1_1014
  have g2_1009 := u2.1
  have b2 := (fw2.1).trans b1
  have hf2 := fw2.2.1 hf1
  refine j_aload_n dX10_init_16 rfl rfl ?_
  refine j_new (w' := _) (n := 1014) dX10_init_17 nX10_18 rfl (z_alW g2_1014 (by decide)) (Nat.le_of_ble_eq_true rfl) (Nat.le_of_ble_eq_true rfl) ?_
  refine j_seal (n := 1014) (by decide) ?_
  intro w3 u3
  have fw3 := u3.fw (ρ := 54) (by decide) (by decide)
  have g3_1009 := (fw3.2.2 1009 (Or.inr (by decide))).trans g2_1009
  have g3_1014 := u3.1
  have b3 := (fw3.1).trans b2
  have hf3 := fw3.2.1 hf2
  refine j_dup dX10_init_20 rfl ?_
  refine j_callI dX10_init_21 kJx4a65c_init_da8c8 rfl lX10_20 inJx4a65c_init_da8c8 rfl (cl_init hl w3 54 1014 (by decide) (by decide) g3_1014) (Nat.le_of_ble_eq_true rfl) ⟨(Nat.le_of_ble_eq_true rfl), (Nat.le_of_ble_eq_true rfl)⟩ rfl (Nat.le_of_ble_eq_true rfl) rfl rfl (fun _ _ h => h.elim) ?_
  rintro _ w4 ⟨rfl, fw4, hk4, l4_1014⟩
  have g4_1009 := (fw4.2.2 1009 (Or.inr (by decide))).trans g3_1009
  have b4 := (fw4.1).trans b3
  have hf4 := fw4.2.1 hf3
  refine j_putF (w' := _) dX10_init_24 fX10_21 tX10_4 rfl (z_dc rfl rfl (z_w 1389 ((lwt_6_4 24).trans rfl) (by decide +kernel))) g4_1009 (Or.inl ⟨_, rfl⟩) rfl ?_
  refine j_seal (n := 1009) (by decide) ?_
  intro w5 u5
  have fw5 := u5.fw (ρ := 49) (by decide) (by decide)
  have l5_1014 := l4_1014.fw fw5 (by decide)
  have g5_1009 := u5.1
  have b5 := (fw5.1).trans b4
  have hf5 := fw5.2.1 hf4
  refine j_vret dX10_init_27 rfl ?_ (Nat.le_of_ble_eq_true rfl) (Nat.le_of_ble_eq_true rfl)
  exact ⟨rfl, b5, hf5, fun k hk => by rw [fw5.2.2 k (by omega)]; rw [fw4.2.2 k (by omega)]; rw [fw3.2.2 k (by omega)]; rw [fw2.2.2 k (by omega)]; rw [fw1.2.2 k (by omega)], g5_1009, l5_1014⟩
set_option maxRecDepth 100000 in
set_option maxHeartbeats 8000000 in
theorem cm_init1010 (hl : l.stackTraces = false) (w : z_W)  (hfn : z_fn w) (hno : ∀ k, k = 1015 → z_g w k = none) (gh : z_g w 1010 = some (.inr (14, [.int 0, .int 0, .int 0, .int 0, .null]))) : z_Con G l mX10_init 14 1 3 w [.ref 1010] (fun v w9 => v = none ∧ w9.1 = w.1 ∧ z_fn w9 ∧ (∀ k, k < 1000 ∨ (k % 64 ≠ 50 ∧ k % 64 ≠ 55) → z_g w9 k = z_g w k) ∧ z_g w9 1010 = some (.inr (14, [.int (-1000), .int 0, .int 0, .int (-1), .ref 1015])) ∧ z_li w9 55 1015 0 []) (fun _ _ => False) := by
  have f_1015 : z_g w 1015 = none := hno 1015 (by decide)
  have b0 : w.1 = w.1 := rfl
  refine z_body hl (by decide) rfl (Nat.le_of_ble_eq_true rfl) ?_
  show z_J G l mX10_init _ 0 [(0, _)] [] _ 0 0
  refine j_aload_n dX10_init_0 rfl rfl ?_
  refine j_objI dX10_init_1 oX10_3 z_oi1 z_oi2 (Nat.le_of_ble_eq_true rfl) (Nat.le_of_ble_eq_true rfl) ?_
  refine j_aload_n dX10_init_4 rfl rfl ?_
  refine j_sipush (v := (-1000)) dX10_init_5 (by decide) ?_
  refine j_put (w' := _) dX10_init_8 fX10_9 tX10_0 gh ⟨rfl, rfl⟩ rfl ?_
  refine j_seal (n := 1010) (by decide) ?_
  intro w1 u1
  have fw1 := u1.fw (ρ := 50) (by decide) (by decide)
  have g1_1015 := (fw1.2.2 1015 (Or.inr (by decide))).trans f_1015
  have g1_1010 := u1.1
  have b1 := (fw1.1).trans b0
  have hf1 := fw1.2.1 hfn
  refine j_aload_n dX10_init_11 rfl rfl ?_
  refine j_iconst (v := (-1)) dX10_init_12 (by decide) ?_
  refine j_put (w' := _) dX10_init_13 fX10_15 tX10_3 g1_1010 ⟨rfl, rfl⟩ rfl ?_
  refine j_seal (n := 1010) (by decide) ?_
  intro w2 u2
  have fw2 := u2.fw (ρ := 50) (by decide) (by decide)
  have g2_1015 := (fw2.2.2 1015 (Or.inr (by decide))).trans g1_1015
  have g2_1010 := u2.1
  have b2 := (fw2.1).trans b1
  have hf2 := fw2.2.1 hf1
  refine j_aload_n dX10_init_16 rfl rfl ?_
  refine j_new (w' := _) (n := 1015) dX10_init_17 nX10_18 rfl (z_alW g2_1015 (by decide)) (Nat.le_of_ble_eq_true rfl) (Nat.le_of_ble_eq_true rfl) ?_
  refine j_seal (n := 1015) (by decide) ?_
  intro w3 u3
  have fw3 := u3.fw (ρ := 55) (by decide) (by decide)
  have g3_1010 := (fw3.2.2 1010 (Or.inr (by decide))).trans g2_1010
  have g3_1015 := u3.1
  have b3 := (fw3.1).trans b2
  have hf3 := fw3.2.1 hf2
  refine j_dup dX10_init_20 rfl ?_
  refine j_callI dX10_init_21 kJx4a65c_init_da8c8 rfl lX10_20 inJx4a65c_init_da8c8 rfl (cl_init hl w3 55 1015 (by decide) (by decide) g3_1015) (Nat.le_of_ble_eq_true rfl) ⟨(Nat.le_of_ble_eq_true rfl), (Nat.le_of_ble_eq_true rfl)⟩ rfl (Nat.le_of_ble_eq_true rfl) rfl rfl (fun _ _ h => h.elim) ?_
  rintro _ w4 ⟨rfl, fw4, hk4, l4_1015⟩
  have g4_1010 := (fw4.2.2 1010 (Or.inr (by decide))).trans g3_1010
  have b4 := (fw4.1).trans b3
  have hf4 := fw4.2.1 hf3
  refine j_putF (w' := _) dX10_init_24 fX10_21 tX10_4 rfl (z_dc rfl rfl (z_w 1389 ((lwt_6_4 24).trans rfl) (by decide +kernel))) g4_1010 (Or.inl ⟨_, rfl⟩) rfl ?_
  refine j_seal (n := 1010) (by decide) ?_
  intro w5 u5
  have fw5 := u5.fw (ρ := 50) (by decide) (by decide)
  have l5_1015 := l4_1015.fw fw5 (by decide)
  have g5_1010 := u5.1
  have b5 := (fw5.1).trans b4
  have hf5 := fw5.2.1 hf4
  refine j_vret dX10_init_27 rfl ?_ (Nat.le_of_ble_eq_true rfl) (Nat.le_of_ble_eq_true rfl)
  exact ⟨rfl, b5, hf5, fun k hk => by rw [fw5.2.2 k (by omega)]; rw [fw4.2.2 k (by omega)]; rw [fw3.2.2 k (by omega)]; rw [fw2.2.2 k (by omega)]; rw [fw1.2.2 k (by omega)], g5_1010, l5_1015⟩
end ZMs9
