section ZH
variable {G : z_G} {l : Launch} {y : z_M} {S : z_S} {pc : Nat} {lo : List (Nat × Value)} {st : List Value} {w w' : z_W} {kc ks : Nat}
theorem z_Vs {G : z_G} {R : z_R} {w : z_W} {n : Nat} {e e0 : z_E} (hn : z_g w n = some e0) (v c : Value) (h : z_V G R w v c) : z_V G R (z_s w n e) v c := by
  cases v with
  | int x => exact h
  | long x => exact h
  | null => exact h
  | ref m => exact ⟨(z_ds hn m).mpr h.1, h.2⟩
  | float b => exact h
  | retAddr k => exact h
  | double b => exact h
theorem z_write {G : z_G} {S : z_S} {R0 R : z_R} {s : State} {w : z_W} {H H' : Heap} {locs : List Loc} {n i : Nat} {e0 e : z_E} (hat : z_at G S R0 s R w H locs) (hn : z_g w n = some e0) (h1 : H'.size = H.size) (h2 : ∀ q : Nat, q ≠ R.1 n → H'[q]? = H[q]?) (h3 : z_X G R (z_s w n e) e (R.1 n) H') : z_at G S R0 s R (z_s w n e) H' (locs ++ [⟨R.1 n, i⟩]) := by
  obtain ⟨⟨p1, p2, p3⟩, t, f⟩ := hat
  refine ⟨⟨fun m em hm => ?_, fun a b ha hb => p2 a b ((z_ds hn a).mp ha) ((z_ds hn b).mp hb), fun q b hq => ?_⟩, ⟨fun m hm => ⟨(z_ds hn m).mpr (t.1 m hm).1, (t.1 m hm).2⟩, t.2.1, fun m hm => t.2.2.1 m ((z_ds hn m).mp hm), t.2.2.2⟩, ?_⟩
  · by_cases hmn : m = n
    · subst hmn
      rw [z_gs_self hn] at hm
      cases hm
      exact ⟨h3, (p1 m e0 hn).2⟩
    · rw [z_gs_ne hmn] at hm
      have hne : R.1 m ≠ R.1 n := fun q => hmn (p2 m n ⟨_, hm⟩ ⟨_, hn⟩ q)
      exact ⟨(p1 m em hm).1.kept (z_Vs hn) (h2 _ hne), (p1 m em hm).2⟩
  · obtain ⟨a1, a2⟩ := p3 q b hq
    exact ⟨a1.kept (h2 q (fun z => a2 n ⟨_, hn⟩ z.symm)), fun m hm => a2 m ((z_ds hn m).mp hm)⟩
  · refine ⟨Nat.le_trans f.1 (Nat.le_of_eq h1.symm), fun q hq hA => ?_, fun x hx => ?_⟩
    · rw [h2 q (fun z => hA (by rw [z]; exact t.A ⟨_, hn⟩))]
      exact f.2.1 q hq hA
    · rcases List.mem_append.mp hx with h | h
      · exact f.2.2 x h
      · rw [List.mem_singleton.mp h]
        exact (p1 n e0 hn).2
def z_al (w : z_W) (n : Nat) (e : z_E) (w' : z_W) : Prop := z_g w' n = some e ∧ ∀ m : Nat, m ≠ n → z_g w' m = z_g w m
theorem z_al_l {L : List z_E} {P : Nat → Option z_E} {n : Nat} {e : z_E} (hn : L.length = n) (h : Nat.blt n 1000 = true) : z_g (L, P) n = none ∧ z_al (L, P) n e (L ++ [e], P) := by
  subst hn
  refine ⟨?_, ?_, fun m hm => ?_⟩
  · simp only [z_g, h, cond]
    exact List.getElem?_eq_none (Nat.le_refl _)
  · simp only [z_g, h, cond]
    exact List.getElem?_concat_length
  · cases hb : Nat.blt m 1000 <;> simp only [z_g, hb, cond]
    rcases Nat.lt_or_gt_of_ne hm with q | q
    · exact List.getElem?_append_left q
    · rw [List.getElem?_eq_none (by rw [List.length_append]; exact q), List.getElem?_eq_none (Nat.le_of_lt q)]
theorem z_Va {G : z_G} {R : z_R} {w w' : z_W} {n q : Nat} {e : z_E} (hn : z_g w n = none) (hw : z_al w n e w') (v c : Value) (h : z_V G R w v c) : z_V G ((fun m => if m = n then q else R.1 m), R.2) w' v c := by
  cases v with
  | int x => exact h
  | long x => exact h
  | null => exact h
  | ref m =>
    obtain ⟨⟨em, hm⟩, hc⟩ := h
    have hne : m ≠ n := fun z => by rw [z, hn] at hm; cases hm
    refine ⟨⟨em, by rw [hw.2 m hne]; exact hm⟩, ?_⟩
    show c = .ref (if m = n then q else R.1 m)
    rw [if_neg hne]
    exact hc
  | float b => exact h
  | retAddr k => exact h
  | double b => exact h
theorem z_alloc {G : z_G} {S : z_S} {R0 R : z_R} {s : State} {w w' : z_W} {H H' : Heap} {locs : List Loc} {n : Nat} {e : z_E} (hbs : z_b G ≤ s.heap.size) (hat : z_at G S R0 s R w H locs) (hn : z_g w n = none) (hw : z_al w n e w') (h1 : H'.size = H.size + 1) (h2 : ∀ q : Nat, q < H.size → H'[q]? = H[q]?)
    (h3 : z_X G ((fun m => if m = n then H.size else R.1 m), R.2) w' e H.size H') : z_at G S R0 s ((fun m => if m = n then H.size else R.1 m), R.2) w' H' locs := by
  obtain ⟨⟨p1, p2, p3⟩, t, f⟩ := hat
  have old : ∀ m, z_d w' m → m ≠ n → z_d w m := fun m ⟨em, hm⟩ hne => ⟨em, by rw [← hw.2 m hne]; exact hm⟩
  have lt : ∀ m, z_d w m → R.1 m < H.size := fun m ⟨em, hm⟩ => (p1 m em hm).1.lt
  have ne : ∀ m, z_d w m → m ≠ n := fun m ⟨em, hm⟩ z => by rw [z, hn] at hm; cases hm
  refine ⟨⟨fun m em hm => ?_, fun a b ha hb hab => ?_, fun q b hq => ?_⟩, ⟨fun m hm => ?_, t.2.1, fun m hm hno => ?_, t.2.2.2⟩, ?_⟩
  · by_cases hmn : m = n
    · subst hmn
      rw [hw.1] at hm
      cases hm
      show z_X _ _ _ _ (if m = m then H.size else R.1 m) _ ∧ _ ≤ (if m = m then H.size else R.1 m)
      rw [if_pos rfl]
      exact ⟨h3, Nat.le_trans hbs f.1⟩
    · show z_X _ _ _ _ (if m = n then H.size else R.1 m) _ ∧ _ ≤ (if m = n then H.size else R.1 m)
      rw [if_neg hmn]
      rw [hw.2 m hmn] at hm
      exact ⟨(p1 m em hm).1.kept (z_Va hn hw) (h2 _ (lt m ⟨_, hm⟩)), (p1 m em hm).2⟩
  · have hab : (if a = n then H.size else R.1 a) = (if b = n then H.size else R.1 b) := hab
    by_cases han : a = n
    · by_cases hbn : b = n
      · rw [han, hbn]
      · rw [if_pos han, if_neg hbn] at hab
        have := lt b (old b hb hbn)
        omega
    · by_cases hbn : b = n
      · rw [if_neg han, if_pos hbn] at hab
        have := lt a (old a ha han)
        omega
      · rw [if_neg han, if_neg hbn] at hab
        exact p2 a b (old a ha han) (old b hb hbn) hab
  · obtain ⟨a1, a2⟩ := p3 q b hq
    have hql : q < H.size := by obtain ⟨cell, h9, -⟩ := a1; exact (Array.getElem?_eq_some_iff.mp h9).1
    refine ⟨a1.kept (h2 q hql), fun m hm => ?_⟩
    show (if m = n then H.size else R.1 m) ≠ q
    by_cases hmn : m = n
    · rw [if_pos hmn]; omega
    · rw [if_neg hmn]; exact a2 m (old m hm hmn)
  · have hm1 := (t.1 m hm).1
    have hmn := ne m hm1
    obtain ⟨em, hem⟩ := hm1
    refine ⟨⟨em, by rw [hw.2 m hmn]; exact hem⟩, ?_⟩
    show (if m = n then H.size else R.1 m) = _
    rw [if_neg hmn]
    exact (t.1 m hm).2
  · show s.heap.size ≤ (if m = n then H.size else R.1 m)
    by_cases hmn : m = n
    · rw [if_pos hmn]; exact f.1
    · rw [if_neg hmn]; exact t.2.2.1 m (old m hm hmn) hno
  · exact ⟨Nat.le_trans f.1 (by omega), fun q hq hA => (h2 q (Nat.lt_of_lt_of_le hq f.1)).trans (f.2.1 q hq hA), f.2.2⟩
def z_F (own : String) (idx ci k : Nat) : Prop := ∃ (q : vw_C) (ref : String), z_cls[ci]? = some q ∧ k < q.2.2 ∧ (∀ x ∈ u_ws q.1 q.2.1 q.2.2, x ∈ z_tbl) ∧
  (Cond.fieldLink own idx ref (q.2.1 k).2.1 (q.2.1 k).2.2.1 ∈ z_tbl ∨ ∃ host : String, Cond.fieldLinkNest own idx ref (q.2.1 k).2.1 (q.2.1 k).2.2.1 host ∈ z_nst) ∧ ((q.2.1 k).1 = ref ∨ Cond.sameField ref (q.2.1 k).1 (q.2.1 k).2.1 (q.2.1 k).2.2.1 ∈ z_tbl)
theorem j_getf {idx ci k a : Nat} {fs : List Value} {v : Value} (hd : decode y.2.1 pc = .ok (.getfield idx, 3)) (hF : z_F y.1.cls idx ci k) (hg : z_g w a = some (.inr (ci, fs))) (hk : fs[k]? = some v) (h : z_J G l y S (pc + 3) lo (v :: st) w kc ks) : z_J G l y S pc lo (.ref a :: st) w kc ks := by
  intro p e s m args below meth c R0 hok R H locs ls cst hat hlo hst
  obtain ⟨c1, cs1, rfl, ⟨-, h1⟩, hst1⟩ := z_Lc hst
  subst h1
  obtain ⟨q, ref, f1, f2, f3, f4, f5⟩ := hF
  obtain ⟨q', gs, x1, x2, ⟨cell, o1, o2, o3, o4⟩, x4⟩ := (hat.1.1 a _ hg).1
  have eq : q' = q := Option.some.inj (x1.symm.trans f1)
  subst eq
  obtain ⟨g, g1, g2⟩ := z_Lg x4 hk
  have kk := h p e s m args below meth c R0 hok R H locs ls (g :: cs1) hat hlo ⟨g2, hst1⟩
  obtain ⟨hx, hb, -, -, -, hown, hts, henv, -⟩ := hok
  obtain ⟨hS, hfc, kC, hkC, hkind⟩ := henv.1 ci _ f1
  obtain ⟨cf, kf, fi, f, hi, hsl⟩ := hS k f2
  have hsta := (u_facts hfc hkC (u_lays (ws := z_tbl) hts f3 f2) hi).1
  have hi2 : s.fieldFound? ref (q'.2.1 k).2.1 (q'.2.1 k).2.2.1 = some (cf, kf, fi, f) := by
    rcases f5 with z | z
    · rw [← z]; exact hi
    · exact u_same (hts _ z) _ hi
  have hsv : cell.slots[f.slot]? = some g := by
    rw [hsl, o4 k f2]
    simp [vp_V, g1]
  rcases f4 with f4 | ⟨host, f4⟩
  · exact W.getf hx hb hown (hts _ f4) hi2 hsta o1 (by rw [o3]; exact fun z => by cases z) hsv rfl rfl hd kk
  · exact va_Wgetf hx hb hown (va_Nw.use (w := Cond.fieldLinkNest y.1.cls idx ref (q'.2.1 k).2.1 (q'.2.1 k).2.2.1 host) rfl (henv.2.2.1 _ f4)) hi2 hsta o1 (by rw [o3]; exact fun z => by cases z) hsv rfl rfl hd kk
def z_nv (ty : FieldType) (v : Value) : Prop := match v with
  | .int x => narrow ty (.int x) = .int x ∧ fits ty (.int x) = true
  | .long x => narrow ty (.long x) = .long x ∧ fits ty (.long x) = true
  | .double _ => False
  | _ => (∃ n, ty = .object n) ∨ ∃ t, ty = .array t
theorem z_nvc {G : z_G} {R : z_R} {w : z_W} {ty : FieldType} {v c : Value} (h : z_nv ty v) (hV : z_V G R w v c) : narrow ty c = c ∧ fits ty c = true := by
  cases v with
  | int x => have hV : c = .int x := hV; subst hV; exact h
  | long x => have hV : c = .long x := hV; subst hV; exact h
  | null => have hV : c = .null := hV; subst hV; rcases h with ⟨n, rfl⟩ | ⟨t, rfl⟩ <;> exact ⟨rfl, rfl⟩
  | ref n => obtain ⟨-, hV⟩ := hV; subst hV; rcases h with ⟨n, rfl⟩ | ⟨t, rfl⟩ <;> exact ⟨rfl, rfl⟩
  | float b => obtain ⟨q, hV, -⟩ := hV; subst hV; rcases h with ⟨n, rfl⟩ | ⟨t, rfl⟩ <;> exact ⟨rfl, rfl⟩
  | retAddr k => obtain ⟨q, hV, -⟩ := hV; subst hV; rcases h with ⟨n, rfl⟩ | ⟨t, rfl⟩ <;> exact ⟨rfl, rfl⟩
  | double b => exact h.elim
def z_FT (ci k : Nat) (ty : FieldType) (fin : Bool) : Prop := ∃ (q : vw_C) (ty0 : Nat → FieldType), z_cls[ci]? = some q ∧ (q.2.1 k).2.2.2 = fin ∧ (∀ j, j < q.2.2 → parseFieldDescriptor (q.2.1 j).2.2.1 = some (ty0 j)) ∧ ty0 k = ty ∧ (∀ a, a < q.2.2 → ∀ b, b < q.2.2 → a ≠ b → (q.2.1 a).2.1 ≠ (q.2.1 b).2.1)
theorem j_put {idx ci k a : Nat} {fs : List Value} {v : Value} {ty : FieldType} (hd : decode y.2.1 pc = .ok (.putfield idx, 3)) (hF : z_F y.1.cls idx ci k) (hT : z_FT ci k ty false) (hg : z_g w a = some (.inr (ci, fs))) (hv : z_nv ty v) (hw : z_s w a (.inr (ci, fs.set k v)) = w') (h : z_J G l y S (pc + 3) lo st w' kc ks) : z_J G l y S pc lo (v :: .ref a :: st) w kc ks := by
  intro p e s m args below meth c R0 hok R H locs ls cst hat hlo hst
  obtain ⟨c0, cs0, rfl, h0, hst1⟩ := z_Lc hst
  obtain ⟨c1, cs1, rfl, ⟨-, h1⟩, hst2⟩ := z_Lc hst1
  subst h1
  subst hw
  obtain ⟨q, ref, f1, f2, f3, f4, f5⟩ := hF
  obtain ⟨q2, ty0, t1, t2, t3, t4, t5⟩ := hT
  have eq2 : q2 = q := Option.some.inj (t1.symm.trans f1)
  subst eq2
  obtain ⟨q', gs, x1, x2, ⟨cell, o1, o2, o3, o4⟩, x4⟩ := (hat.1.1 a _ hg).1
  have eq : q' = q2 := Option.some.inj (x1.symm.trans f1)
  subst eq
  have hok2 := hok
  obtain ⟨hx, hb, -, -, -, hown, hts, henv, -⟩ := hok2
  have hap := va_apart (D := (z_dC G, z_dI G)) (tys := []) (own := y.1.cls) hts f3 ty0 t3 t5 ⟨henv.1, fun k q hk => by simp at hk⟩ f1
  obtain ⟨hS, hfc, kC, hkC, hkind⟩ := henv.1 ci _ f1
  obtain ⟨cf, kf, fi, f, hi, hsl⟩ := hS k f2
  have hsta := (u_facts hfc hkC (u_lays (ws := z_tbl) hts f3 f2) hi).1
  have hi2 : s.fieldFound? ref (q'.2.1 k).2.1 (q'.2.1 k).2.2.1 = some (cf, kf, fi, f) := by
    rcases f5 with z | z
    · rw [← z]; exact hi
    · exact u_same (hts _ z) _ hi
  have hlay := hts _ (f3 _ (u_in_lay f2))
  unfold u_lay at hlay
  rw [if_neg (by rw [t2]; decide)] at hlay
  obtain ⟨n1, n2⟩ := z_nvc hv h0
  have h6 := u_store hfc hkC hkind hlay hi (by rw [t3 k f2, t4]) n1 n2
  have fin : ∀ H' : Heap, H'[R.1 a]? = some (cell.setSlot f.slot c0) → H'.size = H.size → (∀ q, q ≠ R.1 a → H'[q]? = H[q]?) → W p l e (z_rm S.1 S.2.1 S.2.2.1) s m args below meth c H' (locs ++ [⟨R.1 a, f.slot⟩]) kc ks (vx_MQ below (z_Qc G R0 S.2.2.2.1 S.2.2.2.2.1) (z_Xc G R0 S.2.2.2.1 S.2.2.2.2.2) args s S.2.1 S.2.2.1 (fun q => z_b G ≤ q)) (F0 m (pc + 3) ls cs1) := by
    intro H' e1 e2 e3
    rw [hsl] at e1
    have hX : z_X G R (z_s w a (.inr (ci, fs.set k v))) (.inr (ci, fs.set k v)) (R.1 a) H' :=
      ⟨q', gs.set k c0, f1, by rw [List.length_set]; exact x2, t_OB.to (V := updV (vp_V gs) k c0) ⟨_, e1, o2, o3, t_set o4 hap f2 c0⟩ (fun j _ => vp_updV_set (by rw [z_Ll x4]; show k < fs.length; rw [x2]; exact f2) c0 j), z_Lm (z_Vs hg) (z_Ls x4 h0)⟩
    exact h p e s m args below meth c R0 hok R H' _ ls cs1 (z_write hat hg e2 e3 hX) (z_lom (z_Vs hg) hlo) (z_Lm (z_Vs hg) hst2)
  rcases f4 with f4 | ⟨host, f4⟩
  · exact W.putK hx hb (f := f) ⟨hown, hts _ f4, ⟨_, _, _, hi2⟩, hsta⟩ (by rw [o2]; exact h6) o1 o3 (by rw [hsl]; exact k2_hasslot (o4 k f2)) rfl rfl hd fin
  · exact va_WputK hx hb (f := f) hown (va_Nw.use (w := Cond.fieldLinkNest y.1.cls idx ref (q'.2.1 k).2.1 (q'.2.1 k).2.2.1 host) rfl (henv.2.2.1 _ f4)) hi2 hsta (by rw [o2]; exact h6) o1 o3 (by rw [hsl]; exact k2_hasslot (o4 k f2)) rfl rfl hd fin
theorem j_putF {idx ci k a : Nat} {fs : List Value} {v : Value} {ty : FieldType} (hd : decode y.2.1 pc = .ok (.putfield idx, 3)) (hF : z_F y.1.cls idx ci k) (hT : z_FT ci k ty true) (hin : y.1.name = "<init>") (hdc : ∀ q : vw_C, z_cls[ci]? = some q → (q.2.1 k).1 = y.1.cls ∧ Cond.fieldLink y.1.cls idx y.1.cls (q.2.1 k).2.1 (q.2.1 k).2.2.1 ∈ z_tbl) (hg : z_g w a = some (.inr (ci, fs))) (hv : z_nv ty v) (hw : z_s w a (.inr (ci, fs.set k v)) = w') (h : z_J G l y S (pc + 3) lo st w' kc ks) : z_J G l y S pc lo (v :: .ref a :: st) w kc ks := by
  intro p e s m args below meth c R0 hok R H locs ls cst hat hlo hst
  obtain ⟨c0, cs0, rfl, h0, hst1⟩ := z_Lc hst
  obtain ⟨c1, cs1, rfl, ⟨-, h1⟩, hst2⟩ := z_Lc hst1
  subst h1
  subst hw
  obtain ⟨q, ref, f1, f2, f3, -, -⟩ := hF
  obtain ⟨q2, ty0, t1, t2, t3, t4, t5⟩ := hT
  have eq2 : q2 = q := Option.some.inj (t1.symm.trans f1)
  subst eq2
  obtain ⟨q', gs, x1, x2, ⟨cell, o1, o2, o3, o4⟩, x4⟩ := (hat.1.1 a _ hg).1
  have eq : q' = q2 := Option.some.inj (x1.symm.trans f1)
  subst eq
  obtain ⟨hdecl, f4⟩ := hdc q' f1
  have hok2 := hok
  obtain ⟨hx, hb, -, -, -, hown, hts, henv, -, -, -, hnm, -⟩ := hok2
  have hap := va_apart (D := (z_dC G, z_dI G)) (tys := []) (own := y.1.cls) hts f3 ty0 t3 t5 ⟨henv.1, fun k q hk => by simp at hk⟩ f1
  obtain ⟨hS, hfc, kC, hkC, hkind⟩ := henv.1 ci _ f1
  obtain ⟨cf, kf, fi, f, hi, hsl⟩ := hS k f2
  have hsta := (u_facts hfc hkC (u_lays (ws := z_tbl) hts f3 f2) hi).1
  have hi2 : s.fieldFound? y.1.cls (q'.2.1 k).2.1 (q'.2.1 k).2.2.1 = some (cf, kf, fi, f) := by rw [← hdecl]; exact hi
  have hlay := hts _ (f3 _ (u_in_lay f2))
  unfold u_lay at hlay
  rw [if_pos t2] at hlay
  have hcf : m.cls = cf := by
    obtain ⟨_, _, c', _, _, _, -, -, hf', -, -, -, hown2, -⟩ := Cond.laysFinal_spec hlay
    have e1 : c' = cf := by have := hi.symm.trans hf'; simp at this; exact this.1.symm
    rw [hdecl] at hown2
    rw [← e1]; exact Option.some.inj (hown.symm.trans hown2)
  obtain ⟨n1, n2⟩ := z_nvc hv h0
  have h6 := u_fits hfc hkC hkind (Or.inr hlay) hi (by rw [t3 k f2, t4]) n1 n2
  refine W.putFinK hx hb hown (hts _ f4) hi2 hsta hcf (hnm.trans hin) (by rw [o2]; exact h6) o1 o3 (by rw [hsl]; exact k2_hasslot (o4 k f2)) rfl rfl hd ?_
  intro H' e1 e2 e3
  rw [hsl] at e1
  have hX : z_X G R (z_s w a (.inr (ci, fs.set k v))) (.inr (ci, fs.set k v)) (R.1 a) H' :=
    ⟨q', gs.set k c0, f1, by rw [List.length_set]; exact x2, t_OB.to (V := updV (vp_V gs) k c0) ⟨_, e1, o2, o3, t_set o4 hap f2 c0⟩ (fun j _ => vp_updV_set (by rw [z_Ll x4]; show k < fs.length; rw [x2]; exact f2) c0 j), z_Lm (z_Vs hg) (z_Ls x4 h0)⟩
  exact h p e s m args below meth c R0 hok R H' _ ls cs1 (z_write hat hg e2 e3 hX) (z_lom (z_Vs hg) hlo) (z_Lm (z_Vs hg) hst2)
theorem j_alen {a kd n : Nat} {f : Nat → Value} {x : Int32} {ty : FieldType} (hd : decode y.2.1 pc = .ok (.arraylength, 1)) (hg : z_g w a = some (.inl (kd, n, f))) (hk : z_tyl[kd]? = some ty) (hv : Int32.ofNat n = x) (h : z_J G l y S (pc + 1) lo (.int x :: st) w kc ks) : z_J G l y S pc lo (.ref a :: st) w kc ks := by
  intro p e s m args below meth c R0 hok R H locs ls cst hat hlo hst
  obtain ⟨c1, cs1, rfl, ⟨-, h1⟩, hst1⟩ := z_Lc hst
  subst h1
  subst hv
  obtain ⟨z, z1, z2⟩ := (hat.1.1 a _ hg).1
  have kk := h p e s m args below meth c R0 hok R H locs ls (.int (Int32.ofNat n) :: cs1) hat hlo ⟨rfl, hst1⟩
  obtain ⟨hx, hb, -, -, -, hown, hts, henv, -⟩ := hok
  exact W.alen (n := Int32.ofNat n) hx hb z1 ((henv.2.1 kd ty hk).1 n z) (by rw [arrV_size] <;> rfl) rfl rfl hd kk
theorem j_iald {a n : Nat} {f : Nat → Value} {i : Int32} {v : Value} (hd : decode y.2.1 pc = .ok (.iaload, 1)) (hg : z_g w a = some (.inl (0, n, f))) (hin : vp_in i n) (hv : f i.toNatClampNeg = v) (h : z_J G l y S (pc + 1) lo (v :: st) w kc ks) : z_J G l y S pc lo (.int i :: .ref a :: st) w kc ks := by
  intro p e s m args below meth c R0 hok R H locs ls cst hat hlo hst
  obtain ⟨c0, cs0, rfl, h0, hst1⟩ := z_Lc hst
  obtain ⟨c1, cs1, rfl, ⟨-, h1⟩, hst2⟩ := z_Lc hst1
  have h0 : c0 = .int i := h0
  subst h0
  subst h1
  subst hv
  obtain ⟨z, z1, z2⟩ := (hat.1.1 a _ hg).1
  have hlt : i.toNatClampNeg < n := Nat.not_le.mp fun q => hin (Or.inr q)
  have kk := h p e s m args below meth c R0 hok R H locs ls (z i.toNatClampNeg :: cs1) hat hlo ⟨z2 _ hlt, hst2⟩
  obtain ⟨hx, hb, -, -, -, hown, hts, henv, -⟩ := hok
  exact W.iald hx hb z1 ((henv.2.1 0 .int rfl).1 n z) (fun q => by cases q) (by show ¬ (i < 0 ∨ (arrV _ _ _).slots.size ≤ _); rw [arrV_size]; exact hin) (by show (arrV _ _ _).slots[_]? = _; rw [arrV_read _ _ hlt]) rfl rfl hd kk
theorem j_zald {a n : Nat} {f : Nat → Value} {i : Int32} {v : Value} (hd : decode y.2.1 pc = .ok (.baload, 1)) (hg : z_g w a = some (.inl (1, n, f))) (hin : vp_in i n) (hv : f i.toNatClampNeg = v) (h : z_J G l y S (pc + 1) lo (v :: st) w kc ks) : z_J G l y S pc lo (.int i :: .ref a :: st) w kc ks := by
  intro p e s m args below meth c R0 hok R H locs ls cst hat hlo hst
  obtain ⟨c0, cs0, rfl, h0, hst1⟩ := z_Lc hst
  obtain ⟨c1, cs1, rfl, ⟨-, h1⟩, hst2⟩ := z_Lc hst1
  have h0 : c0 = .int i := h0
  subst h0
  subst h1
  subst hv
  obtain ⟨z, z1, z2⟩ := (hat.1.1 a _ hg).1
  have hlt : i.toNatClampNeg < n := Nat.not_le.mp fun q => hin (Or.inr q)
  have kk := h p e s m args below meth c R0 hok R H locs ls (z i.toNatClampNeg :: cs1) hat hlo ⟨z2 _ hlt, hst2⟩
  obtain ⟨hx, hb, -, -, -, hown, hts, henv, -⟩ := hok
  exact W.zald hx hb z1 ((henv.2.1 1 .boolean rfl).1 n z) (fun q => by cases q) (by show ¬ (i < 0 ∨ (arrV _ _ _).slots.size ≤ _); rw [arrV_size]; exact hin) (by show (arrV _ _ _).slots[_]? = _; rw [arrV_read _ _ hlt]) rfl rfl hd kk
theorem j_aald {a kd n : Nat} {f : Nat → Value} {i : Int32} {v : Value} {ty : FieldType} (hd : decode y.2.1 pc = .ok (.aaload, 1)) (hg : z_g w a = some (.inl (kd, n, f))) (hk : z_tyl[kd]? = some ty) (hr : ty.isReference = true) (hin : vp_in i n) (hv : f i.toNatClampNeg = v) (h : z_J G l y S (pc + 1) lo (v :: st) w kc ks) : z_J G l y S pc lo (.int i :: .ref a :: st) w kc ks := by
  intro p e s m args below meth c R0 hok R H locs ls cst hat hlo hst
  obtain ⟨c0, cs0, rfl, h0, hst1⟩ := z_Lc hst
  obtain ⟨c1, cs1, rfl, ⟨-, h1⟩, hst2⟩ := z_Lc hst1
  have h0 : c0 = .int i := h0
  subst h0
  subst h1
  subst hv
  obtain ⟨z, z1, z2⟩ := (hat.1.1 a _ hg).1
  have hlt : i.toNatClampNeg < n := Nat.not_le.mp fun q => hin (Or.inr q)
  have kk := h p e s m args below meth c R0 hok R H locs ls (z i.toNatClampNeg :: cs1) hat hlo ⟨z2 _ hlt, hst2⟩
  obtain ⟨hx, hb, -, -, -, hown, hts, henv, -⟩ := hok
  exact W.aald (ty := ty) hx hb z1 ((henv.2.1 kd ty hk).1 n z) hr (fun q => by cases q) (by show ¬ (i < 0 ∨ (arrV _ _ _).slots.size ≤ _); rw [arrV_size]; exact hin) (by show (arrV _ _ _).slots[_]? = _; rw [arrV_read _ _ hlt]) rfl rfl hd kk
def z_u (f : Nat → Value) (k : Nat) (v : Value) : Nat → Value := fun j => cond (Nat.beq j k) v (f j)
theorem z_u_self {f : Nat → Value} {k : Nat} {v : Value} : z_u f k v k = v := by unfold z_u; rw [Nat.beq_refl]; rfl
theorem z_u_ne {f : Nat → Value} {k j : Nat} {v : Value} (h : j ≠ k) : z_u f k v j = f j := by unfold z_u; rw [z_beq h]; rfl
theorem z_Xu {G : z_G} {R : z_R} {w w' : z_W} {kd n k A : Nat} {f : Nat → Value} {z : Nat → Value} {v c : Value} {H' : Heap} (hV : ∀ v c, z_V G R w v c → z_V G R w' v c) (h : ∀ j, j < n → z_V G R w (f j) (z j)) (hv : z_V G R w v c) (he : H'[A]? = some ((arrV (z_dA G kd) n z).setSlot k c)) : z_X G R w' (.inl (kd, n, z_u f k v)) A H' := by
  refine ⟨updV z k c, by rw [he, arrV_store], fun j hj => ?_⟩
  show z_V G R w' (z_u f k v j) (updV z k c j)
  by_cases hjk : j = k
  · subst hjk
    rw [z_u_self]
    unfold updV
    rw [if_pos rfl]
    exact hV _ _ hv
  · rw [z_u_ne hjk]
    unfold updV
    rw [if_neg hjk]
    exact hV _ _ (h j hj)
theorem j_iast {a n : Nat} {f : Nat → Value} {i x : Int32} (hd : decode y.2.1 pc = .ok (.iastore, 1)) (hg : z_g w a = some (.inl (0, n, f))) (hin : vp_in i n) (hw : z_s w a (.inl (0, n, z_u f i.toNatClampNeg (.int x))) = w') (h : z_J G l y S (pc + 1) lo st w' kc ks) : z_J G l y S pc lo (.int x :: .int i :: .ref a :: st) w kc ks := by
  intro p e s m args below meth c R0 hok R H locs ls cst hat hlo hst
  obtain ⟨c9, cs9, rfl, h9, hst1⟩ := z_Lc hst
  obtain ⟨c0, cs0, rfl, h0, hst2⟩ := z_Lc hst1
  obtain ⟨c1, cs1, rfl, ⟨-, h1⟩, hst3⟩ := z_Lc hst2
  have h9 : c9 = .int x := h9
  have h0 : c0 = .int i := h0
  subst h9
  subst h0
  subst h1
  subst hw
  obtain ⟨z, z1, z2⟩ := (hat.1.1 a _ hg).1
  have hok2 := hok
  obtain ⟨hx, hb, -, -, -, hown, hts, henv, -⟩ := hok2
  refine W.iast hx hb z1 ((henv.2.1 0 .int rfl).1 n z) (fun q => by cases q) (by show ¬ (i < 0 ∨ (arrV _ _ _).slots.size ≤ _); rw [arrV_size]; exact hin) rfl rfl hd ?_
  intro H' e1 e2 e3
  exact h p e s m args below meth c R0 hok R H' _ ls cs1 (z_write hat hg e2 e3 (z_Xu (z_Vs hg) z2 rfl e1)) (z_lom (z_Vs hg) hlo) (z_Lm (z_Vs hg) hst3)
theorem j_zast {a n : Nat} {f : Nat → Value} {i x : Int32} (hd : decode y.2.1 pc = .ok (.bastore, 1)) (hg : z_g w a = some (.inl (1, n, f))) (hin : vp_in i n) (hnr : narrow .boolean (.int x) = .int x) (hw : z_s w a (.inl (1, n, z_u f i.toNatClampNeg (.int x))) = w') (h : z_J G l y S (pc + 1) lo st w' kc ks) : z_J G l y S pc lo (.int x :: .int i :: .ref a :: st) w kc ks := by
  intro p e s m args below meth c R0 hok R H locs ls cst hat hlo hst
  obtain ⟨c9, cs9, rfl, h9, hst1⟩ := z_Lc hst
  obtain ⟨c0, cs0, rfl, h0, hst2⟩ := z_Lc hst1
  obtain ⟨c1, cs1, rfl, ⟨-, h1⟩, hst3⟩ := z_Lc hst2
  have h9 : c9 = .int x := h9
  have h0 : c0 = .int i := h0
  subst h9
  subst h0
  subst h1
  subst hw
  obtain ⟨z, z1, z2⟩ := (hat.1.1 a _ hg).1
  have hok2 := hok
  obtain ⟨hx, hb, -, -, -, hown, hts, henv, -⟩ := hok2
  refine W.zast hx hb z1 ((henv.2.1 1 .boolean rfl).1 n z) (fun q => by cases q) (by show ¬ (i < 0 ∨ (arrV _ _ _).slots.size ≤ _); rw [arrV_size]; exact hin) rfl rfl hd ?_
  intro H' e1 e2 e3
  rw [hnr] at e1
  exact h p e s m args below meth c R0 hok R H' _ ls cs1 (z_write hat hg e2 e3 (z_Xu (z_Vs hg) z2 rfl e1)) (z_lom (z_Vs hg) hlo) (z_Lm (z_Vs hg) hst3)
end ZH
