section ZJ2
variable {G : z_G} {l : Launch} {y : z_M} {S : z_S} {pc : Nat} {lo : List (Nat × Value)} {st : List Value} {w w' : z_W} {kc ks : Nat}
def z_is (w : z_W) (v : Value) (C : String) : Prop := match v with
  | .ref n => (∃ (o : Nat × List Value) (q : vw_C), z_g w n = some (.inr o) ∧ z_cls[o.1]? = some q ∧ q.1 = C) ∨ ∃ (x : Nat × Nat × (Nat → Value)) (ty : FieldType), z_g w n = some (.inl x) ∧ z_tyl[x.1]? = some ty ∧ "[" ++ ty.toString = C
  | .float _ => C = "java/lang/Integer"
  | _ => False
theorem z_RAf {U : State} {c : ClassId} {ty : FieldType} (h : va_RA U c ty) : U.vm.findClass ("[" ++ ty.toString) = some c := by
  unfold va_RA at h
  split at h
  · obtain ⟨-, -, -, -, -, h4⟩ := h
    exact h4
  · exact h
theorem z_isC {R0 R : z_R} {s : State} {p : Program} {m : MethodId} {args : Array Value} {meth : Method} {c : Code} {H : Heap} {locs : List Loc} {v : Value} {a : Nat} {C : String} (hok : z_ok G l y S p s m args meth c R0) (hat : z_at G S R0 s R w H locs) (hv : z_V G R w v (.ref a)) (hi : z_is w v C) : ∃ cell : Cell, H[a]? = some cell ∧ cell.vm.isStatics = false ∧ s.vm.findClass C = some cell.cls := by
  have henv := hok.2.2.2.2.2.2.2.1
  cases v with
  | int x => exact hi.elim
  | long x => exact hi.elim
  | null => exact hi.elim
  | retAddr k => exact hi.elim
  | double b => exact hi.elim
  | float b =>
    obtain ⟨q, e, hb⟩ := hv
    cases e
    have hi : C = "java/lang/Integer" := hi
    obtain ⟨cell, g1, g2, g3, -⟩ := z_box hok hat hb
    exact ⟨cell, g1, g3.1, by rw [hi, g2]; exact (henv.1 2 _ rfl).2.1⟩
  | ref n =>
    obtain ⟨-, e⟩ := hv
    cases e
    rcases hi with ⟨o, q, h1, h2, h3⟩ | ⟨x, ty, h1, h2, h3⟩
    · obtain ⟨q', gs, x1, x2, ⟨cell, g1, g2, g3, -⟩, -⟩ := (hat.1.1 n _ h1).1
      exact ⟨cell, g1, by rw [g3]; rfl, by rw [g2, ← h3]; exact (henv.1 o.1 q h2).2.1⟩
    · obtain ⟨z, z1, -⟩ := (hat.1.1 n _ h1).1
      exact ⟨_, z1, rfl, by rw [← h3]; exact z_RAf (henv.2.1 x.1 ty h2).2⟩
theorem z_isR {R : z_R} {v c : Value} {C : String} (hv : z_V G R w v c) (hi : z_is w v C) : ∃ a, c = .ref a := by
  cases v with
  | int x => exact hi.elim
  | long x => exact hi.elim
  | null => exact hi.elim
  | retAddr k => exact hi.elim
  | double b => exact hi.elim
  | float b => obtain ⟨q, e, -⟩ := hv; exact ⟨q, e⟩
  | ref n => exact ⟨_, hv.2⟩
theorem j_castS {idx : Nat} {v : Value} {C : String} (hd : decode y.2.1 pc = .ok (.checkcast idx, 3)) (hl : Cond.classLink y.1.cls idx C ∈ z_tbl) (hi : z_is w v C) (h : z_J G l y S (pc + 3) lo (v :: st) w kc ks) : z_J G l y S pc lo (v :: st) w kc ks := by
  intro p e s m args below meth c R0 hok R H locs ls cst hat hlo hst
  obtain ⟨c1, cs1, rfl, hv, hst1⟩ := z_Lc hst
  obtain ⟨a, rfl⟩ := z_isR hv hi
  obtain ⟨cell, g1, g2, g3⟩ := z_isC hok hat hv hi
  have k := h p e s m args below meth c R0 hok R H locs ls (.ref a :: cs1) hat hlo ⟨hv, hst1⟩
  intro T hT X
  obtain ⟨vm', X', st9⟩ := X.checkcastYes hok.1 hok.2.2.2.2.2.1 (hok.2.2.2.2.2.2.1 _ hl) (by rw [hT]; exact g1) g2 g3 (va_asg _ _) (g := F0 m pc ls (.ref a :: cs1)) rfl rfl (by rw [hok.2.1]; exact hd)
  obtain ⟨t, a1, b1⟩ := k (T.setVm vm') hT X'
  exact ⟨t, st9 t a1, b1⟩
theorem j_castY {idx : Nat} {v : Value} {C nm : String} (hd : decode y.2.1 pc = .ok (.checkcast idx, 3)) (hl : Cond.classLink y.1.cls idx nm ∈ z_tbl) (hc : Cond.castable C nm ∈ z_nst) (hi : z_is w v C) (h : z_J G l y S (pc + 3) lo (v :: st) w kc ks) : z_J G l y S pc lo (v :: st) w kc ks := by
  intro p e s m args below meth c R0 hok R H locs ls cst hat hlo hst
  obtain ⟨c1, cs1, rfl, hv, hst1⟩ := z_Lc hst
  obtain ⟨a, rfl⟩ := z_isR hv hi
  obtain ⟨cell, g1, g2, g3⟩ := z_isC hok hat hv hi
  exact va_castY hok.1 hok.2.1 hok.2.2.2.2.2.1 (hok.2.2.2.2.2.2.1 _ hl) (hok.2.2.2.2.2.2.2.1.2.2.1 _ hc) ⟨cell, g1, g2, g3⟩ hd (h p e s m args below meth c R0 hok R H locs ls (.ref a :: cs1) hat hlo ⟨hv, hst1⟩)
theorem j_aastO {a kd n : Nat} {f : Nat → Value} {v : Value} {C E : String} {i : Int32} (hd : decode y.2.1 pc = .ok (.aastore, 1)) (hg : z_g w a = some (.inl (kd, n, f))) (hk : z_tyl[kd]? = some (.object E)) (hi : z_is w v C) (hc : Cond.castable C E ∈ z_nst) (hin : vp_in i n) (hw : z_s w a (.inl (kd, n, z_u f i.toNatClampNeg v)) = w') (h : z_J G l y S (pc + 1) lo st w' kc ks) : z_J G l y S pc lo (v :: .int i :: .ref a :: st) w kc ks := by
  intro p e s m args below meth c R0 hok R H locs ls cst hat hlo hst
  obtain ⟨c9, cs9, rfl, h9, hst1⟩ := z_Lc hst
  obtain ⟨c0, cs0, rfl, h0, hst2⟩ := z_Lc hst1
  obtain ⟨c1, cs1, rfl, ⟨-, h1⟩, hst3⟩ := z_Lc hst2
  obtain ⟨b, rfl⟩ := z_isR h9 hi
  have h0 : c0 = .int i := h0
  subst h0
  subst h1
  subst hw
  obtain ⟨z, z1, z2⟩ := (hat.1.1 a _ hg).1
  obtain ⟨cellV, g1, g2, g3⟩ := z_isC hok hat h9 hi
  have hok2 := hok
  obtain ⟨hx, hb, -, -, -, hown, hts, henv, -⟩ := hok2
  have hlt : i.toNatClampNeg < n := Nat.not_le.mp fun q => hin (Or.inr q)
  have hi0 : ¬ i < 0 := fun q => hin (Or.inl q)
  obtain ⟨kA, comp, k1, k2, k3, -⟩ := (henv.2.1 kd _ hk).2
  obtain ⟨c5, t5, f1, f2, f3⟩ := Cond.castable_spec (va_Nw.use (A := args) rfl (henv.2.2.1 _ hc))
  cases g3.symm.trans f1
  cases k3.symm.trans f2
  obtain ⟨kC, hkC, -⟩ := Vm.findClass_spec f2
  obtain ⟨kV, hkV, -⟩ := Vm.findClass_spec g3
  refine W.aast hx hb z1 (fun q h => by cases h) (fun h => by cases h) k1 k2 rfl hkC ⟨hi0, by show _ < (arrV _ _ _).slots.size; rw [arrV_size]; exact hlt⟩ g1 (fun q h => by rw [h] at g2; exact absurd (show (true : Bool) = false from g2) (by decide)) hkV f3 rfl rfl hd ?_
  intro H' e1 e2 e3
  exact h p e s m args below meth c R0 hok R H' _ ls cs1 (z_write hat hg e2 e3 (z_Xu (z_Vs hg) z2 h9 e1)) (z_lom (z_Vs hg) hlo) (z_Lm (z_Vs hg) hst3)
end ZJ2
