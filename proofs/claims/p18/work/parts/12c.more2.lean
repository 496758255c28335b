section ZM2
variable {G : z_G} {l : Launch} {y : z_M} {S : z_S} {pc : Nat} {lo : List (Nat × Value)} {st : List Value} {w w' : z_W} {kc ks : Nat}
theorem j_idiv {a b : Int32} (hd : decode y.2.1 pc = .ok (.idiv, 1)) (hne : ¬ b = 0) (h : z_J G l y S (pc + 1) lo (.int (a / b) :: st) w kc ks) : z_J G l y S pc lo (.int b :: .int a :: st) w kc ks := by
  intro p e s m args below meth c R0 hok R H locs ls cst hat hlo hst
  obtain ⟨c1, cs1, rfl, h1, hst1⟩ := z_Lc hst
  obtain ⟨c2, cs2, rfl, h2, hst2⟩ := z_Lc hst1
  have h1 : c1 = .int b := h1
  have h2 : c2 = .int a := h2
  subst h1 h2
  exact lv_idiv hok.1 hok.2.1 hd hne (h p e s m args below meth c R0 hok R H locs ls _ hat hlo ⟨rfl, hst2⟩)
theorem j_irem {a b : Int32} (hd : decode y.2.1 pc = .ok (.irem, 1)) (hne : ¬ b = 0) (h : z_J G l y S (pc + 1) lo (.int (a - a / b * b) :: st) w kc ks) : z_J G l y S pc lo (.int b :: .int a :: st) w kc ks := by
  intro p e s m args below meth c R0 hok R H locs ls cst hat hlo hst
  obtain ⟨c1, cs1, rfl, h1, hst1⟩ := z_Lc hst
  obtain ⟨c2, cs2, rfl, h2, hst2⟩ := z_Lc hst1
  have h1 : c1 = .int b := h1
  have h2 : c2 = .int a := h2
  subst h1 h2
  exact lv_irem hok.1 hok.2.1 hd hne (h p e s m args below meth c R0 hok R H locs ls _ hat hlo ⟨rfl, hst2⟩)
theorem j_ldc {idx : Nat} {v : Int32} (hd : decode y.2.1 pc = .ok (.ldc idx, 2)) (hc : Cond.constant y.1.cls idx v ∈ z_tbl) (h : z_J G l y S (pc + 2) lo (.int v :: st) w kc ks) : z_J G l y S pc lo st w kc ks := by
  intro p e s m args below meth c R0 hok R H locs ls cst hat hlo hst
  exact lv_ldc hok.1 hok.2.1 hok.2.2.2.2.2.1 (hok.2.2.2.2.2.2.1 _ hc) hd (h p e s m args below meth c R0 hok R H locs ls _ hat hlo ⟨rfl, hst⟩)
theorem j_ldc2 {idx : Nat} {v : Int64} (hd : decode y.2.1 pc = .ok (.ldc2_w idx, 3)) (hc : Cond.constantLong y.1.cls idx v ∈ z_tbl) (h : z_J G l y S (pc + 3) lo (.long v :: st) w kc ks) : z_J G l y S pc lo st w kc ks := by
  intro p e s m args below meth c R0 hok R H locs ls cst hat hlo hst
  exact lv_ldc2 hok.1 hok.2.1 hok.2.2.2.2.2.1 (hok.2.2.2.2.2.2.1 _ hc) hd (h p e s m args below meth c R0 hok R H locs ls _ hat hlo ⟨rfl, hst⟩)
theorem j_acmp_ne {a b : Nat} {off : Int} {tgt : Nat} (hd : decode y.2.1 pc = .ok (.if_acmp .ne off, 3)) (ht : (pc : Int) + off = (tgt : Int)) (kt : ¬ a = b → z_J G l y S tgt lo st w kc ks) (kf : a = b → z_J G l y S (pc + 3) lo st w kc ks) : z_J G l y S pc lo (.ref b :: .ref a :: st) w kc ks := by
  intro p e s m args below meth c R0 hok R H locs ls cst hat hlo hst
  obtain ⟨c1, cs1, rfl, ⟨d1, h1⟩, hst1⟩ := z_Lc hst
  obtain ⟨c2, cs2, rfl, ⟨d2, h2⟩, hst2⟩ := z_Lc hst1
  subst h1 h2
  refine lv_acmp_ne (rx := some (R.1 a)) (ry := some (R.1 b)) hok.1 hok.2.1 hd ht (fun hne => ?_) (fun he => ?_)
  · exact kt (fun z => hne (by rw [z])) p e s m args below meth c R0 hok R H locs ls _ hat hlo hst2
  · exact kf (hat.1.2.1 a b d2 d1 (Option.some.inj he)) p e s m args below meth c R0 hok R H locs ls _ hat hlo hst2
theorem z_thrOf {own cls : String} {ik ic : Nat} {names : List String} (h1 : Bundle.fit cls = true) (h2 : names.all Bundle.fit = true) (h3 : Cond.classLink own ik cls ∈ z_tbl) (h4 : Cond.initialized cls ∈ z_tbl) (h5 : (vx_atS own ic cls names).all (fun w => decide (w ∈ lw_tbl) && (goodWord w || (z_isN w && w.onTables)) && vx_ot w) = true) : z_thr own ik ic cls names := by
  have h6 := List.all_eq_true.mp h5
  refine ⟨h1, List.all_eq_true.mp h2, h3, h4, fun w hw => ?_, fun w hw => ?_⟩
  · have h7 := h6 w hw
    simp only [Bool.and_eq_true, Bool.or_eq_true, decide_eq_true_eq] at h7
    rcases h7.1.2 with z | z
    · exact Or.inl (List.mem_filter.mpr ⟨h7.1.1, z⟩)
    · exact Or.inr ⟨List.mem_filter.mpr ⟨h7.1.1, z.1⟩, z.2⟩
  · have h7 := h6 w hw
    simp only [Bool.and_eq_true] at h7
    exact h7.2
end ZM2
