section ZJ6
variable {G : z_G} {l : Launch} {y : z_M} {S : z_S} {pc : Nat} {lo : List (Nat × Value)} {st : List Value} {w w' : z_W} {kc ks : Nat}
theorem sm_max : Cond.static Lib.Math.max.name ∈ z_tbl := (z_w 614 ((lwt_3_2 29).trans rfl) (by decide +kernel))
theorem cm_max : Cond.code Lib.Math.max.name Lib.Math.max.code 2 (some .int) ∈ z_tbl := (z_w 615 ((lwt_3_3 0).trans rfl) (by decide +kernel))
theorem im_m : Cond.initialized "java/lang/Math" ∈ z_tbl := (z_w 57 ((lwg_1 12).trans rfl) (by decide +kernel))
theorem j_mmax {idx : Nat} {a b : Int32} (hd : decode y.2.1 pc = .ok (.invokestatic idx, 3)) (hl : Cond.methodLink y.1.cls idx Lib.Math.max.name ∈ z_tbl) (hrk : 1 ≤ S.1) (hW : z_cat st ≤ 8) (hc : kc ≤ S.2.1) (hs : ks ≤ S.2.2.1) (h : z_J G l y S (pc + 3) lo (.int (if a < b then b else a) :: st) w kc ks) : z_J G l y S pc lo (.int b :: .int a :: st) w kc ks := by
  intro p e s m args below meth c R0 hok R H locs ls cst hat hlo hst
  obtain ⟨c1, cs1, rfl, h1, hst1⟩ := z_Lc hst
  obtain ⟨c2, cs2, rfl, h2, hst2⟩ := z_Lc hst1
  have h1 : c1 = .int b := h1
  have h2 : c2 = .int a := h2
  subst h1 h2
  have hts := hok.2.2.2.2.2.2.1
  have hsz := hlo.choose_spec.1.1
  have h8 : (cs2.map fun v => v.category).sum ≤ 8 := by rw [z_Lcs hst2]; exact hW
  have h40 : 40 ≤ (z_rm S.1 S.2.1 S.2.2.1).locals := by show 40 ≤ 40 * S.1; omega
  exact va_mmax hok.1 hok.2.1 hsz.symm hok.2.2.2.2.2.1 (hts _ hl) (hts _ sm_max) (hts _ im_m) (hts _ cm_max) hrk (by omega) hc hs hd (h p e s m args below meth c R0 hok R H locs ls (.int (if a < b then b else a) :: cs2) hat hlo ⟨rfl, hst2⟩)
theorem sm_min : Cond.static Lib.Math.min.name ∈ z_tbl := (z_w 632 ((lwt_3_3 17).trans rfl) (by decide +kernel))
theorem cm_min : Cond.code Lib.Math.min.name Lib.Math.min.code 2 (some .int) ∈ z_tbl := (z_w 633 ((lwt_3_3 18).trans rfl) (by decide +kernel))
theorem j_mmin {idx : Nat} {a b : Int32} (hd : decode y.2.1 pc = .ok (.invokestatic idx, 3)) (hl : Cond.methodLink y.1.cls idx Lib.Math.min.name ∈ z_tbl) (hrk : 1 ≤ S.1) (hW : z_cat st ≤ 8) (hc : kc ≤ S.2.1) (hs : ks ≤ S.2.2.1) (h : z_J G l y S (pc + 3) lo (.int (if b < a then b else a) :: st) w kc ks) : z_J G l y S pc lo (.int b :: .int a :: st) w kc ks := by
  intro p e s m args below meth c R0 hok R H locs ls cst hat hlo hst
  obtain ⟨c1, cs1, rfl, h1, hst1⟩ := z_Lc hst
  obtain ⟨c2, cs2, rfl, h2, hst2⟩ := z_Lc hst1
  have h1 : c1 = .int b := h1
  have h2 : c2 = .int a := h2
  subst h1 h2
  have hts := hok.2.2.2.2.2.2.1
  have hsz := hlo.choose_spec.1.1
  have h8 : (cs2.map fun v => v.category).sum ≤ 8 := by rw [z_Lcs hst2]; exact hW
  have h40 : 40 ≤ (z_rm S.1 S.2.1 S.2.2.1).locals := by show 40 ≤ 40 * S.1; omega
  exact va_mmin hok.1 hok.2.1 hsz.symm hok.2.2.2.2.2.1 (hts _ hl) (hts _ sm_min) (hts _ im_m) (hts _ cm_min) hrk (by omega) hc hs hd (h p e s m args below meth c R0 hok R H locs ls (.int (if b < a then b else a) :: cs2) hat hlo ⟨rfl, hst2⟩)
theorem j_ishr {a b : Int32} (hd : decode y.2.1 pc = .ok (.ishr, 1)) (h : z_J G l y S (pc + 1) lo (.int (a >>> (b &&& 31)) :: st) w kc ks) : z_J G l y S pc lo (.int b :: .int a :: st) w kc ks := by
  intro p e s m args below meth c R0 hok R H locs ls cst hat hlo hst
  obtain ⟨c1, cs1, rfl, h1, hst1⟩ := z_Lc hst
  obtain ⟨c2, cs2, rfl, h2, hst2⟩ := z_Lc hst1
  have h1 : c1 = .int b := h1
  have h2 : c2 = .int a := h2
  subst h1 h2
  exact lv_ishr hok.1 hok.2.1 hd (h p e s m args below meth c R0 hok R H locs ls _ hat hlo ⟨rfl, hst2⟩)
theorem j_ishl {a b : Int32} (hd : decode y.2.1 pc = .ok (.ishl, 1)) (h : z_J G l y S (pc + 1) lo (.int (a <<< (b &&& 31)) :: st) w kc ks) : z_J G l y S pc lo (.int b :: .int a :: st) w kc ks := by
  intro p e s m args below meth c R0 hok R H locs ls cst hat hlo hst
  obtain ⟨c1, cs1, rfl, h1, hst1⟩ := z_Lc hst
  obtain ⟨c2, cs2, rfl, h2, hst2⟩ := z_Lc hst1
  have h1 : c1 = .int b := h1
  have h2 : c2 = .int a := h2
  subst h1 h2
  exact lv_ishl hok.1 hok.2.1 hd (h p e s m args below meth c R0 hok R H locs ls _ hat hlo ⟨rfl, hst2⟩)
end ZJ6
