section ZJ3
variable {G : z_G} {l : Launch} {y : z_M} {S : z_S} {pc : Nat} {lo : List (Nat × Value)} {st : List Value} {w w' : z_W} {kc ks : Nat}
theorem j_aastN {a kd n : Nat} {f : Nat → Value} {E : String} {i : Int32} (hd : decode y.2.1 pc = .ok (.aastore, 1)) (hg : z_g w a = some (.inl (kd, n, f))) (hk : z_tyl[kd]? = some (.object E)) (hin : vp_in i n) (hw : z_s w a (.inl (kd, n, z_u f i.toNatClampNeg .null)) = w') (h : z_J G l y S (pc + 1) lo st w' kc ks) : z_J G l y S pc lo (.null :: .int i :: .ref a :: st) w kc ks := by
  intro p e s m args below meth c R0 hok R H locs ls cst hat hlo hst
  obtain ⟨c9, cs9, rfl, h9, hst1⟩ := z_Lc hst
  obtain ⟨c0, cs0, rfl, h0, hst2⟩ := z_Lc hst1
  obtain ⟨c1, cs1, rfl, ⟨-, h1⟩, hst3⟩ := z_Lc hst2
  have h9' : c9 = .null := h9
  have h0 : c0 = .int i := h0
  subst h9'
  subst h0
  subst h1
  subst hw
  obtain ⟨z, z1, z2⟩ := (hat.1.1 a _ hg).1
  have hok2 := hok
  obtain ⟨hx, hb, -, -, -, hown, hts, henv, -⟩ := hok2
  refine va_WaastN hx hb z1 ((henv.2.1 kd _ hk).1 n z) (fun h => by cases h) (by rw [arrV_size]; exact hin) rfl rfl hd ?_
  intro H' e1 e2 e3
  exact h p e s m args below meth c R0 hok R H' _ ls cs1 (z_write hat hg e2 e3 (z_Xu (z_Vs hg) z2 h9 e1)) (z_lom (z_Vs hg) hlo) (z_Lm (z_Vs hg) hst3)
theorem z_nn {z : Int32} (hz : ¬ z < 0) : z.toInt = (z.toNatClampNeg : Int) := by
  have hz0 : (0 : Int) ≤ z.toInt := by
    have := Int32.not_lt.mp hz
    simpa using Int32.le_iff_toInt_le.mp this
  show z.toInt = ((z.toInt.toNat : Nat) : Int)
  omega
theorem z_writeM {R0 R : z_R} {s : State} {H H' : Heap} {locs L : List Loc} {n : Nat} {e0 e : z_E} (hat : z_at G S R0 s R w H locs) (hn : z_g w n = some e0) (h1 : H'.size = H.size) (h2 : ∀ q : Nat, q ≠ R.1 n → H'[q]? = H[q]?) (h3 : z_X G R (z_s w n e) e (R.1 n) H') (hL : ∀ x ∈ L, x.base = R.1 n) : z_at G S R0 s R (z_s w n e) H' (locs ++ L) := by
  have hw := z_write (i := 0) hat hn h1 h2 h3
  refine ⟨hw.1, hw.2.1, hw.2.2.1, hw.2.2.2.1, fun x hx => ?_⟩
  rcases List.mem_append.mp hx with hx | hx
  · exact hat.2.2.2.2 x hx
  · rw [hL x hx]
    exact (hat.1.1 n _ hn).2
theorem z_Xc9 {R : z_R} {w w' : z_W} {kd n0 n1 sp dp k A : Nat} {f g f9 g9 : Nat → Value} {H' : Heap} (hV : ∀ v c, z_V G R w v c → z_V G R w' v c) (hf : ∀ j, j < n0 → z_V G R w (f j) (f9 j)) (hg : ∀ j, j < n1 → z_V G R w (g j) (g9 j)) (hs : sp + k ≤ n0) (he : H'[A]? = some (arrV (z_dA G kd) n1 (va_cpy f9 g9 sp dp k))) : z_X G R w' (.inl (kd, n1, va_cpy f g sp dp k)) A H' := by
  refine ⟨_, he, fun j hj => ?_⟩
  show z_V G R w' (va_cpy f g sp dp k j) (va_cpy f9 g9 sp dp k j)
  unfold va_cpy
  by_cases hc : dp ≤ j ∧ j < dp + k
  · rw [if_pos hc, if_pos hc]
    exact hV _ _ (hf _ (by omega))
  · rw [if_neg hc, if_neg hc]
    exact hV _ _ (hg _ hj)
theorem j_acopy {idx a b kd n0 n1 : Nat} {f g : Nat → Value} {sp dp n : Int32} {ty : FieldType} (hd : decode y.2.1 pc = .ok (.invokestatic idx, 3)) (hl : Cond.methodLink y.1.cls idx arraycopyName ∈ z_tbl) (hnat : Cond.native arraycopyName ∈ z_tbl) (hstat : Cond.static arraycopyName ∈ z_tbl) (hini : Cond.initialized "java/lang/System" ∈ z_tbl)
    (hga : z_g w a = some (.inl (kd, n0, f))) (hgb : z_g w b = some (.inl (kd, n1, g))) (hk : z_tyl[kd]? = some ty) (h1 : ¬ sp < 0) (h2 : ¬ dp < 0) (h3 : ¬ n < 0) (h4 : sp.toNatClampNeg + n.toNatClampNeg ≤ n0) (h5 : dp.toNatClampNeg + n.toNatClampNeg ≤ n1)
    (hel : ∀ i, i < n.toNatClampNeg → (∃ x, f (sp.toNatClampNeg + i) = .int x ∧ fits ty (.int x) = true) ∨ (f (sp.toNatClampNeg + i) = .null ∧ ty.isReference = true) ∨ ∃ C E, ty = .object E ∧ z_is w (f (sp.toNatClampNeg + i)) C ∧ Cond.castable C E ∈ z_nst)
    (hrk : 1 ≤ S.1) (hW : z_cat st ≤ 8) (hw : z_s w b (.inl (kd, n1, va_cpy f g sp.toNatClampNeg dp.toNatClampNeg n.toNatClampNeg)) = w') (h : z_J G l y S (pc + 3) lo st w' kc ks) : z_J G l y S pc lo (.int n :: .int dp :: .ref b :: .int sp :: .ref a :: st) w kc ks := by
  intro p e s m args below meth c R0 hok R H locs ls cst hat hlo hst
  obtain ⟨c9, cs9, rfl, e9, hst1⟩ := z_Lc hst
  obtain ⟨c8, cs8, rfl, e8, hst2⟩ := z_Lc hst1
  obtain ⟨c7, cs7, rfl, ⟨-, e7⟩, hst3⟩ := z_Lc hst2
  obtain ⟨c6, cs6, rfl, e6, hst4⟩ := z_Lc hst3
  obtain ⟨c5, cs5, rfl, ⟨-, e5⟩, hst5⟩ := z_Lc hst4
  have e9 : c9 = .int n := e9
  have e8 : c8 = .int dp := e8
  have e6 : c6 = .int sp := e6
  subst e9 e8 e7 e6 e5
  subst hw
  obtain ⟨za, a1, a2⟩ := (hat.1.1 a _ hga).1
  obtain ⟨zb, b1, b2⟩ := (hat.1.1 b _ hgb).1
  have hok2 := hok
  obtain ⟨hx, hb, -, -, -, hown, hts, henv, -⟩ := hok2
  obtain ⟨-, kA, hkA, cm, hkk⟩ := (henv.2.1 kd _ hk).1 n0 za
  have hsz := hlo.choose_spec.1.1
  have kk := fun (H' : Heap) (L : List Loc) q1 q2 q3 q4 => h p e s m args below meth c R0 hok R H' (locs ++ L) ls cs5 (z_writeM (H' := H') (L := L) hat hgb q1 q2 q3 q4) (z_lom (z_Vs hgb) hlo) (z_Lm (z_Vs hgb) hst5)
  have h8 : 2 * (F0 m pc ls (.int n :: .int dp :: .ref (R.1 b) :: .int sp :: .ref (R.1 a) :: cs5)).monitorRoom + (cs5.map fun v => v.category).sum ≤ 8 := lv_room (by rw [z_Lcs hst5]; exact hW)
  have h40 : 40 ≤ (z_rm S.1 S.2.1 S.2.2.1).locals := by show 40 ≤ 40 * S.1; omega
  have hnw : nativeFrameWords "java/lang/System" "arraycopy" 5 + 11 ≤ 32 := by decide
  intro T hT X
  obtain ⟨vm', X', step⟩ := X.arraycopy hx hown (hts _ hl) (hts _ hnat) (hts _ hstat) (hts _ hini) (src := R.1 a) (dst := R.1 b) (cs := arrV (z_dA G kd) n0 za) (cd := arrV (z_dA G kd) n1 zb) (srcPos := sp) (destPos := dp) (n := n) (by rw [hT]; exact a1) (by rw [hT]; exact b1)
    (fun _ h => by cases h) (fun _ h => by cases h) (fun h => by cases h) (fun h => by cases h) hkA hkA hkk hkk (by simp) h1 h2 h3
    (by rw [z_nn h1, z_nn h3, arrV_size]; omega)
    (by rw [z_nn h2, z_nn h3, arrV_size]; omega)
    (fun vm₁ hal i hi => by
      have hlt : sp.toNatClampNeg + i < n0 := by omega
      have e0 : (arrV (z_dA G kd) n0 za).slots.getD (sp.toNatClampNeg + i) .null = za (sp.toNatClampNeg + i) := by
        rw [Array.getD_eq_getD_getElem?, arrV_read _ _ hlt]
        rfl
      rw [e0]
      have hv := a2 _ hlt
      rcases hel i hi with ⟨x, ex, hf⟩ | ⟨ex, hr⟩ | ⟨C, E, rfl, hi9, hc⟩
      · have hv : z_V G R w (f (sp.toNatClampNeg + i)) (za (sp.toNatClampNeg + i)) := hv
        rw [ex] at hv
        have hv : za (sp.toNatClampNeg + i) = .int x := hv
        rw [hv]
        exact ⟨hf, trivial⟩
      · have hv : z_V G R w (f (sp.toNatClampNeg + i)) (za (sp.toNatClampNeg + i)) := hv
        rw [ex] at hv
        have hv : za (sp.toNatClampNeg + i) = .null := hv
        rw [hv]
        refine ⟨?_, trivial⟩
        cases ty <;> first | rfl | cases hr
      · obtain ⟨q, eq⟩ := z_isR hv hi9
        rw [eq]
        have hv : z_V G R w (f (sp.toNatClampNeg + i)) (za (sp.toNatClampNeg + i)) := hv
        rw [eq] at hv
        obtain ⟨cellV, g1, g2, g3⟩ := z_isC hok hat hv hi9
        obtain ⟨kA9, comp, r1, r2, r3, -⟩ := (henv.2.1 kd _ hk).2
        cases hkA.symm.trans r1
        cases hkk.symm.trans r2
        obtain ⟨c5, t5, f1, f2, f3⟩ := Cond.castable_spec (va_Nw.use (A := args) rfl (henv.2.2.1 _ hc))
        cases g3.symm.trans f1
        cases r3.symm.trans f2
        obtain ⟨kC, hkC, -⟩ := Vm.findClass_spec g3
        obtain ⟨kE, hkE, -⟩ := Vm.findClass_spec r3
        obtain ⟨kC', hkC', -⟩ := hal.2.2 _ _ hkC
        obtain ⟨kE', hkE', -⟩ := hal.2.2 _ _ hkE
        refine ⟨rfl, cellV, (show T.heap[q]? = some cellV by rw [hT]; exact g1), (fun q h => by rw [h] at g2; exact absurd (show (true : Bool) = false from g2) (by decide)), ⟨kC', hkC'⟩, ?_, ?_⟩
        · exact ⟨kE', hkE'⟩
        · show vm₁.assignable _ _ = true
          rw [hal.assignable]
          exact f3)
    (g := F0 m pc ls (.int n :: .int dp :: .ref (R.1 b) :: .int sp :: .ref (R.1 a) :: cs5)) rfl (by rw [← hsz]) (rest := cs5) rfl (by rw [hb]; exact hd) hrk (by omega)
  have e1 : copied (arrV (z_dA G kd) n0 za) (arrV (z_dA G kd) n1 zb) sp dp n = arrV (z_dA G kd) n1 (va_cpy za zb sp.toNatClampNeg dp.toNatClampNeg n.toNatClampNeg) := va_copied (fun z => z) (z_dA G kd) (z_dA G kd) za zb h4
  rw [e1] at X' step
  have hl9 : R.1 b < H.size := (Array.getElem?_eq_some_iff.mp b1).1
  have hheap : ((T.setVm vm').setCell (R.1 b) (arrV (z_dA G kd) n1 (va_cpy za zb sp.toNatClampNeg dp.toNatClampNeg n.toNatClampNeg))).heap = H.setIfInBounds (R.1 b) (arrV (z_dA G kd) n1 (va_cpy za zb sp.toNatClampNeg dp.toNatClampNeg n.toNatClampNeg)) := by rw [← hT]; rfl
  obtain ⟨t, t1, t2⟩ := kk _ _ (by simp) (fun q hq => by simp [Array.getElem?_setIfInBounds, Ne.symm hq]) (z_Xc9 (z_Vs hgb) a2 b2 h4 (by simp [Array.getElem?_setIfInBounds, hl9])) (fun x hx => by
    obtain ⟨z, -, hz⟩ := List.mem_map.mp hx
    rw [← hz]) _ hheap X'
  exact ⟨t, step t t1, t2⟩
end ZJ3
