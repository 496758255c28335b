section ZJ5
variable {G : z_G} {l : Launch} {y : z_M} {S : z_S} {pc : Nat} {lo : List (Nat × Value)} {st : List Value} {w w' : z_W} {kc ks : Nat}
theorem z_isV {R0 R : z_R} {s : State} {p : Program} {m : MethodId} {args : Array Value} {meth : Method} {c : Code} {H : Heap} {locs : List Loc} {v : Value} {a : Nat} {C : String} (hok : z_ok G l y S p s m args meth c R0) (hat : z_at G S R0 s R w H locs) (hv : z_V G R w v (.ref a)) (hi : z_is w v C) : ∃ cell : Cell, H[a]? = some cell ∧ cell.vm.isStatics = false ∧ s.vm.findClass C = some cell.cls := by
  obtain ⟨cell, h1, h2, h3⟩ := z_isC hok hat hv hi
  exact ⟨cell, h1, h2, h3⟩
theorem j_callVB {idx np rk' mc' ms' : Nat} {y' : z_M} {as rest : List Value} {Q' : Option Value → z_W → Prop} {X' : String → z_W → Prop} {v0 : Value} {C : String} (hd : decode y.2.1 pc = .ok (.invokevirtual idx, 3)) (hm : z_okm y' np) (hl : Cond.methodLink y.1.cls idx y'.1 ∈ z_tbl) (hi : Cond.instanceMethod y'.1 ∈ z_tbl) (hse : Cond.selects C y'.1 y'.1 ∈ z_tbl) (hi9 : z_is w v0 C) (hc : z_Con G l y' rk' mc' ms' w (v0 :: as) Q' X') (hrk : rk' + 1 ≤ S.1) (hcs : kc + mc' ≤ S.2.1 ∧ ks + ms' ≤ S.2.2.1) (hstk : st = as.reverse ++ v0 :: rest) (hW : z_cat rest ≤ 8) (hn : as.length = np) (ht : y.2.2.2.2 = []) (hx : ∀ E w', X' E w' → S.2.2.2.2.2 E w') (kk : ∀ v w', Q' v w' → z_J G l y S (pc + 3) lo (v.toList ++ rest) w' (kc + mc') (ks + ms')) : z_J G l y S pc lo st w kc ks := by
  intro p e s m args below meth c R0 hok R H locs ls cst hat hlo hst
  subst hstk
  obtain ⟨b1, c2, rfl, hb1, hst⟩ := z_Lapp hst
  obtain ⟨c1, crest, rfl, h1, hrest⟩ := z_Lc hst
  obtain ⟨a, rfl⟩ := z_isR h1 hi9
  have hAs := z_Lrev hb1
  rw [List.reverse_reverse] at hAs
  exact z_run hok hat hlo hrest ht (vx_runV (C := C) (As := b1.reverse) ⟨hok.1, hok.2.1, rfl, hok.2.2.2.2.2.1, hok.2.2.2.2.2.2.1⟩ (hc R) ⟨z_CB hok.2.2.2.2.2.2.1 hm hrk hl, hok.2.2.2.2.2.2.1 _ hi, hok.2.2.2.2.2.2.1 _ hse⟩ ⟨z_Pc_blind, z_isV hok hat h1 hi9, fun U hU hW9 => z_pre hok hat (av := v0 :: as) (cav := .ref a :: b1.reverse) ⟨h1, hAs⟩ U hU hW9⟩ rfl (by rw [z_Ll hAs]; exact hn) hlo.choose_spec.1.1 (by rw [List.reverse_reverse]) (lv_room (by rw [z_Lcs hrest]; exact hW)) hd hcs) hcs hx kk
end ZJ5
theorem z_cnx {x : Int32} (h0 : ¬ x < -128) (h1 : ¬ (127 : Int32) < x) : vp_in (x + 128) 256 ∧ z_cn (x + 128).toNatClampNeg = x.toUInt32 := by
  have k0 : ¬ x.toInt < -128 := fun z => h0 ((Int32.lt_iff_toInt_lt).mpr z)
  have k1 : ¬ 127 < x.toInt := fun z => h1 ((Int32.lt_iff_toInt_lt).mpr z)
  have e : (x + 128).toInt = x.toInt + 128 := by
    rw [Int32.toInt_add, show (128 : Int32).toInt = 128 from rfl]
    exact Int.bmod_eq_of_le (by omega) (by omega)
  refine ⟨vp_in_iff.mpr ⟨by omega, by omega⟩, ?_⟩
  unfold z_cn
  have e2 : (((x + 128).toNatClampNeg : Nat) : Int) = x.toInt + 128 := by
    show (((x + 128).toInt.toNat : Nat) : Int) = _
    rw [e]
    omega
  rw [e2, show x.toInt + 128 - 128 = x.toInt by omega, Int32.ofInt_toInt]
