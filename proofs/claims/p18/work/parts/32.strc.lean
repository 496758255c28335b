section ZJ7
variable {G : z_G} {l : Launch} {y : z_M} {S : z_S} {pc : Nat} {lo : List (Nat × Value)} {st : List Value} {w w' : z_W} {kc ks : Nat}
theorem j_getSK {i idx k : Nat} {t : String × Nat × String} {v : Value} (hd : decode y.2.1 pc = .ok (.getfield idx, 3)) (hF : z_F y.1.cls idx 0 k) (hi : z_strs[i]? = some t) (ht : t.1 = "LoopdefaultsModel" ∨ t.1 = "LoopdefaultsModel$Hearer") (hk2 : k < 2) (hv : [Value.retAddr (50 + i), .int 0][k]? = some v) (h : z_J G l y S (pc + 3) lo (v :: st) w kc ks) : z_J G l y S pc lo (.retAddr (10 + i) :: st) w kc ks := by
  intro p e s m args below meth c R0 hok R H locs ls cst hat hlo hst
  obtain ⟨c1, cs1, rfl, ⟨q1, h1, hq1⟩, hst1⟩ := z_Lc hst
  subst h1
  obtain ⟨a, bq, ha, hbq, -, hO⟩ := (z_okc hok).2.2.2.2.2.2.2.2.1 i t hi ht
  have e9 := (z_okc hok).1 _ _ _ hq1 ha
  subst e9
  obtain ⟨cell, o1, o2, o3, o4⟩ := hO
  have o1' : H[q1]? = some cell := by rw [(z_fS hok hat).2.1 q1 (Array.getElem?_eq_some_iff.mp o1).1 ((z_okc hok).2.1 _ _ (Or.inr (by omega)) hq1)]; exact o1
  obtain ⟨g, hg, hgv⟩ : ∃ g, vp_V [.ref bq, .int 0] k = g ∧ z_V G R w v g := by
    match k, hk2, hv with
    | 0, _, hv => exact ⟨_, rfl, by rw [← Option.some.inj hv]; exact ⟨bq, rfl, hbq⟩⟩
    | 1, _, hv => exact ⟨_, rfl, by rw [← Option.some.inj hv]; rfl⟩
  obtain ⟨q', ref, f1, f2, f3, f4, f5⟩ := hF
  have kk := h p e s m args below meth c R0 hok R H locs ls (g :: cs1) hat hlo ⟨hgv, hst1⟩
  obtain ⟨hx, hb, -, -, -, hown, hts, henv, -⟩ := hok
  obtain ⟨hS, hfc, kC, hkC, hkind⟩ := henv.1 0 _ f1
  obtain ⟨cf, kf, fi, f, hi9, hsl⟩ := hS k f2
  have hsta := (u_facts hfc hkC (u_lays (ws := z_tbl) hts f3 f2) hi9).1
  have hi2 : s.fieldFound? ref (q'.2.1 k).2.1 (q'.2.1 k).2.2.1 = some (cf, kf, fi, f) := by
    rcases f5 with z | z
    · rw [← z]; exact hi9
    · exact u_same (hts _ z) _ hi9
  have hsv : cell.slots[f.slot]? = some g := by
    rw [hsl, ← hg]
    exact o4 k hk2
  rcases f4 with f4 | ⟨host, f4⟩
  · exact W.getf hx hb hown (hts _ f4) hi2 hsta o1' o3.2 hsv rfl rfl hd kk
  · exact va_Wgetf hx hb hown (va_Nw.use (w := Cond.fieldLinkNest y.1.cls idx ref (q'.2.1 k).2.1 (q'.2.1 k).2.2.1 host) rfl (henv.2.2.1 _ f4)) hi2 hsta o1' o3.2 hsv rfl rfl hd kk
end ZJ7
