section ZJK
variable {G : z_G} {l : Launch} {y : z_M} {S : z_S} {pc : Nat} {lo : List (Nat × Value)} {st : List Value} {w w' : z_W} {kc ks : Nat}
theorem z_fS {R0 R : z_R} {s : State} {p : Program} {m : MethodId} {args : Array Value} {meth : Method} {c : Code} {H : Heap} {locs : List Loc} (hok : z_ok G l y S p s m args meth c R0) (hat : z_at G S R0 s R w H locs) : va_S (fun q => z_b G ≤ q) s.heap H locs :=
  ⟨hat.2.2.1, fun q hq hA => hat.2.2.2.1 q hq (fun z => hA (z_hA hok q z)), hat.2.2.2.2⟩
theorem z_okc {R0 : z_R} {s : State} {p : Program} {m : MethodId} {args : Array Value} {meth : Method} {c : Code} (hok : z_ok G l y S p s m args meth c R0) : z_cst G s := hok.2.2.2.2.2.2.2.1.2.2.2.2.2.2.2
def z_cvb (v : Value) : Bool := match v with
  | .int _ => true
  | .retAddr _ => true
  | _ => false
theorem z_cvV {R : z_R} {v c : Value} (hb : z_cvb v = true) (h : z_cv G v c) : z_V G R w v c := by
  cases v with
  | int x => exact h
  | retAddr k => exact h
  | long x => exact Bool.noConfusion hb
  | null => exact Bool.noConfusion hb
  | ref n => exact Bool.noConfusion hb
  | float b => exact Bool.noConfusion hb
  | double b => exact Bool.noConfusion hb
theorem j_gets {idx : Nat} {x : String × String × String × Value} (hd : decode y.2.1 pc = .ok (.getstatic idx, 3)) (hx9 : x ∈ z_zst) (hcb : z_cvb x.2.2.2 = true) (hl : Cond.fieldLink y.1.cls idx x.1 x.2.1 x.2.2.1 ∈ z_tbl) (h : z_J G l y S (pc + 3) lo (x.2.2.2 :: st) w kc ks) : z_J G l y S pc lo st w kc ks := by
  intro p e s m args below meth c R0 hok R H locs ls cst hat hlo hst
  obtain ⟨v, hv, hz⟩ := (z_okc hok).2.2.1 x hx9
  exact va_gets hok.1 hok.2.1 hz (z_fS hok hat) hok.2.2.2.2.2.1 (hok.2.2.2.2.2.2.1 _ hl) (fun _ h => h) hd (h p e s m args below meth c R0 hok R H locs ls (v :: cst) hat hlo ⟨z_cvV hcb hv, hst⟩)
theorem j_alenK {k N : Nat} {ty : FieldType} (hd : decode y.2.1 pc = .ok (.arraylength, 1)) (hT : ∀ (U : State) (q : Nat), z_cst G U → z_k G k q → ∃ f, z_vT G ty q N f U) (h : z_J G l y S (pc + 1) lo (.int (Int32.ofNat N) :: st) w kc ks) : z_J G l y S pc lo (.retAddr k :: st) w kc ks := by
  intro p e s m args below meth c R0 hok R H locs ls cst hat hlo hst
  obtain ⟨c1, cs1, rfl, ⟨q, h1, hk⟩, hst1⟩ := z_Lc hst
  subst h1
  obtain ⟨f, hf⟩ := hT s q (z_okc hok) hk
  obtain ⟨cell, a1, a2, a3, a4, a5, -⟩ := hf.kept (z_fS hok hat).2.1
  exact W.alen (n := Int32.ofNat N) hok.1 hok.2.1 a1 a2 a5 rfl rfl hd (h p e s m args below meth c R0 hok R H locs ls _ hat hlo ⟨rfl, hst1⟩)
theorem z_clt {i : Int32} {n N : Nat} (hin : vp_in i N) (hn : N ≤ n) : ¬ (i < 0 ∨ n ≤ i.toNatClampNeg) := fun z => by
  rcases z with z | z
  · exact hin (Or.inl z)
  · exact hin (Or.inr (Nat.le_trans hn z))
theorem j_baldK {k N : Nat} {i : Int32} (hd : decode y.2.1 pc = .ok (.baload, 1)) (hT : ∀ (U : State) (q : Nat), z_cst G U → z_k G k q → ∃ f, z_vT G .byte q N f U ∧ ∀ j, j < N → ∃ x, f j = .int x) (hin : vp_in i N) (h : ∀ x : Int32, z_J G l y S (pc + 1) lo (.int x :: st) w kc ks) : z_J G l y S pc lo (.int i :: .retAddr k :: st) w kc ks := by
  intro p e9 s m args below meth c R0 hok R H locs ls cst hat hlo hst
  obtain ⟨c0, cs0, rfl, h0, hst0⟩ := z_Lc hst
  have h0 : c0 = .int i := h0
  subst h0
  obtain ⟨c1, cs1, rfl, ⟨q, h1, hk⟩, hst1⟩ := z_Lc hst0
  subst h1
  obtain ⟨f, hf, hx⟩ := hT s q (z_okc hok) hk
  obtain ⟨cell, a1, a2, a3, a4, a5, a6, -⟩ := hf.kept (z_fS hok hat).2.1
  have hlt : i.toNatClampNeg < N := Nat.not_le.mp (fun z => hin (Or.inr z))
  obtain ⟨x, e⟩ := hx _ hlt
  exact W.bald hok.1 hok.2.1 a1 a2 a3 (z_clt hin a4) (by rw [a6 _ hlt, e]) rfl rfl hd (h x p e9 s m args below meth c R0 hok R H locs ls _ hat hlo ⟨rfl, hst1⟩)
theorem j_aaldC {i : Int32} (hd : decode y.2.1 pc = .ok (.aaload, 1)) (hin : vp_in i 256) (h : z_J G l y S (pc + 1) lo (.float (z_cn i.toNatClampNeg) :: st) w kc ks) : z_J G l y S pc lo (.int i :: .retAddr 2 :: st) w kc ks := by
  intro p e s m args below meth c R0 hok R H locs ls cst hat hlo hst
  obtain ⟨c0, cs0, rfl, h0, hst0⟩ := z_Lc hst
  have h0 : c0 = .int i := h0
  subst h0
  obtain ⟨c1, cs1, rfl, ⟨q, h1, hk⟩, hst1⟩ := z_Lc hst0
  subst h1
  obtain ⟨f, hf, hx⟩ := (z_okc hok).2.2.2.2.1 q hk
  obtain ⟨cell, a1, a2, a3, a4, a5, a6, -⟩ := hf.kept (z_fS hok hat).2.1
  have hlt : i.toNatClampNeg < 256 := Nat.not_le.mp (fun z => hin (Or.inr z))
  obtain ⟨r, er, hr⟩ := hx _ hlt
  exact W.aald (ty := .object "java/lang/Integer") hok.1 hok.2.1 a1 a2 rfl a3 (z_clt hin a4) (by rw [a6 _ hlt, er]) rfl rfl hd (h p e s m args below meth c R0 hok R H locs ls _ hat hlo ⟨⟨r, rfl, Or.inr ⟨_, hlt, hr, rfl⟩⟩, hst1⟩)
theorem z_box {R0 R : z_R} {s : State} {p : Program} {m : MethodId} {args : Array Value} {meth : Method} {c : Code} {H : Heap} {locs : List Loc} {q : Nat} {b : UInt32} (hok : z_ok G l y S p s m args meth c R0) (hat : z_at G S R0 s R w H locs) (h : R.2 q = some b ∨ z_cb G q b) : z_OB q (z_dC G 2) 1 (z_dI G 2) H (fun _ => .int b.toInt32) := by
  rcases h with h | ⟨j, hj, hk, rfl⟩
  · exact z_OB.of (hat.1.2.2 q b h).1
  · obtain ⟨cell, h1, h2⟩ := (z_okc hok).2.2.2.2.2.2.1 j q hj hk
    exact ⟨cell, by rw [(z_fS hok hat).2.1 q (Array.getElem?_eq_some_iff.mp h1).1 ((z_okc hok).2.1 _ _ (Or.inr (by omega)) hk)]; exact h1, h2⟩
theorem j_getB {idx : Nat} {b : UInt32} (hd : decode y.2.1 pc = .ok (.getfield idx, 3)) (hF : z_F y.1.cls idx 2 0) (h : z_J G l y S (pc + 3) lo (.int b.toInt32 :: st) w kc ks) : z_J G l y S pc lo (.float b :: st) w kc ks := by
  intro p e s m args below meth c R0 hok R H locs ls cst hat hlo hst
  obtain ⟨c1, cs1, rfl, ⟨a, h1, hbx⟩, hst1⟩ := z_Lc hst
  subst h1
  obtain ⟨cell, o1, o2, o3, o4⟩ := z_box hok hat hbx
  obtain ⟨q', ref, f1, f2, f3, f4, f5⟩ := hF
  have kk := h p e s m args below meth c R0 hok R H locs ls (.int b.toInt32 :: cs1) hat hlo ⟨rfl, hst1⟩
  obtain ⟨hx, hb, -, -, -, hown, hts, henv, -⟩ := hok
  obtain ⟨hS, hfc, kC, hkC, hkind⟩ := henv.1 2 _ f1
  obtain ⟨cf, kf, fi, f, hi, hsl⟩ := hS 0 f2
  have hsta := (u_facts hfc hkC (u_lays (ws := z_tbl) hts f3 f2) hi).1
  have hi2 : s.fieldFound? ref (q'.2.1 0).2.1 (q'.2.1 0).2.2.1 = some (cf, kf, fi, f) := by
    rcases f5 with z | z
    · rw [← z]; exact hi
    · exact u_same (hts _ z) _ hi
  have hsv : cell.slots[f.slot]? = some (.int b.toInt32) := by
    rw [hsl]
    exact o4 0 (by decide)
  rcases f4 with f4 | ⟨host, f4⟩
  · exact W.getf hx hb hown (hts _ f4) hi2 hsta o1 o3.2 hsv rfl rfl hd kk
  · exact va_Wgetf hx hb hown (va_Nw.use (w := Cond.fieldLinkNest y.1.cls idx ref (q'.2.1 0).2.1 (q'.2.1 0).2.2.1 host) rfl (henv.2.2.1 _ f4)) hi2 hsta o1 o3.2 hsv rfl rfl hd kk
theorem j_ldcS {i idx : Nat} {t : String × Nat × String} (hd : decode y.2.1 pc = .ok (.ldc idx, 2)) (hi : z_strs[i]? = some t) (ht : t.1 = "LoopdefaultsModel" ∨ t.1 = "LoopdefaultsModel$Hearer") (h1 : t.1 = y.1.cls) (h2 : t.2.1 = idx) (h : z_J G l y S (pc + 2) lo (.retAddr (10 + i) :: st) w kc ks) : z_J G l y S pc lo st w kc ks := by
  intro p e s m args below meth c R0 hok R H locs ls cst hat hlo hst
  obtain ⟨a, bq, ha, -, hR, -⟩ := (z_okc hok).2.2.2.2.2.2.2.2.1 i t hi ht
  subst h2
  rw [h1] at hR
  exact va_ldcS hok.1 hok.2.1 hok.2.2.2.2.2.1 hR hd (h p e s m args below meth c R0 hok R H locs ls (.ref a :: cst) hat hlo ⟨⟨a, rfl, ha⟩, hst⟩)
theorem j_ldcM {idx : Nat} (hd : decode y.2.1 pc = .ok (.ldc idx, 2)) (hl : Cond.classLink y.1.cls idx "[Ljava/lang/Object;" ∈ z_tbl) (h : z_J G l y S (pc + 2) lo (.retAddr 6 :: st) w kc ks) : z_J G l y S pc lo st w kc ks := by
  intro p e s m args below meth c R0 hok R H locs ls cst hat hlo hst
  obtain ⟨q, hq, hm⟩ := (z_okc hok).2.2.2.2.2.2.2.1
  exact va_ldcM hok.1 hok.2.1 hok.2.2.2.2.2.1 (hok.2.2.2.2.2.2.1 _ hl) hm hd (h p e s m args below meth c R0 hok R H locs ls (.ref q :: cst) hat hlo ⟨⟨q, rfl, hq⟩, hst⟩)
end ZJK
