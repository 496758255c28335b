section ZC
variable {G : z_G} {l : Launch} {y : z_M} {S : z_S} {pc : Nat} {lo : List (Nat × Value)} {st : List Value} {w w' : z_W} {kc ks : Nat}
def z_dv1 (v : Value) : Bool := match v with
  | .int _ => true
  | .long _ => true
  | .null => true
  | _ => false
def z_dv (fs : List Value) : Bool := fs.all z_dv1
theorem z_dvL {G : z_G} {R : z_R} {w : z_W} : ∀ {fs : List Value}, z_dv fs = true → z_L (z_V G R w) fs fs
  | [], _ => trivial
  | v :: t, h => by
    have h9 : z_dv1 v = true ∧ z_dv t = true := by
      unfold z_dv at h ⊢
      rw [List.all_cons, Bool.and_eq_true] at h
      exact h
    refine ⟨?_, z_dvL h9.2⟩
    cases v with
    | int x => rfl
    | long x => rfl
    | null => rfl
    | ref n => exact Bool.noConfusion h9.1
    | float b => exact Bool.noConfusion h9.1
    | retAddr k => exact Bool.noConfusion h9.1
    | double b => exact Bool.noConfusion h9.1
def z_N (own : String) (idx ci : Nat) (fs : List Value) : Prop := ∃ (q : vw_C) (ty : Nat → FieldType), z_cls[ci]? = some q ∧ (∀ x ∈ u_ws q.1 q.2.1 q.2.2, x ∈ z_tbl) ∧ Cond.classLink own idx q.1 ∈ z_tbl ∧ Cond.instantiable q.1 q.2.2 ∈ z_tbl ∧ Cond.initialized q.1 ∈ z_tbl ∧
  (∀ j, j < q.2.2 → parseFieldDescriptor (q.2.1 j).2.2.1 = some (ty j)) ∧ fs.length = q.2.2 ∧ (∀ j, j < q.2.2 → defaultValue (ty j) = vp_V fs j) ∧ z_dv fs = true
theorem j_new {idx ci n N : Nat} {fs : List Value} (hd : decode y.2.1 pc = .ok (.new idx, 3)) (hN : z_N y.1.cls idx ci fs) (hl : fs.length = N) (hw : z_g w n = none ∧ z_al w n (.inr (ci, fs)) w') (hc : kc + 1 ≤ S.2.1) (hs : ks + N ≤ S.2.2.1) (h : z_J G l y S (pc + 3) lo (.ref n :: st) w' (kc + 1) (ks + N)) : z_J G l y S pc lo st w kc ks := by
  intro p e s m args below meth c R0 hok R H locs ls cst hat hlo hst
  obtain ⟨q, ty, n1, n2, n3, n4, n5, n6, n7, n8, n9⟩ := hN
  have hok2 := hok
  obtain ⟨hx, hb, -, -, -, hown, hts, henv, -, hbs, -⟩ := hok2
  have hKn := henv.1 ci _ n1
  refine W.newcK hx hb hown (hts _ n3) (hts _ n4) (hts _ n5) rfl hd hc (by rw [← n7, hl]; exact hs) hKn.2.1 rfl ?_
  intro H' kC hkC e1 z1 o1
  have hX : z_X G ((fun m => if m = n then H.size else R.1 m), R.2) w' (.inr (ci, fs)) H.size H' :=
    ⟨q, fs, n1, n7, (u_born ty hts n2 hKn hkC e1 n6).to n8, z_dvL n9⟩
  have hV := z_Va (G := G) (R := R) (q := H.size) hw.1 hw.2
  have hat' := z_alloc hbs hat hw.1 hw.2 z1 o1 hX
  have hr : z_V G ((fun m => if m = n then H.size else R.1 m), R.2) w' (.ref n) (.ref H.size) := ⟨⟨_, hw.2.1⟩, by show Value.ref H.size = .ref (if n = n then H.size else R.1 n); rw [if_pos rfl]⟩
  rw [← n7, hl]
  exact h p e s m args below meth c R0 hok _ H' locs ls (.ref H.size :: cst) hat' (z_lom hV hlo) ⟨hr, z_Lm hV hst⟩
theorem j_newa {at9 : ArrayType} {kd n N : Nat} {x : Int32} {ty : FieldType} (hd : decode y.2.1 pc = .ok (.newarray at9, 2)) (hk : z_tyl[kd]? = some ty) (hty : newarray.typeOf at9 = ty) (ha : Cond.arrayClass ty ∈ z_tbl) (hra : va_RA = va_RA ∧ ∀ (U : State) (c : ClassId), va_RA U c ty → U.vm.findClass ("[" ++ ty.toString) = some c) (hx0 : ¬ x < 0) (hN : x.toNatClampNeg = N) (hby : N * componentBytes ty ≤ 536870912) (hdv : defaultValue ty = .int 0) (hw : z_g w n = none ∧ z_al w n (.inl (kd, N, fun _ => .int 0)) w') (hc : kc + 1 ≤ S.2.1) (hs : ks + N ≤ S.2.2.1) (h : z_J G l y S (pc + 2) lo (.ref n :: st) w' (kc + 1) (ks + N)) : z_J G l y S pc lo (.int x :: st) w kc ks := by
  intro p e s m args below meth c R0 hok R H locs ls cst hat hlo hst
  obtain ⟨c0, cs0, rfl, h0, hst1⟩ := z_Lc hst
  have h0 : c0 = .int x := h0
  subst h0
  subst hty
  have hok2 := hok
  obtain ⟨hx, hb, -, -, -, hown, hts, henv, -, hbs, -⟩ := hok2
  refine va_newaK hx hb (hts _ ha) rfl hd rfl hx0 hN hby hc hs rfl ?_
  intro H' cA e1 z1 o1 hAr hNm
  have hcA : cA = z_dA G kd := Option.some.inj (hNm.symm.trans (hra.2 _ _ (henv.2.1 kd _ hk).2))
  subst hcA
  have hX : z_X G ((fun m => if m = n then H.size else R.1 m), R.2) w' (.inl (kd, N, fun _ => .int 0)) H.size H' := ⟨fun _ => .int 0, by rw [e1, hdv], fun j hj => rfl⟩
  have hV := z_Va (G := G) (R := R) (q := H.size) hw.1 hw.2
  have hat' := z_alloc hbs hat hw.1 hw.2 z1 o1 hX
  have hr : z_V G ((fun m => if m = n then H.size else R.1 m), R.2) w' (.ref n) (.ref H.size) := ⟨⟨_, hw.2.1⟩, by show Value.ref H.size = .ref (if n = n then H.size else R.1 n); rw [if_pos rfl]⟩
  exact h p e s m args below meth c R0 hok _ H' locs ls (.ref H.size :: cs0) hat' (z_lom hV hlo) ⟨hr, z_Lm hV hst1⟩
theorem j_anew {idx kd n N : Nat} {x : Int32} {C : String} (hd : decode y.2.1 pc = .ok (.anewarray idx, 3)) (hk : z_tyl[kd]? = some (.object C)) (hcl : Cond.classLink y.1.cls idx C ∈ z_tbl) (hov : Cond.arrayOver (.object C) ∈ z_nst) (hx0 : ¬ x < 0) (hN : x.toNatClampNeg = N) (hby : N * 4 ≤ 536870912) (hw : z_g w n = none ∧ z_al w n (.inl (kd, N, fun _ => .null)) w') (hc : kc + 1 ≤ S.2.1) (hs : ks + N ≤ S.2.2.1) (h : z_J G l y S (pc + 3) lo (.ref n :: st) w' (kc + 1) (ks + N)) : z_J G l y S pc lo (.int x :: st) w kc ks := by
  intro p e s m args below meth c R0 hok R H locs ls cst hat hlo hst
  obtain ⟨c0, cs0, rfl, h0, hst1⟩ := z_Lc hst
  have h0 : c0 = .int x := h0
  subst h0
  subst hN
  have hok2 := hok
  obtain ⟨hx, hb, -, -, -, hown, hts, henv, -, hbs, -⟩ := hok2
  refine W.anew hx hb hown (hts _ hcl) (va_AO.use (henv.2.2.1 _ hov)) rfl hd rfl hx0 hby hc hs fun cA kA comp f1 f2 f3 f4 => ?_
  generalize hH1 : H.push ({ cls := cA, slots := Array.replicate x.toNatClampNeg .null, vm := .none } : Cell) = H1
  have z1 : H1.size = H.size + 1 := by rw [← hH1, Array.size_push]
  have e1 : H1[H.size]? = some (arrV cA x.toNatClampNeg (fun _ => .null)) := by rw [← hH1, Array.getElem?_push_size, ← arrV_new]
  have o1 : ∀ q : Nat, q < H.size → H1[q]? = H[q]? := fun q hq => by rw [← hH1, Array.getElem?_push, if_neg (Nat.ne_of_lt hq)]
  obtain ⟨kA', comp', r1, r2, r3, r4⟩ := (henv.2.1 kd _ hk).2
  have hcA : cA = z_dA G kd := Option.some.inj (f1.symm.trans r4)
  subst hcA
  have hX : z_X G ((fun m => if m = n then H.size else R.1 m), R.2) w' (.inl (kd, x.toNatClampNeg, fun _ => .null)) H.size H1 := ⟨fun _ => .null, e1, fun j hj => rfl⟩
  have hV := z_Va (G := G) (R := R) (q := H.size) hw.1 hw.2
  have hat' := z_alloc hbs hat hw.1 hw.2 z1 o1 hX
  have hr : z_V G ((fun m => if m = n then H.size else R.1 m), R.2) w' (.ref n) (.ref H.size) := ⟨⟨_, hw.2.1⟩, by show Value.ref H.size = .ref (if n = n then H.size else R.1 n); rw [if_pos rfl]⟩
  exact h p e s m args below meth c R0 hok _ H1 locs ls (.ref H.size :: cs0) hat' (z_lom hV hlo) ⟨hr, z_Lm hV hst1⟩
theorem j_aast {a b kd ci n : Nat} {f : Nat → Value} {fs : List Value} {q : vw_C} {i : Int32} (hd : decode y.2.1 pc = .ok (.aastore, 1)) (hg : z_g w a = some (.inl (kd, n, f))) (hk : z_tyl[kd]? = some (.object q.1)) (hgb : z_g w b = some (.inr (ci, fs))) (hq : z_cls[ci]? = some q) (hin : vp_in i n) (hw : z_s w a (.inl (kd, n, z_u f i.toNatClampNeg (.ref b))) = w') (h : z_J G l y S (pc + 1) lo st w' kc ks) : z_J G l y S pc lo (.ref b :: .int i :: .ref a :: st) w kc ks := by
  intro p e s m args below meth c R0 hok R H locs ls cst hat hlo hst
  obtain ⟨c9, cs9, rfl, h9, hst1⟩ := z_Lc hst
  obtain ⟨c0, cs0, rfl, h0, hst2⟩ := z_Lc hst1
  obtain ⟨c1, cs1, rfl, ⟨-, h1⟩, hst3⟩ := z_Lc hst2
  have h9' := h9.2
  have h0 : c0 = .int i := h0
  subst h9'
  subst h0
  subst h1
  subst hw
  obtain ⟨z, z1, z2⟩ := (hat.1.1 a _ hg).1
  obtain ⟨q', gs, x1, x2, ⟨cellV, g1, g2, g3, -⟩, x4⟩ := (hat.1.1 b _ hgb).1
  have hok2 := hok
  obtain ⟨hx, hb, -, -, -, hown, hts, henv, -⟩ := hok2
  have hlt : i.toNatClampNeg < n := Nat.not_le.mp fun q => hin (Or.inr q)
  have hi0 : ¬ i < 0 := fun q => hin (Or.inl q)
  have hcls := (henv.1 ci q hq).2
  obtain ⟨kA, comp, k1, k2, k3, -⟩ := (henv.2.1 kd _ hk).2
  have hcomp : comp = z_dC G ci := Option.some.inj (k3.symm.trans hcls.1)
  subst hcomp
  obtain ⟨kC, hkC, -⟩ := hcls.2
  refine W.aast hx hb z1 (fun q h => by cases h) (fun h => by cases h) k1 k2 rfl hkC ⟨hi0, by show _ < (arrV _ _ _).slots.size; rw [arrV_size]; exact hlt⟩ g1 (fun q h => by rw [g3] at h; cases h) (by rw [g2]; exact hkC) (by rw [g2]; exact va_assign hcls) rfl rfl hd ?_
  intro H' e1 e2 e3
  exact h p e s m args below meth c R0 hok R H' _ ls cs1 (z_write hat hg e2 e3 (z_Xu (z_Vs hg) z2 h9 e1)) (z_lom (z_Vs hg) hlo) (z_Lm (z_Vs hg) hst3)
theorem z_fin {G : z_G} {S : z_S} {R0 R : z_R} {s : State} {w : z_W} {H : Heap} {locs : List Loc} (hat : z_at G S R0 s R w H locs) {t : State} (ht : t.heap = H) : z_P G R w t.heap ∧ z_T R0 S.2.2.2.1 s.heap.size R w ∧ va_F (z_A R0 S.2.2.2.1 s.heap.size) s t :=
  ⟨by rw [ht]; exact hat.1, hat.2.1, by rw [ht]; exact hat.2.2.1, fun q h1 h2 => by rw [ht]; exact hat.2.2.2.1 q h1 h2⟩
theorem j_iret {x : Int32} {ty : FieldType} (hd : decode y.2.1 pc = .ok (.ireturn, 1)) (hr : y.2.2.2.1 = some ty) (hn : narrow ty (.int x) = .int x) (hQ : S.2.2.2.2.1 (some (.int x)) w) (hc : kc ≤ S.2.1) (hs : ks ≤ S.2.2.1) : z_J G l y S pc lo [.int x] w kc ks := by
  intro p e s m args below meth c R0 hok R H locs ls cst hat hlo hst
  obtain ⟨c0, cs0, rfl, h0, hst1⟩ := z_Lc hst
  obtain rfl := z_Ln hst1
  have h0 : c0 = .int x := h0
  subst h0
  obtain ⟨hx, hb, -, hret, hlk, -⟩ := hok
  refine W.widen hc hs (vx_ret ?_)
  exact W.zret (hlocks := hlk) hx hb (hret.trans hr) hn (fun t ht hW => ⟨some (.int x), some (.int x), R, w, rfl, rfl, hQ, z_fin hat ht⟩) hat.2.2.2.2 hd
theorem j_lret {x : Int64} (hd : decode y.2.1 pc = .ok (.lreturn, 1)) (hr : y.2.2.2.1 = some .long) (hQ : S.2.2.2.2.1 (some (.long x)) w) (hc : kc ≤ S.2.1) (hs : ks ≤ S.2.2.1) : z_J G l y S pc lo [.long x] w kc ks := by
  intro p e s m args below meth c R0 hok R H locs ls cst hat hlo hst
  obtain ⟨c0, cs0, rfl, h0, hst1⟩ := z_Lc hst
  obtain rfl := z_Ln hst1
  have h0 : c0 = .long x := h0
  subst h0
  obtain ⟨hx, hb, -, hret, hlk, -⟩ := hok
  refine W.widen hc hs (vx_ret ?_)
  exact W.lret (hlocks := hlk) hx hb (hret.trans hr) (fun t ht hW => ⟨some (.long x), some (.long x), R, w, rfl, rfl, hQ, z_fin hat ht⟩) hat.2.2.2.2 hd
theorem j_vret (hd : decode y.2.1 pc = .ok (.return_, 1)) (hr : y.2.2.2.1 = none) (hQ : S.2.2.2.2.1 none w) (hc : kc ≤ S.2.1) (hs : ks ≤ S.2.2.1) : z_J G l y S pc lo [] w kc ks := by
  intro p e s m args below meth c R0 hok R H locs ls cst hat hlo hst
  obtain rfl := z_Ln hst
  obtain ⟨hx, hb, -, hret, hlk, -⟩ := hok
  refine W.widen hc hs (vx_ret ?_)
  exact W.vret (hlocks := hlk) hx hb (hret.trans hr) (fun t ht hW => ⟨none, none, R, w, rfl, trivial, hQ, z_fin hat ht⟩) hat.2.2.2.2 hd
theorem j_aret {v : Value} {ty : FieldType} (hd : decode y.2.1 pc = .ok (.areturn, 1)) (hr : y.2.2.2.1 = some ty) (hty : (∃ n, ty = .object n) ∨ ∃ t, ty = .array t) (hv : z_ir v = true) (hQ : S.2.2.2.2.1 (some v) w) (hc : kc ≤ S.2.1) (hs : ks ≤ S.2.2.1) : z_J G l y S pc lo [v] w kc ks := by
  intro p e s m args below meth c R0 hok R H locs ls cst hat hlo hst
  obtain ⟨c0, cs0, rfl, h0, hst1⟩ := z_Lc hst
  obtain rfl := z_Ln hst1
  obtain ⟨hx, hb, -, hret, hlk, -⟩ := hok
  refine W.widen hc hs (vx_ret ?_)
  exact W.aret (hlocks := hlk) hx hb (hret.trans hr) hty (z_V_ir hv h0) (fun t ht hW => ⟨some v, some c0, R, w, rfl, h0, hQ, z_fin hat ht⟩) hat.2.2.2.2 hd
theorem z_hA {G : z_G} {S : z_S} {R0 : z_R} {s : State} {p : Program} {m : MethodId} {args : Array Value} {meth : Method} {c : Code} (hok : z_ok G l y S p s m args meth c R0) (q : Nat) (h : z_A R0 S.2.2.2.1 s.heap.size q) : z_b G ≤ q := z_A.b hok.2.2.2.2.2.2.2.2.1 hok.2.2.2.2.2.2.2.2.2.1 h
theorem z_envH {G : z_G} {S : z_S} {R0 R : z_R} {s : State} {p : Program} {m : MethodId} {args : Array Value} {meth : Method} {c : Code} {H : Heap} {locs : List Loc} (hok : z_ok G l y S p s m args meth c R0) (hat : z_at G S R0 s R w H locs) {U : State} (hU : U.heap = H) (hW : s.WarmedH U.vm) : z_env G U :=
  z_envm hok.2.2.2.2.2.2.2.1 hW (fun q hq hb => by rw [hU]; exact hat.2.2.2.1 q hq (fun z => hb (z_hA hok q z)))
theorem z_pre {G : z_G} {S : z_S} {R0 R : z_R} {s : State} {p : Program} {m : MethodId} {args : Array Value} {meth : Method} {c : Code} {H : Heap} {locs : List Loc} {av cav : List Value} (hok : z_ok G l y S p s m args meth c R0) (hat : z_at G S R0 s R w H locs) (hav : z_L (z_V G R w) av cav) (U : State) (hU : U.heap = H) (hW : s.WarmedH U.vm) : z_Pc G R w av cav.toArray U :=
  ⟨⟨cav, rfl, hav⟩, z_envH hok hat hU hW, by rw [hU]; exact hat.1, by rw [hU]; exact Nat.le_trans hok.2.2.2.2.2.2.2.2.2.1 hat.2.2.1⟩
theorem z_after {G : z_G} {S : z_S} {R0 R R' : z_R} {s st₀ t T' : State} {w w' : z_W} {H : Heap} {locs L : List Loc} (hat : z_at G S R0 s R w H locs) (h0 : st₀.heap = H) (e1 : T'.heap = t.heap) (hL : ∀ q ∈ L, z_b G ≤ q.base) (hP : z_P G R' w' t.heap) (hT : z_T R w st₀.heap.size R' w') (hF : va_F (z_A R w st₀.heap.size) st₀ t) : z_at G S R0 s R' w' T'.heap (locs ++ L) := by
  obtain ⟨p, tt, f⟩ := hat
  rw [h0] at hT hF
  obtain ⟨f1, f2⟩ := hF
  rw [h0] at f1 f2
  refine ⟨by rw [e1]; exact hP, tt.tr hT f.1, Nat.le_trans f.1 (by rw [e1]; exact f1), fun q hq hA => ?_, fun x hx => ?_⟩
  · rw [e1, f2 q (Nat.lt_of_lt_of_le hq f.1) ?_]
    · exact f.2.1 q hq hA
    · rintro (⟨n, hn, rfl⟩ | hz)
      · exact hA (tt.A hn)
      · have := f.1
        omega
  · rcases List.mem_append.mp hx with h | h
    · exact f.2.2 x h
    · exact hL x h
theorem z_Oc {P : Value → Value → Prop} {v c : Option Value} {as bs : List Value} (h : z_O P v c) (h2 : z_L P as bs) : z_L P (v.toList ++ as) (c.toList ++ bs) := by
  cases v with
  | none =>
    cases c with
    | none => exact h2
    | some c => exact h.elim
  | some v =>
    cases c with
    | none => exact h.elim
    | some c => exact ⟨h, h2⟩
theorem z_run {S : z_S} {p : Program} {e : Env} {s : State} {m : MethodId} {args : Array Value} {below : List Frame} {meth : Method} {c : Code} {R0 R : z_R} {H : Heap} {locs : List Loc} {ls : Array Slot} {cst crest rest : List Value} {a9 : Array Value} {mc' ms' : Nat} {Q' : Option Value → z_W → Prop} {X' : String → z_W → Prop} (hok : z_ok G l y S p s m args meth c R0) (hat : z_at G S R0 s R w H locs) (hlo : z_lo G R w lo ls c.maxLocals) (hrest : z_L (z_V G R w) rest crest) (ht : y.2.2.2.2 = [])
    (hr : vx_Run p l e (z_rm S.1 S.2.1 S.2.2.1) s m args below meth c H locs kc ks mc' ms' (F0 m pc ls cst) crest (z_Qc G R w Q' a9) (z_Xc G R w X') (fun q => z_b G ≤ q)) (hcs : kc + mc' ≤ S.2.1 ∧ ks + ms' ≤ S.2.2.1) (hx : ∀ E w', X' E w' → S.2.2.2.2.2 E w')
    (kk : ∀ v w', Q' v w' → z_J G l y S (pc + 3) lo (v.toList ++ rest) w' (kc + mc') (ks + ms')) : W p l e (z_rm S.1 S.2.1 S.2.2.1) s m args below meth c H locs kc ks (vx_MQ below (z_Qc G R0 S.2.2.2.1 S.2.2.2.2.1) (z_Xc G R0 S.2.2.2.1 S.2.2.2.2.2) args s S.2.1 S.2.2.1 (fun q => z_b G ≤ q)) (F0 m pc ls cst) := by
  intro T hT X
  rcases hr T hT X with ⟨v, st₀, t, T', L, h0, X', hL, e1, e2, ⟨v', cv, R', w', ho, hO, hQ, hP, hTT, hF⟩, go⟩ | ⟨q, st₀, t, T', L, E, ce, h0, X', hL, e1, e2, ⟨R', w', hX, hP, hTT, hF⟩, hce, hcv, hcl, go⟩
  · cases ho
    have hat' := z_after hat h0 e1 hL hP hTT hF
    obtain ⟨t2, a1, b1⟩ := kk v' w' hQ p e s m args below meth c R0 hok R' T'.heap (locs ++ L) ls (v.toList ++ crest) hat' (z_lom hTT.V hlo) (z_Oc hO (z_Lm hTT.V hrest)) T' rfl X'
    exact ⟨t2, go t2 a1, b1⟩
  · have hat' := z_after hat h0 e1 hL hP hTT hF
    have htab : c.exceptionTable.toList = [] := by rw [hok.2.2.2.2.2.2.2.2.2.2.1, ht]; rfl
    have h9 := vx_out (p := p) (l := l) (e := e) (R := z_rm S.1 S.2.1 S.2.2.1) (s := s) (m := m) (args := args) (below := below) (meth := meth) (c := c) (H := T'.heap) (locs := locs ++ L) (cells := kc + mc') (slots := ks + ms') (free := fun q => z_b G ≤ q) (ls := ls) (rest := crest) (Qc := z_Qc G R0 S.2.2.2.1 S.2.2.2.2.1) (XC := z_Xc G R0 S.2.2.2.1 S.2.2.2.2.2) (pc := pc) (E := E) (ce := ce) (q := q) (mc := S.2.1) (ms := S.2.2.1) (fun x hx => by rw [htab] at hx; cases hx) hok.2.2.2.2.1 (by rw [e1]; exact hce) hcv hcl
      (fun t9 ht9 _ => ⟨R', w', hx E w' hX, z_fin hat' ht9⟩) hat'.2.2.2.2 hcs.1 hcs.2
    obtain ⟨t2, a1, b1⟩ := h9 T' rfl X'
    exact ⟨t2, go.trans a1, b1⟩
def z_okm (y : z_M) (np : Nat) : Prop := y.2.2.2.2 = [] ∧ z_code y ∈ z_tbl ∧ Cond.initialized y.1.cls ∈ z_tbl ∧ (y.1.cls ≠ "java/lang/invoke/MethodHandle" ∧ y.1.cls ≠ "java/lang/invoke/VarHandle") ∧ (parseMethodDescriptor y.1.desc).map (fun d => d.parameters.length) = some np ∧ y.2.2.1 ≤ 21
theorem z_cd {y : z_M} (h : y.2.2.2.2 = []) : z_code y = Cond.code y.1 y.2.1 y.2.2.1 y.2.2.2.1 := by
  obtain ⟨yn, yb, yl, yr, yt⟩ := y
  have h : yt = [] := h
  subst h
  rfl
theorem z_pay {y : z_M} {args : Array Value} {s : State} (hts : ∀ w ∈ z_tbl, w.before args s = true) (hm : z_code y ∈ z_tbl) : ∀ w ∈ z_ws y, ∀ (a' : Array Value) (U : State), s.WarmedH U.vm → w.before a' U = true := by
  intro w hw a' U hW
  have hw2 : w ∈ z_tbl := by
    rcases List.mem_cons.mp hw with rfl | h
    · exact hm
    · exact h
  exact word_at hW (good_of_word (List.mem_filter.mp hw2).2) (hts w hw2)
theorem z_rmle {rk' rk L : Nat} (h1 : rk' + 1 ≤ rk) (h2 : L ≤ 21) : rk' + 1 ≤ rk ∧ 8 + (L + 11) + 40 * rk' ≤ 40 * rk := ⟨h1, by omega⟩
theorem z_np {y : MethodName} {np : Nat} (h : (parseMethodDescriptor y.desc).map (fun d => d.parameters.length) = some np) : ∀ sig, parseMethodDescriptor y.desc = some sig → np = sig.parameters.length := by
  intro sig hs
  rw [hs] at h
  exact (Option.some.inj h).symm
theorem z_CB {S : z_S} {s : State} {args : Array Value} {y y' : z_M} {idx np rk' mc' ms' : Nat} (hts : ∀ w ∈ z_tbl, w.before args s = true) (hm : z_okm y' np) (hrk : rk' + 1 ≤ S.1) (hl : Cond.methodLink y.1.cls idx y'.1 ∈ z_tbl) : CallB (z_rm S.1 S.2.1 S.2.2.1) s args y.1.cls idx y'.1 y'.2.1 y'.2.2.1 y'.2.2.2.1 (z_ws y') (z_rm rk' mc' ms') mc' ms' np := by
  obtain ⟨m1, m2, m3, m4, m5, m6⟩ := hm
  have e := z_cd m1
  refine ⟨rfl, rfl, (z_rmle hrk m6).1, (z_rmle hrk m6).2, z_pay hts m2, by rw [← e]; exact List.mem_cons_self, by rw [← e]; exact hts _ m2, hts _ m3, m4, z_np m5, hts _ hl⟩
theorem z_CBN {S : z_S} {s : State} {args : Array Value} {y y' : z_M} {host : String} {idx np rk' mc' ms' : Nat} (hts : ∀ w ∈ z_tbl, w.before args s = true) (henv : z_env G s) (hm : z_okm y' np) (hrk : rk' + 1 ≤ S.1) (hl : Cond.methodLinkNest y.1.cls idx y'.1 host ∈ z_nst) : va_CN (z_rm S.1 S.2.1 S.2.2.1) s args y.1.cls idx y'.1 host y'.2.1 y'.2.2.1 y'.2.2.2.1 (z_ws y') (z_rm rk' mc' ms') mc' ms' np := by
  obtain ⟨m1, m2, m3, m4, m5, m6⟩ := hm
  have e := z_cd m1
  refine ⟨⟨rfl, rfl, (z_rmle hrk m6).1, (z_rmle hrk m6).2, z_pay hts m2, by rw [← e]; exact List.mem_cons_self⟩, by rw [← e]; exact hts _ m2, hts _ m3, m4, z_np m5, va_Nw.use (w := Cond.methodLinkNest y.1.cls idx y'.1 host) rfl (henv.2.2.1 _ hl)⟩
theorem z_recv {S : z_S} {R0 R : z_R} {s : State} {p : Program} {m : MethodId} {args : Array Value} {meth : Method} {c : Code} {H : Heap} {locs : List Loc} {a ci : Nat} {fs : List Value} {q : vw_C} (hok : z_ok G l y S p s m args meth c R0) (hat : z_at G S R0 s R w H locs) (hg : z_g w a = some (.inr (ci, fs))) (hq : z_cls[ci]? = some q) : ∃ cellB : Cell, H[R.1 a]? = some cellB ∧ cellB.vm.isStatics = false ∧ s.vm.findClass q.1 = some cellB.cls := by
  obtain ⟨q', gs, x1, x2, ⟨cell, o1, o2, o3, -⟩, x4⟩ := (hat.1.1 a _ hg).1
  exact ⟨cell, o1, by rw [o3]; rfl, by rw [o2]; exact (hok.2.2.2.2.2.2.2.1.1 ci q hq).2.1⟩
theorem j_callS {idx np rk' mc' ms' : Nat} {y' : z_M} {as rest : List Value} {Q' : Option Value → z_W → Prop} {X' : String → z_W → Prop} (hd : decode y.2.1 pc = .ok (.invokestatic idx, 3)) (hm : z_okm y' np) (hl : Cond.methodLink y.1.cls idx y'.1 ∈ z_tbl) (hsx : Cond.static y'.1 ∈ z_tbl) (hc : z_Con G l y' rk' mc' ms' w as Q' X') (hrk : rk' + 1 ≤ S.1) (hcs : kc + mc' ≤ S.2.1 ∧ ks + ms' ≤ S.2.2.1) (hstk : st = as.reverse ++ rest) (hW : z_cat rest ≤ 8) (hn : as.length = np) (ht : y.2.2.2.2 = []) (hx : ∀ E w', X' E w' → S.2.2.2.2.2 E w') (kk : ∀ v w', Q' v w' → z_J G l y S (pc + 3) lo (v.toList ++ rest) w' (kc + mc') (ks + ms')) : z_J G l y S pc lo st w kc ks := by
  intro p e s m args below meth c R0 hok R H locs ls cst hat hlo hst
  subst hstk
  obtain ⟨b1, crest, rfl, hb1, hrest⟩ := z_Lapp hst
  have hAs := z_Lrev hb1
  rw [List.reverse_reverse] at hAs
  exact z_run hok hat hlo hrest ht (vx_runS (As := b1.reverse) ⟨hok.1, hok.2.1, rfl, hok.2.2.2.2.2.1, hok.2.2.2.2.2.2.1⟩ (hc R) ⟨z_CB hok.2.2.2.2.2.2.1 hm hrk hl, hok.2.2.2.2.2.2.1 _ hsx⟩ ⟨z_Pc_blind, fun U hU hW9 => z_pre hok hat hAs U hU hW9⟩ rfl (by rw [z_Ll hAs]; exact hn) hlo.choose_spec.1.1 (by rw [List.reverse_reverse]) (lv_room (by rw [z_Lcs hrest]; exact hW)) hd hcs) hcs hx kk
theorem j_callSN {idx np rk' mc' ms' : Nat} {y' : z_M} {as rest : List Value} {Q' : Option Value → z_W → Prop} {X' : String → z_W → Prop} {host : String} (hd : decode y.2.1 pc = .ok (.invokestatic idx, 3)) (hm : z_okm y' np) (hl : Cond.methodLinkNest y.1.cls idx y'.1 host ∈ z_nst) (hsx : Cond.static y'.1 ∈ z_tbl) (hc : z_Con G l y' rk' mc' ms' w as Q' X') (hrk : rk' + 1 ≤ S.1) (hcs : kc + mc' ≤ S.2.1 ∧ ks + ms' ≤ S.2.2.1) (hstk : st = as.reverse ++ rest) (hW : z_cat rest ≤ 8) (hn : as.length = np) (ht : y.2.2.2.2 = []) (hx : ∀ E w', X' E w' → S.2.2.2.2.2 E w') (kk : ∀ v w', Q' v w' → z_J G l y S (pc + 3) lo (v.toList ++ rest) w' (kc + mc') (ks + ms')) : z_J G l y S pc lo st w kc ks := by
  intro p e s m args below meth c R0 hok R H locs ls cst hat hlo hst
  subst hstk
  obtain ⟨b1, crest, rfl, hb1, hrest⟩ := z_Lapp hst
  have hAs := z_Lrev hb1
  rw [List.reverse_reverse] at hAs
  exact z_run hok hat hlo hrest ht (vx_runSN (As := b1.reverse) ⟨hok.1, hok.2.1, rfl, hok.2.2.2.2.2.1, hok.2.2.2.2.2.2.1⟩ (hc R) ⟨z_CBN hok.2.2.2.2.2.2.1 hok.2.2.2.2.2.2.2.1 hm hrk hl, hok.2.2.2.2.2.2.1 _ hsx, trivial⟩ ⟨z_Pc_blind, fun U hU hW9 => z_pre hok hat hAs U hU hW9⟩ rfl (by rw [z_Ll hAs]; exact hn) hlo.choose_spec.1.1 (by rw [List.reverse_reverse]) (lv_room (by rw [z_Lcs hrest]; exact hW)) hd hcs) hcs hx kk
theorem j_callV {idx np rk' mc' ms' : Nat} {y' : z_M} {as rest : List Value} {Q' : Option Value → z_W → Prop} {X' : String → z_W → Prop} {a ci : Nat} {fs : List Value} {q : vw_C} (hd : decode y.2.1 pc = .ok (.invokevirtual idx, 3)) (hm : z_okm y' np) (hl : Cond.methodLink y.1.cls idx y'.1 ∈ z_tbl) (hi : Cond.instanceMethod y'.1 ∈ z_tbl) (hse : Cond.selects q.1 y'.1 y'.1 ∈ z_tbl) (hg : z_g w a = some (.inr (ci, fs))) (hq : z_cls[ci]? = some q) (hc : z_Con G l y' rk' mc' ms' w (.ref a :: as) Q' X') (hrk : rk' + 1 ≤ S.1) (hcs : kc + mc' ≤ S.2.1 ∧ ks + ms' ≤ S.2.2.1) (hstk : st = as.reverse ++ .ref a :: rest) (hW : z_cat rest ≤ 8) (hn : as.length = np) (ht : y.2.2.2.2 = []) (hx : ∀ E w', X' E w' → S.2.2.2.2.2 E w') (kk : ∀ v w', Q' v w' → z_J G l y S (pc + 3) lo (v.toList ++ rest) w' (kc + mc') (ks + ms')) : z_J G l y S pc lo st w kc ks := by
  intro p e s m args below meth c R0 hok R H locs ls cst hat hlo hst
  subst hstk
  obtain ⟨b1, c2, rfl, hb1, hst⟩ := z_Lapp hst
  obtain ⟨c1, crest, rfl, h1, hrest⟩ := z_Lc hst
  have h1' := h1.2
  subst h1'
  have hAs := z_Lrev hb1
  rw [List.reverse_reverse] at hAs
  exact z_run hok hat hlo hrest ht (vx_runV (C := q.1) (As := b1.reverse) ⟨hok.1, hok.2.1, rfl, hok.2.2.2.2.2.1, hok.2.2.2.2.2.2.1⟩ (hc R) ⟨z_CB hok.2.2.2.2.2.2.1 hm hrk hl, hok.2.2.2.2.2.2.1 _ hi, hok.2.2.2.2.2.2.1 _ hse⟩ ⟨z_Pc_blind, z_recv hok hat hg hq, fun U hU hW9 => z_pre hok hat (av := .ref a :: as) (cav := .ref (R.1 a) :: b1.reverse) ⟨h1, hAs⟩ U hU hW9⟩ rfl (by rw [z_Ll hAs]; exact hn) hlo.choose_spec.1.1 (by rw [List.reverse_reverse]) (lv_room (by rw [z_Lcs hrest]; exact hW)) hd hcs) hcs hx kk
theorem j_callVN {idx np rk' mc' ms' : Nat} {y' : z_M} {as rest : List Value} {Q' : Option Value → z_W → Prop} {X' : String → z_W → Prop} {host : String} {a ci : Nat} {fs : List Value} {q : vw_C} (hd : decode y.2.1 pc = .ok (.invokevirtual idx, 3)) (hm : z_okm y' np) (hl : Cond.methodLinkNest y.1.cls idx y'.1 host ∈ z_nst) (hi : Cond.instanceMethod y'.1 ∈ z_tbl) (hse : Cond.selects q.1 y'.1 y'.1 ∈ z_tbl) (hg : z_g w a = some (.inr (ci, fs))) (hq : z_cls[ci]? = some q) (hc : z_Con G l y' rk' mc' ms' w (.ref a :: as) Q' X') (hrk : rk' + 1 ≤ S.1) (hcs : kc + mc' ≤ S.2.1 ∧ ks + ms' ≤ S.2.2.1) (hstk : st = as.reverse ++ .ref a :: rest) (hW : z_cat rest ≤ 8) (hn : as.length = np) (ht : y.2.2.2.2 = []) (hx : ∀ E w', X' E w' → S.2.2.2.2.2 E w') (kk : ∀ v w', Q' v w' → z_J G l y S (pc + 3) lo (v.toList ++ rest) w' (kc + mc') (ks + ms')) : z_J G l y S pc lo st w kc ks := by
  intro p e s m args below meth c R0 hok R H locs ls cst hat hlo hst
  subst hstk
  obtain ⟨b1, c2, rfl, hb1, hst⟩ := z_Lapp hst
  obtain ⟨c1, crest, rfl, h1, hrest⟩ := z_Lc hst
  have h1' := h1.2
  subst h1'
  have hAs := z_Lrev hb1
  rw [List.reverse_reverse] at hAs
  exact z_run hok hat hlo hrest ht (vx_runVN (C := q.1) (As := b1.reverse) ⟨hok.1, hok.2.1, rfl, hok.2.2.2.2.2.1, hok.2.2.2.2.2.2.1⟩ (hc R) ⟨z_CBN hok.2.2.2.2.2.2.1 hok.2.2.2.2.2.2.2.1 hm hrk hl, hok.2.2.2.2.2.2.1 _ hi, hok.2.2.2.2.2.2.1 _ hse⟩ ⟨z_Pc_blind, z_recv hok hat hg hq, fun U hU hW9 => z_pre hok hat (av := .ref a :: as) (cav := .ref (R.1 a) :: b1.reverse) ⟨h1, hAs⟩ U hU hW9⟩ rfl (by rw [z_Ll hAs]; exact hn) hlo.choose_spec.1.1 (by rw [List.reverse_reverse]) (lv_room (by rw [z_Lcs hrest]; exact hW)) hd hcs) hcs hx kk
theorem j_callI {idx np rk' mc' ms' : Nat} {y' : z_M} {as rest : List Value} {Q' : Option Value → z_W → Prop} {X' : String → z_W → Prop} {a : Nat} (hd : decode y.2.1 pc = .ok (.invokespecial idx, 3)) (hm : z_okm y' np) (hno : y'.2.2.2.1 = none) (hl : Cond.methodLink y.1.cls idx y'.1 ∈ z_tbl) (hi : Cond.instanceMethod y'.1 ∈ z_tbl) (hin : y'.1.name = "<init>") (hc : z_Con G l y' rk' mc' ms' w (.ref a :: as) Q' X') (hrk : rk' + 1 ≤ S.1) (hcs : kc + mc' ≤ S.2.1 ∧ ks + ms' ≤ S.2.2.1) (hstk : st = as.reverse ++ .ref a :: rest) (hW : z_cat rest ≤ 8) (hn : as.length = np) (ht : y.2.2.2.2 = []) (hx : ∀ E w', X' E w' → S.2.2.2.2.2 E w') (kk : ∀ v w', Q' v w' → z_J G l y S (pc + 3) lo (v.toList ++ rest) w' (kc + mc') (ks + ms')) : z_J G l y S pc lo st w kc ks := by
  intro p e s m args below meth c R0 hok R H locs ls cst hat hlo hst
  subst hstk
  obtain ⟨b1, c2, rfl, hb1, hst⟩ := z_Lapp hst
  obtain ⟨c1, crest, rfl, h1, hrest⟩ := z_Lc hst
  have h1' := h1.2
  subst h1'
  have hAs := z_Lrev hb1
  rw [List.reverse_reverse] at hAs
  have h5 := z_CB (S := S) (y := y) (mc' := mc') (ms' := ms') hok.2.2.2.2.2.2.1 hm hrk hl
  rw [hno] at h5
  exact z_run hok hat hlo hrest ht (vx_runI (As := b1.reverse) ⟨hok.1, hok.2.1, rfl, hok.2.2.2.2.2.1, hok.2.2.2.2.2.2.1⟩ (hc R) ⟨h5, hin, hok.2.2.2.2.2.2.1 _ hi⟩ ⟨z_Pc_blind, fun U hU hW9 => z_pre hok hat (av := .ref a :: as) (cav := .ref (R.1 a) :: b1.reverse) ⟨h1, hAs⟩ U hU hW9⟩ rfl (by rw [z_Ll hAs]; exact hn) hlo.choose_spec.1.1 (by rw [List.reverse_reverse]) (lv_room (by rw [z_Lcs hrest]; exact hW)) hd hcs) hcs hx kk
theorem j_callIN {idx np rk' mc' ms' : Nat} {y' : z_M} {as rest : List Value} {Q' : Option Value → z_W → Prop} {X' : String → z_W → Prop} {host : String} {a : Nat} (hd : decode y.2.1 pc = .ok (.invokespecial idx, 3)) (hm : z_okm y' np) (hno : y'.2.2.2.1 = none) (hl : Cond.methodLinkNest y.1.cls idx y'.1 host ∈ z_nst) (hi : Cond.instanceMethod y'.1 ∈ z_tbl) (hin : y'.1.name = "<init>") (hc : z_Con G l y' rk' mc' ms' w (.ref a :: as) Q' X') (hrk : rk' + 1 ≤ S.1) (hcs : kc + mc' ≤ S.2.1 ∧ ks + ms' ≤ S.2.2.1) (hstk : st = as.reverse ++ .ref a :: rest) (hW : z_cat rest ≤ 8) (hn : as.length = np) (ht : y.2.2.2.2 = []) (hx : ∀ E w', X' E w' → S.2.2.2.2.2 E w') (kk : ∀ v w', Q' v w' → z_J G l y S (pc + 3) lo (v.toList ++ rest) w' (kc + mc') (ks + ms')) : z_J G l y S pc lo st w kc ks := by
  intro p e s m args below meth c R0 hok R H locs ls cst hat hlo hst
  subst hstk
  obtain ⟨b1, c2, rfl, hb1, hst⟩ := z_Lapp hst
  obtain ⟨c1, crest, rfl, h1, hrest⟩ := z_Lc hst
  have h1' := h1.2
  subst h1'
  have hAs := z_Lrev hb1
  rw [List.reverse_reverse] at hAs
  have h5 := z_CBN (S := S) (y := y) (mc' := mc') (ms' := ms') hok.2.2.2.2.2.2.1 hok.2.2.2.2.2.2.2.1 hm hrk hl
  rw [hno] at h5
  exact z_run hok hat hlo hrest ht (vx_runIN (As := b1.reverse) ⟨hok.1, hok.2.1, rfl, hok.2.2.2.2.2.1, hok.2.2.2.2.2.2.1⟩ (hc R) ⟨h5, hin, hok.2.2.2.2.2.2.1 _ hi⟩ ⟨z_Pc_blind, fun U hU hW9 => z_pre hok hat (av := .ref a :: as) (cav := .ref (R.1 a) :: b1.reverse) ⟨h1, hAs⟩ U hU hW9⟩ rfl (by rw [z_Ll hAs]; exact hn) hlo.choose_spec.1.1 (by rw [List.reverse_reverse]) (lv_room (by rw [z_Lcs hrest]; exact hW)) hd hcs) hcs hx kk
def z_CU (own C owner : String) (idx : Nat) (x : MethodName) (y' : z_M) : Prop := Cond.methodLink own idx x ∈ z_tbl ∧ Cond.sameMethod x.cls owner x.name x.desc ∈ z_tbl ∧ (y'.1 = ⟨owner, x.name, x.desc⟩ ∨ Cond.declares ⟨owner, x.name, x.desc⟩ ∈ z_nst) ∧ Cond.selects C x y'.1 ∈ z_tbl ∧ Cond.instanceMethod y'.1 ∈ z_tbl ∧ (owner ≠ "java/lang/invoke/MethodHandle" ∧ owner ≠ "java/lang/invoke/VarHandle") ∧ x.desc = y'.1.desc
theorem j_callU {idx np rk' mc' ms' : Nat} {y' : z_M} {as rest : List Value} {Q' : Option Value → z_W → Prop} {X' : String → z_W → Prop} {owner : String} {x : MethodName} {a ci : Nat} {fs : List Value} {q : vw_C} (hd : decode y.2.1 pc = .ok (.invokevirtual idx, 3)) (hm : z_okm y' np) (hl : z_CU y.1.cls q.1 owner idx x y') (hg : z_g w a = some (.inr (ci, fs))) (hq : z_cls[ci]? = some q) (hc : z_Con G l y' rk' mc' ms' w (.ref a :: as) Q' X') (hrk : rk' + 1 ≤ S.1) (hcs : kc + mc' ≤ S.2.1 ∧ ks + ms' ≤ S.2.2.1) (hstk : st = as.reverse ++ .ref a :: rest) (hW : z_cat rest ≤ 8) (hn : as.length = np) (ht : y.2.2.2.2 = []) (hx : ∀ E w', X' E w' → S.2.2.2.2.2 E w') (kk : ∀ v w', Q' v w' → z_J G l y S (pc + 3) lo (v.toList ++ rest) w' (kc + mc') (ks + ms')) : z_J G l y S pc lo st w kc ks := by
  intro p e s m args below meth c R0 hok R H locs ls cst hat hlo hst
  subst hstk
  obtain ⟨b1, c2, rfl, hb1, hst⟩ := z_Lapp hst
  obtain ⟨c1, crest, rfl, h1, hrest⟩ := z_Lc hst
  have h1' := h1.2
  subst h1'
  have hAs := z_Lrev hb1
  rw [List.reverse_reverse] at hAs
  obtain ⟨u1, u2, u3, u4, u5, u6, u7⟩ := hl
  have hts := hok.2.2.2.2.2.2.1
  have henv := hok.2.2.2.2.2.2.2.1
  obtain ⟨m1, m2, m3, m4, m5, m6⟩ := hm
  have ecd := z_cd m1
  have cw : va_CU (z_rm S.1 S.2.1 S.2.2.1) s args y.1.cls q.1 owner idx x y'.1 y'.2.1 y'.2.2.1 y'.2.2.2.1 (z_ws y') (z_rm rk' mc' ms') mc' ms' np := by
    refine ⟨⟨rfl, rfl, (z_rmle hrk m6).1, (z_rmle hrk m6).2, z_pay hts m2, by rw [← ecd]; exact List.mem_cons_self⟩, by rw [← ecd]; exact hts _ m2, hts _ m3, u6, ?_, hts _ u1, hts _ u2, ?_, hts _ u4, hts _ u5⟩
    · rw [u7]; exact z_np m5
    · rcases u3 with z | z
      · rw [← z]; exact va_Decl.of (hts _ u5) (by rw [← ecd]; exact hts _ m2)
      · exact va_Decl.abs (henv.2.2.1 _ z)
  exact z_run hok hat hlo hrest ht (vx_runU (C := q.1) (As := b1.reverse) ⟨hok.1, hok.2.1, rfl, hok.2.2.2.2.2.1, hok.2.2.2.2.2.2.1⟩ (hc R) cw ⟨z_Pc_blind, z_recv hok hat hg hq, fun U hU hW9 => z_pre hok hat (av := .ref a :: as) (cav := .ref (R.1 a) :: b1.reverse) ⟨h1, hAs⟩ U hU hW9⟩ rfl (by rw [z_Ll hAs]; exact hn) hlo.choose_spec.1.1 (by rw [List.reverse_reverse]) (lv_room (by rw [z_Lcs hrest]; exact hW)) hd hcs) hcs hx kk
theorem z_Pk {G : z_G} {R : z_R} {w : z_W} {H H' : Heap} (h : z_P G R w H) (hk : ∀ q : Nat, q < H.size → H'[q]? = H[q]?) : z_P G R w H' := by
  refine ⟨fun n e hn => ⟨(h.1 n e hn).1.kept (fun _ _ hv => hv) (hk _ (h.1 n e hn).1.lt), (h.1 n e hn).2⟩, h.2.1, fun q b hq => ⟨(h.2.2 q b hq).1.kept (hk q ?_), (h.2.2 q b hq).2⟩⟩
  obtain ⟨cell, h9, -⟩ := (h.2.2 q b hq).1
  exact (Array.getElem?_eq_some_iff.mp h9).1
def z_thr (own : String) (ik ic : Nat) (cls : String) (names : List String) : Prop := Bundle.fit cls = true ∧ (∀ n ∈ names, Bundle.fit n = true) ∧ Cond.classLink own ik cls ∈ z_tbl ∧ Cond.initialized cls ∈ z_tbl ∧ (∀ w ∈ vx_atS own ic cls names, w ∈ z_tbl ∨ (w ∈ z_nst ∧ w.onTables = true)) ∧ (∀ w ∈ vx_atS own ic cls names, vx_ot w = true)
theorem j_throwS {ik is ic : Nat} {cls text : String} {names : List String} (ht : y.2.2.2.2 = []) (hth : z_thr y.1.cls ik ic cls names) (hstr : (y.1.cls, is, text) ∈ z_strs) (d0 : decode y.2.1 pc = .ok (.new ik, 3)) (d3 : decode y.2.1 (pc + 3) = .ok (.dup, 1)) (d4 : decode y.2.1 (pc + 4) = .ok (.ldc is, 2)) (d6 : decode y.2.1 (pc + 6) = .ok (.invokespecial ic, 3)) (d9 : decode y.2.1 (pc + 9) = .ok (.athrow, 1))
    (hrf : names.length + 3 < S.1) (hrl : z_cat st + (13 * (names.length + 1) + 43) ≤ 40 * S.1) (hX : S.2.2.2.2.2 cls w) (hc : kc + 1 ≤ S.2.1) (hs : ks + 6 ≤ S.2.2.1) : z_J G l y S pc lo st w kc ks := by
  intro p e s m args below meth c R0 hok R H locs ls cst hat hlo hst
  obtain ⟨t1, t2, t3, t4, t5, t6⟩ := hth
  have hok2 := hok
  obtain ⟨hx, hb, -, -, hlk, hown, hts, henv, hP0, hbs, htab, -, hl⟩ := hok2
  obtain ⟨sa, hsa⟩ := henv.2.2.2.1 _ hstr
  have htab : c.exceptionTable.toList = [] := by rw [htab, ht]; rfl
  refine vx_throwS (A := fun q => z_b G ≤ q) hx hb hl hown t1 t2 (hts _ t3) (hts _ t4) hsa (fun w9 hw9 => ?_) ?_ henv.2.2.2.2.2.1 henv.2.2.2.2.2.2.1 ⟨hat.2.2.1, fun q hq hA => hat.2.2.2.1 q hq (fun z => hA (z_hA hok q z)), hat.2.2.2.2⟩ hlo.choose_spec.1.1 d0 d3 d4 d6 d9 (fun x hx => by rw [htab] at hx; cases hx) hrf (by rw [z_Lcs hst]; exact hrl) hc hs hlk ?_ hat.2.2.2.2 hc hs
  · rcases t5 w9 hw9 with z | z
    · exact hts _ z
    · exact va_Nw.use z.2 (henv.2.2.1 _ z.1)
  · intro w9 hw9
    rcases List.mem_cons.mp hw9 with rfl | hw9
    · rfl
    · rcases List.mem_cons.mp hw9 with rfl | hw9
      · rfl
      · exact t6 w9 hw9
  · intro t hal hsz hk
    have hP9 := z_Pk hat.1 hk
    exact ⟨R, w, hX, hP9, hat.2.1, Nat.le_trans hat.2.2.1 hsz, fun q h1 h2 => (hk q (Nat.lt_of_lt_of_le h1 hat.2.2.1)).trans (hat.2.2.2.1 q h1 h2)⟩
theorem j_throwSW {ik is ic : Nat} {cls text : String} {names : List String} (ht : y.2.2.2.2 = []) (hth : z_thr y.1.cls ik ic cls names) (hstr : (y.1.cls, is, text) ∈ z_strs) (d0 : decode y.2.1 pc = .ok (.new ik, 3)) (d3 : decode y.2.1 (pc + 3) = .ok (.dup, 1)) (d4 : decode y.2.1 (pc + 4) = .ok (.ldc_w is, 3)) (d6 : decode y.2.1 (pc + 7) = .ok (.invokespecial ic, 3)) (d9 : decode y.2.1 (pc + 10) = .ok (.athrow, 1))
    (hrf : names.length + 3 < S.1) (hrl : z_cat st + (13 * (names.length + 1) + 43) ≤ 40 * S.1) (hX : S.2.2.2.2.2 cls w) (hc : kc + 1 ≤ S.2.1) (hs : ks + 6 ≤ S.2.2.1) : z_J G l y S pc lo st w kc ks := by
  intro p e s m args below meth c R0 hok R H locs ls cst hat hlo hst
  obtain ⟨t1, t2, t3, t4, t5, t6⟩ := hth
  have hok2 := hok
  obtain ⟨hx, hb, -, -, hlk, hown, hts, henv, hP0, hbs, htab, -, hl⟩ := hok2
  obtain ⟨sa, hsa⟩ := henv.2.2.2.1 _ hstr
  have htab : c.exceptionTable.toList = [] := by rw [htab, ht]; rfl
  refine vx_throwSW (A := fun q => z_b G ≤ q) hx hb hl hown t1 t2 (hts _ t3) (hts _ t4) hsa (fun w9 hw9 => ?_) ?_ henv.2.2.2.2.2.1 henv.2.2.2.2.2.2.1 ⟨hat.2.2.1, fun q hq hA => hat.2.2.2.1 q hq (fun z => hA (z_hA hok q z)), hat.2.2.2.2⟩ hlo.choose_spec.1.1 d0 d3 d4 d6 d9 (fun x hx => by rw [htab] at hx; cases hx) hrf (by rw [z_Lcs hst]; exact hrl) hc hs hlk ?_ hat.2.2.2.2 hc hs
  · rcases t5 w9 hw9 with z | z
    · exact hts _ z
    · exact va_Nw.use z.2 (henv.2.2.1 _ z.1)
  · intro w9 hw9
    rcases List.mem_cons.mp hw9 with rfl | hw9
    · rfl
    · rcases List.mem_cons.mp hw9 with rfl | hw9
      · rfl
      · exact t6 w9 hw9
  · intro t hal hsz hk
    have hP9 := z_Pk hat.1 hk
    exact ⟨R, w, hX, hP9, hat.2.1, Nat.le_trans hat.2.2.1 hsz, fun q h1 h2 => (hk q (Nat.lt_of_lt_of_le h1 hat.2.2.1)).trans (hat.2.2.2.1 q h1 h2)⟩
end ZC
