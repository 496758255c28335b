section ZGi
variable {G : z_G} {l : Launch} {y : z_M} {S : z_S} {pc : Nat} {lo : List (Nat × Value)} {st : List Value} {w w' : z_W} {kc ks : Nat}
abbrev z_gcN : MethodName := ⟨"java/lang/Object", "getClass", "()Ljava/lang/Class;"⟩
abbrev z_gcC : MethodName := ⟨"java/util/Collection", "getClass", "()Ljava/lang/Class;"⟩
theorem z_gcI {p : Program} {e : Env} {R : Room} {s : State} {m : MethodId} {args : Array Value} {below : List Frame} {meth : Method} {c : Code} {T : State} {locs : List Loc} {cells slots : Nat} (X : Stand p l e R s m args below meth c T locs cells slots) (hexec : p.tables.exec = Jvm.exec) {own : String} {index count : Nat}
    (hown : s.vm.findClass own = some m.cls) (hlink : (Cond.methodLink own index z_gcC).before args s = true) (hdecl : (Cond.declares z_gcN).before args s = true)
    (hface : (Cond.interfaceMethod "java/util/Collection" "java/lang/Object" "getClass" "()Ljava/lang/Class;").before args s = true) (hsame : (Cond.sameMethod "java/lang/Object" "java/lang/Object" "getClass" "()Ljava/lang/Class;").before args s = true) (hsel : (Cond.selects "java/util/ArrayList" z_gcN z_gcN).before args s = true) (hinst : (Cond.instanceMethod z_gcN).before args s = true)
    (hpub : (Cond.publicMethod z_gcN).before args s = true) (hunh : (Cond.unhidden "java/util/ArrayList" "getClass" "()Ljava/lang/Class;").before args s = true) (hcast : (Cond.castable "java/util/ArrayList" "java/util/Collection").before args s = true)
    (hnat : (Cond.native z_gcN).before args s = true)
    {b : Addr} {cB : ClassId} {kB : Class} (hcB : s.vm.findClass "java/util/ArrayList" = some cB) (hkB : s.vm.classes[cB]? = some kB) (hrecv : ∃ cell : Cell, T.heap[b]? = some cell ∧ cell.cls = cB ∧ cell.vm.isStatics = false) {mir : Addr} (hmir : kB.mirror = some mir)
    {g : JFrame} (hg : g.method = m) (hsize : g.locals.size = c.maxLocals) {rest : List Value} (hstack : g.stack = .ref b :: rest) (hdg : decode c.code g.pc = .ok (.invokeinterface index count, 5))
    (hframes : 1 ≤ R.frames) (hlocals : 2 * g.monitorRoom + (rest.map fun v => v.category).sum + (nativeFrameWords "java/lang/Object" "getClass" 1 + 11) ≤ R.locals) :
    ∃ vm₁, Stand p l e R s m args below meth c (T.setVm vm₁) locs cells slots ∧
      ∀ target, Steps p.tables e below ((T.setVm vm₁).setTop { g with pc := g.pc + 5, stack := .ref mir :: rest }) target → Steps p.tables e below (T.setTop g) target := by
  obtain ⟨cellB, hcellT, hclsB, hstatB⟩ := hrecv
  obtain ⟨mk, methM, hnamed, hmethM, -, habM⟩ := Cond.instanceMethod_spec hinst
  obtain ⟨hnameM, hdescM⟩ := name_of_methodNamed hnamed hmethM
  obtain ⟨c2, r2, m2, q1, q2, q3, q4, -⟩ := Cond.selects_spec hsel
  cases hcB.symm.trans q1
  cases hnamed.symm.trans q3
  obtain ⟨cL, kL, r1, hcL, hkL, hiL, hfoundL, hn1⟩ := Cond.interfaceMethod_spec hface
  cases hnamed.symm.trans hn1
  obtain ⟨cn5, ck5, r5, -, -, -, hf5, hn5⟩ := Cond.sameMethod_found hsame
  cases hnamed.symm.trans hn5
  cases hf5.symm.trans q2
  have hselP : selectMethod e.platform s.vm cellB.cls mk = .method mk := by rw [Launch.admits_selectMethod X.admits, hclsB]; exact q4
  have hpubM : hasFlag methM.accessFlags Acc.public_ = true := Cond.publicMethod_spec hnamed hmethM hpub
  have hway : ((cellB.cls :: s.vm.superclasses cellB.cls).any fun k => (declaredIn s.vm methM.name methM.desc k).any fun (_, z) => z.isPrivate || z.isStatic) = false := by
    rw [hnameM, hdescM, hclsB]; exact Cond.unhidden_spec hcB hunh
  obtain ⟨c3, t3, w1, w2, w3⟩ := Cond.castable_spec hcast
  cases hcB.symm.trans w1
  cases hcL.symm.trans w2
  obtain ⟨mN, kN, methN, hnamedN, hmethN, hkN, N⟩ := NativeOf.of_instance hnat hinst (by decide +kernel : parseMethodDescriptor z_gcN.desc = some { parameters := [], returnType := some (.object "java/lang/Class") })
  cases hnamed.symm.trans hnamedN
  cases hmethM.symm.trans hmethN
  have hlen0 : ([] : List Value).length = methM.sig.parameters.length := by
    obtain ⟨mk', meth', hn', hm', -, hsig'⟩ := Cond.declares_spec hdecl
    cases hnamed.symm.trans hn'
    cases hmethM.symm.trans hm'
    have := Option.some.inj ((by decide +kernel : parseMethodDescriptor z_gcN.desc = some { parameters := [], returnType := some (.object "java/lang/Class") }).symm.trans hsig')
    rw [← this]; rfl
  obtain ⟨vm₁, X₁, hstep₁⟩ := X.invokeinterfaceObject hexec hown hlink hface hdecl hpub (by decide) (by decide) hcL hcellT
    (fun z h => by rw [h] at hstatB; cases hstatB) (by rw [hclsB]; exact hkB) (by rw [hclsB]; exact w3) hnamed hmethM hselP hmethM hway hpubM habM (g := g) hg (argsL := []) (rest := rest) hlen0 hstack hdg
  have hal : s.vm.Alike vm₁ := X₁.warmed.alike
  obtain ⟨kN₁, N₁⟩ := N.alike hal
  obtain ⟨kB₁, hkB₁, ekB⟩ := hal.2.2 _ _ hkB
  have hAt : At (T.setVm vm₁) ({ g with stack := rest } : JFrame).method c below := by rw [show ({ g with stack := rest } : JFrame).method = m from hg]; exact X₁.here
  have hroom := X₁.notFull (g := { g with stack := rest }) hsize (vars := nativeFrameWords "java/lang/Object" "getClass" 1) hframes hlocals
  refine ⟨vm₁, X₁, fun target hrest => hstep₁ target fun acts => ?_⟩
  exact Steps.getClassOf p hAt acts N₁ hroom (show (T.setVm vm₁).heap[b]? = some cellB from hcellT) (fun z h => by rw [h] at hstatB; cases hstatB)
    (show (T.setVm vm₁).vm.classes[cellB.cls]? = some kB₁ by rw [hclsB]; exact hkB₁) (by rw [ekB]; exact hmir) hdg hrest
theorem j_gcI {idx cnt a : Nat} {fs : List Value} (hd : decode y.2.1 pc = .ok (.invokeinterface idx cnt, 5)) (hl : Cond.methodLink y.1.cls idx z_gcC ∈ z_tbl) (hsm : Cond.sameMethod "java/lang/Object" "java/lang/Object" "getClass" "()Ljava/lang/Class;" ∈ z_tbl) (hs : Cond.selects "java/util/ArrayList" z_gcN z_gcN ∈ z_tbl) (hi : Cond.instanceMethod z_gcN ∈ z_tbl) (hnat : Cond.native z_gcN ∈ z_tbl)
    (hg : z_g w a = some (.inr (4, fs))) (hrk : 1 ≤ S.1) (hW : z_cat st ≤ 8) (h : z_J G l y S (pc + 5) lo (.retAddr 7 :: st) w kc ks) : z_J G l y S pc lo (.ref a :: st) w kc ks := by
  intro p e s m args below meth c R0 hok R H locs ls cst hat hlo hst
  obtain ⟨c1, cs1, rfl, hv, hst1⟩ := z_Lc hst
  obtain ⟨-, h1⟩ := hv
  subst h1
  obtain ⟨q, hq, hm⟩ := (z_okc hok).2.2.2.2.2.2.2.2.2.2.2.1
  obtain ⟨g1, g2, g3, g4, g5⟩ := (z_Fio hok).2.2.2
  have hts := hok.2.2.2.2.2.2.1
  have hsz := hlo.choose_spec.1.1
  have h8 : (cs1.map fun v => v.category).sum ≤ 8 := by rw [z_Lcs hst1]; exact hW
  have h40 : 40 ≤ (z_rm S.1 S.2.1 S.2.2.1).locals := by show 40 ≤ 40 * S.1; omega
  obtain ⟨q9, gs, x1, x2, ⟨cell, o1, o2, o3, -⟩, -⟩ := (hat.1.1 a _ hg).1
  obtain ⟨c0, k0, e1, e2, e3⟩ := hm
  have hC := (hok.2.2.2.2.2.2.2.1.1 4 _ rfl).2.1
  intro T hT X
  have ec : cell.cls = c0 := by
    have e9 := o2
    rw [o2]
    exact Option.some.inj (hC.symm.trans e1)
  obtain ⟨vm', X', step⟩ := z_gcI X hok.1 hok.2.2.2.2.2.1 (hts _ hl) (va_Nw.use rfl g2) (va_Nw.use rfl g1) (hts _ hsm) (hts _ hs) (hts _ hi) (va_Nw.use rfl g3) (va_Nw.use rfl g4) (va_Nw.use rfl g5) (hts _ hnat) e1 e2 ⟨cell, by rw [hT]; exact o1, ec, by rw [o3]; rfl⟩ e3 (g := F0 m pc ls (.ref (R.1 a) :: cs1)) rfl (by rw [← hsz]) rfl (by rw [hok.2.1]; exact hd) hrk (by show 2 * 0 + _ + _ ≤ _; have hw : nativeFrameWords "java/lang/Object" "getClass" 1 = 3 := (by decide); omega)
  obtain ⟨t, a1, b1⟩ := h p e s m args below meth c R0 hok R H locs ls (.ref q :: cs1) hat hlo ⟨⟨q, rfl, hq⟩, hst1⟩ (T.setVm vm') hT X'
  exact ⟨t, step t a1, b1⟩
theorem j_ldcC {idx : Nat} (hd : decode y.2.1 pc = .ok (.ldc idx, 2)) (hl : Cond.classLink y.1.cls idx "java/util/ArrayList" ∈ z_tbl) (h : z_J G l y S (pc + 2) lo (.retAddr 7 :: st) w kc ks) : z_J G l y S pc lo st w kc ks := by
  intro p e s m args below meth c R0 hok R H locs ls cst hat hlo hst
  obtain ⟨q, hq, hm⟩ := (z_okc hok).2.2.2.2.2.2.2.2.2.2.2.1
  exact va_ldcM hok.1 hok.2.1 hok.2.2.2.2.2.1 (hok.2.2.2.2.2.2.1 _ hl) hm hd (h p e s m args below meth c R0 hok R H locs ls (.ref q :: cst) hat hlo ⟨⟨q, rfl, hq⟩, hst⟩)
end ZGi
