def z_isN : Cond → Bool
  | .fieldLinkNest .. => true
  | .methodLinkNest .. => true
  | .castable .. => true
  | .declares _ => true
  | .privateMethod _ => true
  | .arrayOver (.object _) => true
  | .arrayOver (.array _) => true
  | _ => false
def z_tbl : List Cond := lw_tbl.filter goodWord
def z_nst : List Cond := lw_tbl.filter z_isN
theorem z_nstm {w : Cond} (hw : z_isN w = true) {s U : State} (hW : s.WarmedH U.vm) (h : va_Nw w s) : va_Nw w U := by
  unfold z_isN at hw
  split at hw
  · exact va_Nw.warmF hW h
  · exact va_Nw.warmM hW h
  · exact va_Nw.warmC hW h
  · exact va_Nw.warmD hW h
  · exact va_Nw.of (A := #[]) rfl (Cond.privateMethod_warm hW (va_Nw.use (A := #[]) rfl h))
  · exact va_AO.moved hW.alike h
  · exact over_moved hW.alike h
  · cases hw
theorem z_w {w : Cond} (i : Nat) (h : lw_tbl[i]? = some w) (hg : goodWord w = true) : w ∈ z_tbl := List.mem_filter.mpr ⟨List.mem_of_getElem? h, hg⟩
theorem z_wn {w : Cond} (i : Nat) (h : lw_tbl[i]? = some w) (hg : z_isN w = true) : w ∈ z_nst := List.mem_filter.mpr ⟨List.mem_of_getElem? h, hg⟩
abbrev z_zq (G : z_G) (f d : String) (U : State) (H : Heap) : Prop := vx_Zq Bundle.tN f d (fun q => z_b G ≤ q) U H
def z_zst : List (String × String × String × Value) := [("java/lang/String", "COMPACT_STRINGS", "Z", .int 1), ("java/lang/Integer$IntegerCache", "high", "I", .int 127), ("java/util/ArrayList", "DEFAULTCAPACITY_EMPTY_ELEMENTDATA", "[Ljava/lang/Object;", .retAddr 0), ("java/util/ArrayList", "EMPTY_ELEMENTDATA", "[Ljava/lang/Object;", .retAddr 1), ("java/lang/Integer$IntegerCache", "cache", "[Ljava/lang/Integer;", .retAddr 2), ("java/lang/Integer", "DigitOnes", "[B", .retAddr 3), ("java/lang/Integer", "DigitTens", "[B", .retAddr 4)]
def z_cv (G : z_G) (v c : Value) : Prop := match v with
  | .retAddr k => ∃ q, c = .ref q ∧ z_k G k q
  | v => c = v
abbrev z_vT (G : z_G) (ty : FieldType) (q N : Nat) (f : Nat → Value) (U : State) : Prop := va_T ty q N f (fun q => z_b G ≤ q) U U.heap
def z_Fg (U : State) : Prop := va_Nw (.interfaceMethod "java/util/Collection" "java/lang/Object" "getClass" "()Ljava/lang/Class;") U ∧ va_Nw (.declares ⟨"java/lang/Object", "getClass", "()Ljava/lang/Class;"⟩) U ∧ va_Nw (.publicMethod ⟨"java/lang/Object", "getClass", "()Ljava/lang/Class;"⟩) U ∧ va_Nw (.unhidden "java/util/ArrayList" "getClass" "()Ljava/lang/Class;") U ∧ va_Nw (.castable "java/util/ArrayList" "java/util/Collection") U
theorem z_Fg.moved {u U : State} (hvm : u.vm.Alike U.vm) (h : z_Fg u) : z_Fg U := by
  obtain ⟨h1, h2, h3, h4, h5⟩ := h
  have tr : ∀ {c : Cond}, c.onTables = true → c.before #[] (u.setVm U.vm) = true → c.before #[] U = true := by
    intro c hc h
    have e := Cond.onTables_vm (A := #[]) (A' := #[]) (U := u) (U' := U) U.vm c hc
    have hU : U.setVm U.vm = U := rfl
    rw [hU] at e
    rw [← e]
    exact h
  have e1 : (Cond.interfaceMethod "java/util/Collection" "java/lang/Object" "getClass" "()Ljava/lang/Class;").before #[] (u.setVm U.vm) = (Cond.interfaceMethod "java/util/Collection" "java/lang/Object" "getClass" "()Ljava/lang/Class;").before #[] u := by
    simp only [Cond.before, Cond.holds, Cond.value, State.vm_setVm, hvm.findClass, State.methodFound?_setVm hvm, State.methodNamed?_setVm hvm, arm_isInterface_setVm hvm]
  exact ⟨tr rfl (e1.trans h1), tr rfl ((Cond.declares_setVm hvm _).trans h2), tr rfl ((Cond.publicMethod_setVm hvm _).trans h3), tr rfl ((Cond.unhidden_setVm hvm _ _ _).trans h4), tr rfl ((Cond.castable_setVm hvm _ _).trans h5)⟩
def z_Fi (U : State) : Prop := va_Fw "java/util/ArrayList" ⟨"java/util/Collection", "toArray", "()[Ljava/lang/Object;"⟩ ⟨"java/util/ArrayList", "toArray", "()[Ljava/lang/Object;"⟩ U ∧ va_Fw "java/util/ArrayList$Itr" ⟨"java/util/Iterator", "hasNext", "()Z"⟩ ⟨"java/util/ArrayList$Itr", "hasNext", "()Z"⟩ U ∧ va_Fw "java/util/ArrayList$Itr" ⟨"java/util/Iterator", "next", "()Ljava/lang/Object;"⟩ ⟨"java/util/ArrayList$Itr", "next", "()Ljava/lang/Object;"⟩ U ∧ z_Fg U
theorem z_Fi.moved {u U : State} (hvm : u.vm.Alike U.vm) (h : z_Fi u) : z_Fi U := ⟨h.1.moved (by decide) hvm, h.2.1.moved (by decide) hvm, h.2.2.1.moved (by decide) hvm, h.2.2.2.moved hvm⟩
def z_OB (o : Nat) (cC : ClassId) (N : Nat) (iS : Nat → Nat) (H : Heap) (V : Nat → Value) : Prop := ∃ cell : Cell, H[o]? = some cell ∧ cell.cls = cC ∧ (cell.vm.isStatics = false ∧ cell.vm ≠ .unknown) ∧ ∀ k, k < N → cell.slots[iS k]? = some (V k)
theorem z_OB.of {o : Nat} {cC : ClassId} {N : Nat} {iS : Nat → Nat} {H : Heap} {V : Nat → Value} (h : t_OB o cC N iS H V) : z_OB o cC N iS H V := by
  obtain ⟨cell, h1, h2, h3, h4⟩ := h
  exact ⟨cell, h1, h2, ⟨by rw [h3]; rfl, by rw [h3]; exact fun z => by cases z⟩, h4⟩
def z_cst (G : z_G) (U : State) : Prop :=
  (∀ k q q' : Nat, z_k G k q → z_k G k q' → q = q') ∧ (∀ k q : Nat, k < 6 ∨ 8 ≤ k → z_k G k q → ¬ z_b G ≤ q) ∧
  (∀ x ∈ z_zst, ∃ v, z_cv G x.2.2.2 v ∧ va_Z x.1 x.2.1 x.2.2.1 v (fun q => z_b G ≤ q) U U.heap) ∧
  (∀ k q : Nat, k < 2 → z_k G k q → ∃ f, z_vT G (.object "java/lang/Object") q 0 f U) ∧
  (∀ q : Nat, z_k G 2 q → ∃ f, z_vT G (.object "java/lang/Integer") q 256 f U ∧ ∀ j, j < 256 → ∃ r, f j = .ref r ∧ z_k G (1000 + j) r) ∧
  (∀ k q : Nat, (k = 3 ∨ k = 4) → z_k G k q → ∃ f, z_vT G .byte q 100 f U ∧ ∀ j, j < 100 → ∃ x, f j = .int x) ∧
  (∀ j q : Nat, j < 256 → z_k G (1000 + j) q → z_OB q (z_dC G 2) 1 (z_dI G 2) U.heap (fun _ => .int (z_cn j).toInt32)) ∧
  (∃ q : Nat, z_k G 6 q ∧ va_Mi "[Ljava/lang/Object;" q U) ∧
  (∀ (i : Nat) (t : String × Nat × String), z_strs[i]? = some t → t.1 = "LoopdefaultsModel" ∨ t.1 = "LoopdefaultsModel$Hearer" → ∃ a bq : Nat, z_k G (10 + i) a ∧ z_k G (50 + i) bq ∧ vk_R t.1 t.2.1 t.2.2 a U ∧
    z_OB a (z_dC G 0) 2 (z_dI G 0) U.heap (vp_V [.ref bq, .int 0])) ∧
  (∀ (i q : Nat) (t : String × Nat × String), z_strs[i]? = some t → z_k G (50 + i) q → ∃ f, z_vT G .byte q t.2.2.length f U ∧ ∀ j, j < t.2.2.length → ∃ x, f j = .int x ∧ fits .byte (.int x) = true) ∧
  (∀ k q : Nat, k < 2 → z_k G k q → va_O "[Ljava/lang/Object;" q (fun q => z_b G ≤ q) U U.heap) ∧ (∃ q : Nat, z_k G 7 q ∧ va_Mi "java/util/ArrayList" q U) ∧ z_Fi U
theorem z_OBm {G : z_G} {u U : State} {q N : Nat} {cC : ClassId} {iS : Nat → Nat} {V : Nat → Value} (hh : ∀ q : Nat, q < u.heap.size → ¬ z_b G ≤ q → U.heap[q]? = u.heap[q]?) (hq : ¬ z_b G ≤ q) (h : z_OB q cC N iS u.heap V) : z_OB q cC N iS U.heap V := by
  obtain ⟨cell, h1, h2⟩ := h
  exact ⟨cell, by rw [hh q (Array.getElem?_eq_some_iff.mp h1).1 hq]; exact h1, h2⟩
theorem z_cstm {G : z_G} {u U : State} (h : z_cst G u) (hW : u.WarmedH U.vm) (hh : ∀ q : Nat, q < u.heap.size → ¬ z_b G ≤ q → U.heap[q]? = u.heap[q]?) : z_cst G U := by
  obtain ⟨h1, h2, h3, h4, h5, h6, h7, h8, h9, h10, h11, h12, h13⟩ := h
  have hT : ∀ {ty : FieldType} {q N : Nat} {f : Nat → Value}, z_vT G ty q N f u → z_vT G ty q N f U := fun h => va_T.moved hW.alike (h.kept hh)
  refine ⟨h1, h2, fun x hx => ?_, fun k q hk hq => ?_, fun q hq => ?_, fun k q hk hq => ?_, fun j q hj hq => z_OBm hh (h2 _ _ (Or.inr (by omega)) hq) (h7 j q hj hq), ?_, fun i t hi ht => ?_, fun i q t hi hq => ?_, fun k q hk hq => ?_, ?_, h13.moved hW.alike⟩
  · obtain ⟨v, hv, hz⟩ := h3 x hx
    exact ⟨v, hv, va_Z.moved hW.alike (hz.kept hh)⟩
  · obtain ⟨f, hf⟩ := h4 k q hk hq
    exact ⟨f, hT hf⟩
  · obtain ⟨f, hf, hr⟩ := h5 q hq
    exact ⟨f, hT hf, hr⟩
  · obtain ⟨f, hf, hr⟩ := h6 k q hk hq
    exact ⟨f, hT hf, hr⟩
  · obtain ⟨q, hq, hm⟩ := h8
    exact ⟨q, hq, hm.moved hW.alike⟩
  · obtain ⟨a, bq, ha, hbq, hR, hO⟩ := h9 i t hi ht
    exact ⟨a, bq, ha, hbq, vk_R.warm hW hR, z_OBm hh (h2 _ _ (Or.inr (by omega)) ha) hO⟩
  · obtain ⟨f, hf, hr⟩ := h10 i q t hi hq
    exact ⟨f, hT hf, hr⟩
  · obtain ⟨cell, o1, o2, o3, o4⟩ := h11 k q hk hq
    exact va_O.moved hW.alike ⟨cell, by rw [hh q (Array.getElem?_eq_some_iff.mp o1).1 o4]; exact o1, o2, o3, o4⟩
  · obtain ⟨q, hq, hm⟩ := h12
    exact ⟨q, hq, hm.moved hW.alike⟩
def z_scr (G : z_G) (U : State) : Prop := ∀ q : Nat, z_k G 8 q → ∃ f, z_vT G .int q (z_sn G) f U ∧ ∀ j, j < z_sn G → f j = .int (z_sc G j)
def z_env (G : z_G) (U : State) : Prop :=
  (∀ (c : Nat) (q : vw_C), z_cls[c]? = some q → u_Kn U q.1 q.2.1 q.2.2 (z_dC G c) (z_dI G c)) ∧ (∀ (k : Nat) (ty : FieldType), z_tyl[k]? = some ty → ArrOfT U (z_dA G k) ty ∧ va_RA U (z_dA G k) ty) ∧
  (∀ w ∈ z_nst, va_Nw w U) ∧ (∀ x ∈ z_strs, ∃ a : Nat, vk_R x.1 x.2.1 x.2.2 a U) ∧ ((∀ x ∈ z_ncs, va_Nc x.1 x.2 U) ∧ z_scr G U) ∧ z_zq G "UNASSIGNED_STACK" Bundle.steD U U.heap ∧ z_zq G "SUPPRESSED_SENTINEL" Bundle.listD U U.heap ∧ z_cst G U
theorem z_envm {G : z_G} {u U : State} (h : z_env G u) (hW : u.WarmedH U.vm) (hh : ∀ q : Nat, q < u.heap.size → ¬ z_b G ≤ q → U.heap[q]? = u.heap[q]?) : z_env G U := by
  obtain ⟨h1, h2, h3, h4, h5, h6, h7, h8⟩ := h
  refine ⟨fun c q hq => u_Kn_moved hW.alike (h1 c q hq), fun k ty hk => ⟨arrOfT_moved hW.alike (h2 k ty hk).1, (h2 k ty hk).2.moved hW.alike⟩, fun w hw => z_nstm (List.mem_filter.mp hw).2 hW (h3 w hw), fun x hx => ?_, ⟨fun x hx => va_Nc.moved hW.alike (h5.1 x hx), fun q hq => by obtain ⟨f, hf, hr⟩ := h5.2 q hq; exact ⟨f, va_T.moved hW.alike (hf.kept hh), hr⟩⟩, vx_Zq.moved hW.alike (h6.kept hh), vx_Zq.moved hW.alike (h7.kept hh), z_cstm h8 hW hh⟩
  obtain ⟨a, ha⟩ := h4 x hx
  exact ⟨a, vk_R.warm hW ha⟩
abbrev z_M : Type := MethodName × ByteArray × Nat × Option FieldType × List (Nat × Nat × Nat × Nat)
def z_code (y : z_M) : Cond := match y.2.2.2.2 with
  | [] => Cond.code y.1 y.2.1 y.2.2.1 y.2.2.2.1
  | hh => Cond.codeWith y.1 y.2.1 y.2.2.1 y.2.2.2.1 hh
def z_ws (y : z_M) : List Cond := z_code y :: z_tbl
def z_rm (rk mc ms : Nat) : Room := { frames := rk, cells := mc, slots := ms, locals := 40 * rk }
def z_O (P : Value → Value → Prop) : Option Value → Option Value → Prop
  | none, none => True
  | some a, some b => P a b
  | _, _ => False
abbrev z_S : Type := Nat × Nat × Nat × z_W × (Option Value → z_W → Prop) × (String → z_W → Prop)
def z_Pc (G : z_G) (R0 : z_R) (w0 : z_W) (av : List Value) : Array Value → State → Prop := fun a U =>
  (∃ cav : List Value, a = cav.toArray ∧ z_L (z_V G R0 w0) av cav) ∧ z_env G U ∧ z_P G R0 w0 U.heap ∧ z_b G ≤ U.heap.size
def z_Qc (G : z_G) (R0 : z_R) (w0 : z_W) (Q : Option Value → z_W → Prop) : Array Value → State → Outcome → State → Prop := fun _ st o t =>
  ∃ (v cv : Option Value) (R : z_R) (w : z_W), o = .returned cv ∧ z_O (z_V G R w) v cv ∧ Q v w ∧ z_P G R w t.heap ∧ z_T R0 w0 st.heap.size R w ∧ va_F (z_A R0 w0 st.heap.size) st t
def z_Xc (G : z_G) (R0 : z_R) (w0 : z_W) (X : String → z_W → Prop) : String → State → State → Prop := fun E st t =>
  ∃ (R : z_R) (w : z_W), X E w ∧ z_P G R w t.heap ∧ z_T R0 w0 st.heap.size R w ∧ va_F (z_A R0 w0 st.heap.size) st t
def z_Con (G : z_G) (l : Launch) (y : z_M) (rk mc ms : Nat) (w0 : z_W) (av : List Value) (Q : Option Value → z_W → Prop) (X : String → z_W → Prop) : Prop :=
  ∀ R0 : z_R, vx_Met l y.1 (z_ws y) (z_rm rk mc ms) (z_Pc G R0 w0 av) (z_Qc G R0 w0 Q) (z_Xc G R0 w0 X) mc ms (fun q => z_b G ≤ q)
def z_ok (G : z_G) (l : Launch) (y : z_M) (S : z_S) (p : Program) (s : State) (m : MethodId) (args : Array Value) (meth : Method) (c : Code) (R0 : z_R) : Prop :=
  p.tables.exec = Jvm.exec ∧ c.code = y.2.1 ∧ c.maxLocals = y.2.2.1 ∧ meth.sig.returnType = y.2.2.2.1 ∧ meth.locks = false ∧ s.vm.findClass y.1.cls = some m.cls ∧ (∀ w ∈ z_tbl, w.before args s = true) ∧ z_env G s ∧
  z_P G R0 S.2.2.2.1 s.heap ∧ z_b G ≤ s.heap.size ∧ c.exceptionTable.toList = tableOf y.2.2.2.2 ∧ meth.name = y.1.name ∧ l.stackTraces = false
def z_at (G : z_G) (S : z_S) (R0 : z_R) (s : State) (R : z_R) (w : z_W) (H : Heap) (locs : List Loc) : Prop :=
  z_P G R w H ∧ z_T R0 S.2.2.2.1 s.heap.size R w ∧ z_fr G (z_A R0 S.2.2.2.1 s.heap.size) s.heap H locs
def z_J (G : z_G) (l : Launch) (y : z_M) (S : z_S) (pc : Nat) (lo : List (Nat × Value)) (st : List Value) (w : z_W) (kc ks : Nat) : Prop :=
  ∀ (p : Program) (e : Env) (s : State) (m : MethodId) (args : Array Value) (below : List Frame) (meth : Method) (c : Code) (R0 : z_R), z_ok G l y S p s m args meth c R0 →
    ∀ (R : z_R) (H : Heap) (locs : List Loc) (ls : Array Slot) (cst : List Value), z_at G S R0 s R w H locs → z_lo G R w lo ls c.maxLocals → z_L (z_V G R w) st cst →
      W p l e (z_rm S.1 S.2.1 S.2.2.1) s m args below meth c H locs kc ks (vx_MQ below (z_Qc G R0 S.2.2.2.1 S.2.2.2.2.1) (z_Xc G R0 S.2.2.2.1 S.2.2.2.2.2) args s S.2.1 S.2.2.1 (fun q => z_b G ≤ q)) (F0 m pc ls cst)
theorem z_Pc_blind {G : z_G} {R0 : z_R} {w0 : z_W} {av : List Value} : FrameBlind (z_Pc G R0 w0 av) := by
  intro a U g mk h
  obtain ⟨h1, h2, h3, h4⟩ := h
  exact ⟨h1, z_envm (U := U.calling g mk a) h2 (State.WarmedH.refl U) (fun _ _ _ => rfl), h3, h4⟩
section ZB
variable {G : z_G} {l : Launch} {y : z_M} {rk mc ms : Nat} {w0 : z_W} {av : List Value} {Q : Option Value → z_W → Prop} {X : String → z_W → Prop}
theorem z_start {G : z_G} {l : Launch} {y : z_M} {S : z_S} {p : Program} {s : State} {m : MethodId} {args : Array Value} {meth : Method} {c : Code} {R0 : z_R} (h : z_ok G l y S p s m args meth c R0) : z_at G S R0 s R0 S.2.2.2.1 s.heap [] :=
  ⟨h.2.2.2.2.2.2.2.2.1, z_T.rf, Nat.le_refl _, fun _ _ _ => rfl, fun _ hx => by cases hx⟩
theorem z_lgl {R : z_R} : ∀ {as bs : List Value}, z_L (z_V G R w0) as bs → (lg_sl bs).length = (lg_sl as).length
  | [], [], _ => rfl
  | _ :: _, [], h => h.elim
  | [], _ :: _, h => h.elim
  | a :: as, b :: bs, h => by
    have e := z_lgl (as := as) (bs := bs) h.2
    unfold lg_sl at e ⊢
    rw [List.flatMap_cons, List.flatMap_cons, List.length_append, List.length_append, e, z_V_cat h.1]
    by_cases hc : a.category = 2
    · rw [if_pos hc, if_pos hc]; rfl
    · rw [if_neg hc, if_neg hc]; rfl
theorem z_body (hl : l.stackTraces = false) (hy : plainName y.1.cls = true) (hh : y.2.2.2.2 = []) (hn : (lg_sl av).length ≤ y.2.2.1) (h : z_J G l y (rk, mc, ms, w0, Q, X) 0 (lv_args 0 av) [] w0 0 0) : z_Con G l y rk mc ms w0 av Q X := by
  obtain ⟨yn, yb, yl, yr, yt⟩ := y
  have hh : yt = [] := hh
  subst hh
  intro R0
  refine vx_ofW (cc := yb) (maxL := yl) (ret := yr) (ws' := z_tbl) hy rfl ?_
  intro p e s m args below meth c s₁ B hml ht hv
  obtain ⟨⟨cav, rfl, hav⟩, henv, hP, hb⟩ := hv
  have hts : ∀ w ∈ z_tbl, w.before cav.toArray s = true := fun w hw => atoms_spec (ws := z_ws (yn, yb, yl, yr, [])) B.pre w (List.mem_cons_of_mem _ hw)
  have htab : c.exceptionTable.toList = tableOf [] := by
    cases hc : c.exceptionTable.toList with
    | nil => rfl
    | cons x t => exact (ht x (by rw [hc]; exact List.mem_cons_self)).elim
  have hok : z_ok G l (yn, yb, yl, yr, []) (rk, mc, ms, w0, Q, X) p s m cav.toArray meth c R0 :=
    ⟨B.exec, B.bytes, hml, B.returns, B.notSynchronized, findClass_of_methodNamed B.named, hts, henv, hP, hb, htab, (name_of_methodNamed B.named B.method).1, hl⟩
  rw [lg_entry_eq]
  refine h p e s m cav.toArray below meth c R0 hok R0 s.heap [] _ [] (z_start hok) ⟨lv_args 0 cav, ?_, z_LLar (fun _ _ => z_V_cat) hav⟩ trivial
  rw [hml]
  exact lv_entry cav (by rw [z_lgl hav]; exact hn)
theorem z_bodyW (hl : l.stackTraces = false) (hy : plainName y.1.cls = true) (hh : y.2.2.2.2 ≠ []) (hn : (lg_sl av).length ≤ y.2.2.1) (h : z_J G l y (rk, mc, ms, w0, Q, X) 0 (lv_args 0 av) [] w0 0 0) : z_Con G l y rk mc ms w0 av Q X := by
  obtain ⟨yn, yb, yl, yr, yt⟩ := y
  cases yt with
  | nil => exact absurd rfl hh
  | cons t0 t1 =>
  intro R0
  refine vx_ofWH (cc := yb) (maxL := yl) (ret := yr) (ws' := z_tbl) (hh := t0 :: t1) hy rfl ?_
  intro p e s m args below meth c s₁ B hml hv
  obtain ⟨⟨cav, rfl, hav⟩, henv, hP, hb⟩ := hv
  have hts : ∀ w ∈ z_tbl, w.before cav.toArray s = true := fun w hw => atoms_spec (ws := z_ws (yn, yb, yl, yr, t0 :: t1)) B.pre w (List.mem_cons_of_mem _ hw)
  have htab : c.exceptionTable.toList = tableOf (t0 :: t1) := vx_table (x := yn) B (atoms_spec (ws := z_ws (yn, yb, yl, yr, t0 :: t1)) B.pre _ List.mem_cons_self)
  have hok : z_ok G l (yn, yb, yl, yr, t0 :: t1) (rk, mc, ms, w0, Q, X) p s m cav.toArray meth c R0 :=
    ⟨B.exec, B.bytes, hml, B.returns, B.notSynchronized, findClass_of_methodNamed B.named, hts, henv, hP, hb, htab, (name_of_methodNamed B.named B.method).1, hl⟩
  rw [lg_entry_eq]
  refine h p e s m cav.toArray below meth c R0 hok R0 s.heap [] _ [] (z_start hok) ⟨lv_args 0 cav, ?_, z_LLar (fun _ _ => z_V_cat) hav⟩ trivial
  rw [hml]
  exact lv_entry cav (by rw [z_lgl hav]; exact hn)
end ZB
