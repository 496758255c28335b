section ZEnv
variable {args : Array Value} {s : State}
theorem zs_inst {C : String} {T : u_T} {N n : Nat} (hts : ∀ w ∈ lw_tbl, w.before args s = true) (hin : ∀ w ∈ u_ws C T N, w ∈ z_tbl) (i : Nat) (hi : lw_tbl[i]? = some (Cond.instantiable C n)) : ∃ d : ClassId × (Nat → Nat), u_Kn s C T N d.1 d.2 := by
  obtain ⟨c, f, h⟩ := u_known (ws := z_tbl) (fun w hw => hts w (List.mem_filter.mp hw).1) hin (hts _ (List.mem_of_getElem? hi))
  exact ⟨(c, f), h⟩
theorem zs_cls (hts : ∀ w ∈ lw_tbl, w.before args s = true) : ∃ D : Nat → ClassId × (Nat → Nat), ∀ (c : Nat) (q : vw_C), z_cls[c]? = some q → u_Kn s q.1 q.2.1 q.2.2 (D c).1 (D c).2 := by
  have h : ∀ c : Nat, ∃ d : ClassId × (Nat → Nat), ∀ q : vw_C, z_cls[c]? = some q → u_Kn s q.1 q.2.1 q.2.2 d.1 d.2 := by
    intro c
    match c with
    | 0 =>
      obtain ⟨d, hd⟩ := zs_inst (n := 4) hts iJ0 729 (by decide +kernel)
      exact ⟨d, fun q hq => by cases hq; exact hd⟩
    | 1 =>
      obtain ⟨d, hd⟩ := zs_inst (n := 4) hts iJ4 565 (by decide +kernel)
      exact ⟨d, fun q hq => by cases hq; exact hd⟩
    | 2 =>
      obtain ⟨d, hd⟩ := zs_inst (n := 1) hts iJ6 1527 (by decide +kernel)
      exact ⟨d, fun q hq => by cases hq; exact hd⟩
    | 3 =>
      obtain ⟨d, hd⟩ := zs_inst (n := 4) hts iJx35411 1746 (by decide +kernel)
      exact ⟨d, fun q hq => by cases hq; exact hd⟩
    | 4 =>
      obtain ⟨d, hd⟩ := zs_inst (n := 3) hts iJx4a65c 1342 (by decide +kernel)
      exact ⟨d, fun q hq => by cases hq; exact hd⟩
    | 5 =>
      obtain ⟨d, hd⟩ := zs_inst (n := 6) hts iX0 158 (by decide +kernel)
      exact ⟨d, fun q hq => by cases hq; exact hd⟩
    | 6 =>
      obtain ⟨d, hd⟩ := zs_inst (n := 4) hts iX1 92 (by decide +kernel)
      exact ⟨d, fun q hq => by cases hq; exact hd⟩
    | 7 =>
      obtain ⟨d, hd⟩ := zs_inst (n := 5) hts iX2 240 (by decide +kernel)
      exact ⟨d, fun q hq => by cases hq; exact hd⟩
    | 8 =>
      obtain ⟨d, hd⟩ := zs_inst (n := 6) hts iX3 1154 (by decide +kernel)
      exact ⟨d, fun q hq => by cases hq; exact hd⟩
    | 9 =>
      obtain ⟨d, hd⟩ := zs_inst (n := 5) hts iX4 128 (by decide +kernel)
      exact ⟨d, fun q hq => by cases hq; exact hd⟩
    | 10 =>
      obtain ⟨d, hd⟩ := zs_inst (n := 5) hts iX5 1107 (by decide +kernel)
      exact ⟨d, fun q hq => by cases hq; exact hd⟩
    | 11 =>
      obtain ⟨d, hd⟩ := zs_inst (n := 1) hts iX6 98 (by decide +kernel)
      exact ⟨d, fun q hq => by cases hq; exact hd⟩
    | 12 =>
      obtain ⟨d, hd⟩ := zs_inst (n := 9) hts iX8 83 (by decide +kernel)
      exact ⟨d, fun q hq => by cases hq; exact hd⟩
    | 13 =>
      obtain ⟨d, hd⟩ := zs_inst (n := 2) hts iX9 832 (by decide +kernel)
      exact ⟨d, fun q hq => by cases hq; exact hd⟩
    | 14 =>
      obtain ⟨d, hd⟩ := zs_inst (n := 5) hts iX10 1374 (by decide +kernel)
      exact ⟨d, fun q hq => by cases hq; exact hd⟩
    | 15 =>
      obtain ⟨d, hd⟩ := zs_inst (n := 8) hts iX11 1336 (by decide +kernel)
      exact ⟨d, fun q hq => by cases hq; exact hd⟩
    | c + 16 => exact ⟨(0, fun _ => 0), fun q hq => absurd (show (none : Option vw_C) = some q from hq) (fun z => by cases z)⟩
  exact Classical.axiomOfChoice h
theorem zs_arr1 {ty : FieldType} (h : (Cond.arrayClass ty).before args s = true) : ∃ c : ClassId, ArrOfT s c ty ∧ s.vm.findClass ("[" ++ ty.toString) = some c := by
  obtain ⟨c, k, comp, h1, h2, h3⟩ := Cond.arrayClass_spec h
  exact ⟨c, fun n z => ⟨(fun _ h => by cases h), k, h2, comp, h3⟩, h1⟩
theorem zs_arr2 {C : String} (h : (Cond.arrayOver (.object C)).before args s = true) : ∃ c : ClassId, ArrOfT s c (.object C) ∧ va_RA s c (.object C) := by
  obtain ⟨comp, c, k, h1, -, h2, h3, h4⟩ := Cond.arrayOver_spec h
  exact ⟨c, fun n z => ⟨(fun _ h => by cases h), k, h2, comp, h3⟩, k, comp, h2, h3, h1, h4⟩
theorem zs_specA {t : FieldType} (h : (Cond.arrayOver (.array t)).before args s = true) : ∃ comp c k, s.vm.findClass (FieldType.array t).toString = some comp ∧ s.vm.classes[c]? = some k ∧ k.kind = .array comp (.array t) ∧ s.vm.findClass ("[" ++ (FieldType.array t).toString) = some c := by
  simp only [Cond.before, Cond.holds, Cond.value, beq_iff_eq] at h
  cases hc : s.vm.findClass (FieldType.array t).toString with
  | none => simp [hc] at h
  | some comp =>
    simp only [hc, Option.bind_some, Option.bind_eq_some_iff, Option.map_eq_some_iff] at h
    obtain ⟨c, hi, k, hk, hb⟩ := h
    obtain ⟨hlt, hp, -⟩ := Array.findIdx?_eq_some_iff_getElem.mp hi
    have hkk : s.vm.classes[c] = k := (Array.getElem?_eq_some_iff.mp hk).2
    rw [hkk] at hp
    cases hkind : k.kind with
    | array component ty =>
      rw [hkind] at hb hp
      simp at hb hp
      exact ⟨comp, c, k, rfl, hk, by rw [hkind, hp, hb.1], hb.2⟩
    | _ => rw [hkind] at hb; simp at hb
theorem zs_arr3 {t : FieldType} (h : (Cond.arrayOver (.array t)).before args s = true) : ∃ c : ClassId, ArrOfT s c (.array t) ∧ va_RA s c (.array t) := by
  obtain ⟨comp, c, k, h1, h2, h3, h4⟩ := zs_specA h
  exact ⟨c, fun n z => ⟨(fun _ h => by cases h), k, h2, comp, h3⟩, h4⟩
theorem zs_arr (hts : ∀ w ∈ lw_tbl, w.before args s = true) : ∃ D : Nat → ClassId, ∀ (k : Nat) (ty : FieldType), z_tyl[k]? = some ty → ArrOfT s (D k) ty ∧ va_RA s (D k) ty := by
  have h : ∀ k : Nat, ∃ d : ClassId, ∀ ty : FieldType, z_tyl[k]? = some ty → ArrOfT s d ty ∧ va_RA s d ty := by
    intro k
    match k with
    | 0 =>
      obtain ⟨d, hd⟩ := zs_arr1 (ty := .int) (hts _ (List.mem_of_getElem? (i := 107) ((lwt_1_2 2).trans rfl)))
      exact ⟨d, fun ty hty => by cases hty; exact hd⟩
    | 1 =>
      obtain ⟨d, hd⟩ := zs_arr1 (ty := .boolean) (hts _ (List.mem_of_getElem? (i := 1401) ((lwt_6_5 6).trans rfl)))
      exact ⟨d, fun ty hty => by cases hty; exact hd⟩
    | 2 =>
      obtain ⟨d, hd⟩ := zs_arr1 (ty := .byte) (hts _ (List.mem_of_getElem? (i := 525) ((lwg_3 0).trans rfl)))
      exact ⟨d, fun ty hty => by cases hty; exact hd⟩
    | 3 =>
      obtain ⟨d, hd⟩ := zs_arr2 (C := "java/lang/Object") (hts _ (List.mem_of_getElem? (i := 1449) ((lwt_6_6 24).trans rfl)))
      exact ⟨d, fun ty hty => by cases hty; exact hd⟩
    | 4 =>
      obtain ⟨d, hd⟩ := zs_arr2 (C := "Loopdefaults$Row") (hts _ (List.mem_of_getElem? (i := 91) ((lwt_1_1 16).trans rfl)))
      exact ⟨d, fun ty hty => by cases hty; exact hd⟩
    | 5 =>
      obtain ⟨d, hd⟩ := zs_arr2 (C := "Loopdefaults$Table") (hts _ (List.mem_of_getElem? (i := 155) ((lwt_1_3 20).trans rfl)))
      exact ⟨d, fun ty hty => by cases hty; exact hd⟩
    | 6 =>
      obtain ⟨d, hd⟩ := zs_arr2 (C := "Loopdefaults$Hearer") (hts _ (List.mem_of_getElem? (i := 157) ((lwt_1_3 22).trans rfl)))
      exact ⟨d, fun ty hty => by cases hty; exact hd⟩
    | 7 =>
      obtain ⟨d, hd⟩ := zs_arr2 (C := "LoopdefaultsModel$Hearer") (hts _ (List.mem_of_getElem? (i := 1373) ((lwt_6_4 8).trans rfl)))
      exact ⟨d, fun ty hty => by cases hty; exact hd⟩
    | 8 =>
      obtain ⟨d, hd⟩ := zs_arr3 (t := .int) (hts _ (List.mem_of_getElem? (i := 1371) ((lwt_6_4 6).trans rfl)))
      exact ⟨d, fun ty hty => by cases hty; exact hd⟩
    | k + 9 => exact ⟨0, fun ty hq => absurd (show (none : Option FieldType) = some ty from hq) (fun z => by cases z)⟩
  exact Classical.axiomOfChoice h
theorem zs_nst (hts : ∀ w ∈ lw_tbl, w.before args s = true) : ∀ w ∈ z_nst, va_Nw w s := by
  intro w hw
  have h := hts w (List.mem_filter.mp hw).1
  have hz := (List.mem_filter.mp hw).2
  unfold z_isN at hz
  split at hz
  · exact va_Nw.of rfl h
  · exact va_Nw.of rfl h
  · exact va_Nw.of rfl h
  · exact va_Nw.of rfl h
  · exact va_Nw.of rfl h
  · exact h
  · exact h
  · cases hz
theorem zs_str1 {own tx : String} {k : Nat} (h1 : (Cond.stringRef own k tx).before args s = true) (h2 : (Cond.exactly (.string own k) "java/lang/String").before args s = true) : ∃ a : Nat, vk_R own k tx a s := by
  obtain ⟨a, c, cA, kA, q1, -⟩ := Cond.exactly_spec (args := args) (first := s) (o := none) (s := s) (idx := []) (t := .string own k) (cls := "java/lang/String") h2
  exact ⟨a, vk_R.of h1 q1⟩
theorem zs_strs (hts : ∀ w ∈ lw_tbl, w.before args s = true) (hs : ∀ c ∈ flatC (Jvm.Cond.and given_1 narrow_1), c.before args s = true) : ∀ x ∈ z_strs, ∃ a : Nat, vk_R x.1 x.2.1 x.2.2 a s := by
  exact List.forall_mem_cons.mpr ⟨zs_str1 (own := "Loopdefaults") (k := 304) (tx := "the number is out of its range") (hts _ (List.mem_of_getElem? (i := 499) ((lwt_2_7 4).trans rfl))) (hs _ (List.mem_of_getElem? (i := 394) (by decide +kernel))), List.forall_mem_cons.mpr ⟨zs_str1 (own := "java/util/Arrays") (k := 337) (tx := " > ") (hts _ (List.mem_of_getElem? (i := 764) ((lwt_3_7 29).trans rfl))) (hs _ (List.mem_of_getElem? (i := 428) (by decide +kernel))), List.forall_mem_cons.mpr ⟨zs_str1 (own := "Loopdefaults") (k := 296) (tx := "there is no such row") (hts _ (List.mem_of_getElem? (i := 867) ((lwt_4_3 12).trans rfl))) (hs _ (List.mem_of_getElem? (i := 436) (by decide +kernel))), List.forall_mem_cons.mpr ⟨zs_str1 (own := "Loopdefaults") (k := 60) (tx := "the row is full") (hts _ (List.mem_of_getElem? (i := 890) ((lwt_4_4 5).trans rfl))) (hs _ (List.mem_of_getElem? (i := 462) (by decide +kernel))), List.forall_mem_cons.mpr ⟨zs_str1 (own := "Loopdefaults") (k := 300) (tx := "there is no such hearer") (hts _ (List.mem_of_getElem? (i := 930) ((lwt_4_5 15).trans rfl))) (hs _ (List.mem_of_getElem? (i := 484) (by decide +kernel))), List.forall_mem_cons.mpr ⟨zs_str1 (own := "Loopdefaults") (k := 307) (tx := "the rule is not one of these") (hts _ (List.mem_of_getElem? (i := 981) ((lwt_4_7 6).trans rfl))) (hs _ (List.mem_of_getElem? (i := 515) (by decide +kernel))), List.forall_mem_cons.mpr ⟨zs_str1 (own := "Loopdefaults") (k := 298) (tx := "there is no such table") (hts _ (List.mem_of_getElem? (i := 1026) ((lwg_5 21).trans rfl))) (hs _ (List.mem_of_getElem? (i := 552) (by decide +kernel))), List.forall_mem_cons.mpr ⟨zs_str1 (own := "Loopdefaults") (k := 200) (tx := "there is no such place") (hts _ (List.mem_of_getElem? (i := 1235) ((lwt_5_7 20).trans rfl))) (hs _ (List.mem_of_getElem? (i := 584) (by decide +kernel))), List.forall_mem_cons.mpr ⟨zs_str1 (own := "java/util/ArrayList") (k := 201) (tx := "Index: ") (hts _ (List.mem_of_getElem? (i := 1683) ((lwt_7_6 18).trans rfl))) (hs _ (List.mem_of_getElem? (i := 617) (by decide +kernel))), List.forall_mem_cons.mpr ⟨zs_str1 (own := "java/util/ArrayList") (k := 203) (tx := ", Size: ") (hts _ (List.mem_of_getElem? (i := 1686) ((lwt_7_6 21).trans rfl))) (hs _ (List.mem_of_getElem? (i := 636) (by decide +kernel))), List.forall_mem_cons.mpr ⟨zs_str1 (own := "LoopdefaultsModel") (k := 208) (tx := "") (hts _ (List.mem_of_getElem? (i := 1847) ((lwt_8_4 2).trans rfl))) (hs _ (List.mem_of_getElem? (i := 657) (by decide +kernel))), List.forall_mem_cons.mpr ⟨zs_str1 (own := "LoopdefaultsModel$Hearer") (k := 75) (tx := " ") (hts _ (List.mem_of_getElem? (i := 1862) ((lwt_8_4 17).trans rfl))) (hs _ (List.mem_of_getElem? (i := 671) (by decide +kernel))), List.forall_mem_cons.mpr ⟨zs_str1 (own := "LoopdefaultsModel$Hearer") (k := 77) (tx := "") (hts _ (List.mem_of_getElem? (i := 1863) ((lwt_8_4 18).trans rfl))) (hs _ (List.mem_of_getElem? (i := 687) (by decide +kernel))), List.forall_mem_cons.mpr ⟨zs_str1 (own := "LoopdefaultsModel") (k := 220) (tx := " ") (hts _ (List.mem_of_getElem? (i := 1882) ((lwt_8_5 7).trans rfl))) (hs _ (List.mem_of_getElem? (i := 703) (by decide +kernel))), List.forall_mem_cons.mpr ⟨zs_str1 (own := "LoopdefaultsModel") (k := 232) (tx := "=") (hts _ (List.mem_of_getElem? (i := 1922) ((lwt_8_6 17).trans rfl))) (hs _ (List.mem_of_getElem? (i := 721) (by decide +kernel))), fun _ h => by cases h⟩⟩⟩⟩⟩⟩⟩⟩⟩⟩⟩⟩⟩⟩⟩
theorem zs_ncs (hs : ∀ c ∈ flatC (Jvm.Cond.and given_1 narrow_1), c.before args s = true) : ∀ x ∈ z_ncs, va_Nc x.1 x.2 s := by
  exact List.forall_mem_cons.mpr ⟨va_Nc.of (hs _ (List.mem_of_getElem? (i := 240) (by decide +kernel))), List.forall_mem_cons.mpr ⟨va_Nc.of (hs _ (List.mem_of_getElem? (i := 241) (by decide +kernel))), List.forall_mem_cons.mpr ⟨va_Nc.of (hs _ (List.mem_of_getElem? (i := 258) (by decide +kernel))), List.forall_mem_cons.mpr ⟨va_Nc.of (hs _ (List.mem_of_getElem? (i := 259) (by decide +kernel))), List.forall_mem_cons.mpr ⟨va_Nc.of (hs _ (List.mem_of_getElem? (i := 276) (by decide +kernel))), List.forall_mem_cons.mpr ⟨va_Nc.of (hs _ (List.mem_of_getElem? (i := 277) (by decide +kernel))), fun _ h => by cases h⟩⟩⟩⟩⟩⟩
abbrev zs_A (s : State) : Nat → Prop := fun q => s.heap.size ≤ q
theorem zs_Ao : ∀ a : Nat, a < s.heap.size → ¬ zs_A s a := fun a h => Nat.not_le.mpr h
theorem zs_q1 (hts : ∀ w ∈ lw_tbl, w.before args s = true) (hs : ∀ c ∈ flatC (Jvm.Cond.and given_1 narrow_1), c.before args s = true) : vx_Zq Bundle.tN "UNASSIGNED_STACK" Bundle.steD (zs_A s) s s.heap := vx_Zqof (hts _ (List.mem_of_getElem? (i := 485) ((lwt_2_6 20).trans rfl))) (hts _ (List.mem_of_getElem? (i := 61) ((lwg_1 16).trans rfl))) (hs _ (List.mem_of_getElem? (i := 4) (by decide +kernel))) zs_Ao
theorem zs_q2 (hts : ∀ w ∈ lw_tbl, w.before args s = true) (hs : ∀ c ∈ flatC (Jvm.Cond.and given_1 narrow_1), c.before args s = true) : vx_Zq Bundle.tN "SUPPRESSED_SENTINEL" Bundle.listD (zs_A s) s s.heap := vx_Zqof (hts _ (List.mem_of_getElem? (i := 487) ((lwt_2_6 22).trans rfl))) (hts _ (List.mem_of_getElem? (i := 61) ((lwg_1 16).trans rfl))) (hs _ (List.mem_of_getElem? (i := 5) (by decide +kernel))) zs_Ao
theorem zs_Fi (hts : ∀ w ∈ lw_tbl, w.before args s = true) : z_Fi s := ⟨va_Fw.of (hts _ (List.mem_of_getElem? (i := 1623) ((lwt_7_4 18).trans rfl))) (hts _ (List.mem_of_getElem? (i := 1622) ((lwt_7_4 17).trans rfl))) (hts _ (List.mem_of_getElem? (i := 1628) ((lwt_7_4 23).trans rfl))) (hts _ (List.mem_of_getElem? (i := 1626) ((lwt_7_4 21).trans rfl))) (hts _ (List.mem_of_getElem? (i := 1624) ((lwt_7_4 19).trans rfl))),
  va_Fw.of (hts _ (List.mem_of_getElem? (i := 1767) ((lwt_8_1 12).trans rfl))) (hts _ (List.mem_of_getElem? (i := 1766) ((lwt_8_1 11).trans rfl))) (hts _ (List.mem_of_getElem? (i := 1772) ((lwt_8_1 17).trans rfl))) (hts _ (List.mem_of_getElem? (i := 1770) ((lwt_8_1 15).trans rfl))) (hts _ (List.mem_of_getElem? (i := 1768) ((lwt_8_1 13).trans rfl))),
  va_Fw.of (hts _ (List.mem_of_getElem? (i := 1777) ((lwt_8_1 22).trans rfl))) (hts _ (List.mem_of_getElem? (i := 1776) ((lwt_8_1 21).trans rfl))) (hts _ (List.mem_of_getElem? (i := 1781) ((lwt_8_1 26).trans rfl))) (hts _ (List.mem_of_getElem? (i := 1779) ((lwt_8_1 24).trans rfl))) (hts _ (List.mem_of_getElem? (i := 1768) ((lwt_8_1 13).trans rfl))),
  va_Nw.of (A := args) rfl (hts _ (List.mem_of_getElem? (i := 1632) ((lwt_7_4 27).trans rfl))), va_Nw.of (A := args) rfl (hts _ (List.mem_of_getElem? (i := 1633) ((lwt_7_4 28).trans rfl))), va_Nw.of (A := args) rfl (hts _ (List.mem_of_getElem? (i := 1635) ((lwt_7_5 0).trans rfl))), va_Nw.of (A := args) rfl (hts _ (List.mem_of_getElem? (i := 1634) ((lwt_7_4 29).trans rfl))), va_Nw.of (A := args) rfl (hts _ (List.mem_of_getElem? (i := 1624) ((lwt_7_4 19).trans rfl)))⟩
theorem zs_OB {C : String} {T : u_T} {N n q : Nat} {cC : ClassId} {iS : Nat → Nat} {V : Nat → Value} {A : Nat → Prop} (hK : u_Kn s C T N cC iS) (hO : va_O C q A s s.heap) (hn : n ≤ N) (h0 : 0 < n) (hF : ∀ k, k < n → va_OF (T k).1 (T k).2.1 (T k).2.2.1 (V k) q A s s.heap) : z_OB q cC n iS s.heap V := by
  obtain ⟨cell, h1, h2, h3, -⟩ := hO
  refine ⟨cell, h1, Option.some.inj (h3.symm.trans hK.2.1), ⟨h2, ?_⟩, fun k hk => ?_⟩
  · obtain ⟨cf, k, i, f, cell', -, -, g3, g4, -⟩ := hF 0 h0
    cases Option.some.inj (g3.symm.trans h1)
    exact g4
  · obtain ⟨cf, kf, i, f, cell', g1, -, g3, -, g5, -⟩ := hF k hk
    cases Option.some.inj (g3.symm.trans h1)
    obtain ⟨cf2, kf2, i2, f2, e1, e2⟩ := hK.1 k (Nat.lt_of_lt_of_le hk hn)
    rw [g1] at e1
    cases e1
    rw [← e2]
    exact g5
theorem zs_str {own tx : String} {k N : Nat} {f : Nat → Int32} {cC : ClassId} {iS : Nat → Nat} (hN : N < 2 ^ 31) (hK : u_Kn s RJ0 TJ0 4 cC iS) (h1 : (Cond.stringRef own k tx).before args s = true) (hex : (Cond.exactly (.string own k) "java/lang/String").before args s = true) (hco : (Cond.eq (.field (.string own k) "java/lang/String" "coder" "B") (.int 0)).before args s = true) (har : (Cond.arrayOf (.field (.string own k) "java/lang/String" "value" "[B") .byte).before args s = true) (hle : (Cond.eq (.length (.field (.string own k) "java/lang/String" "value" "[B")) (.int (Int32.ofNat N))).before args s = true)
    (hel : ∀ j : Nat, j < N → (Cond.eq (.elem (.field (.string own k) "java/lang/String" "value" "[B") (.int (Int32.ofNat j))) (.int (f j))).before args s = true) : ∃ a bq : Nat, vk_R own k tx a s ∧ z_OB a cC 2 iS s.heap (vp_V [.ref bq, .int 0]) ∧ va_T .byte bq N (fun j => .int (f j)) (zs_A s) s s.heap ∧ a < s.heap.size ∧ bq < s.heap.size := by
  obtain ⟨a, c, cA, kA, q1, q2, q3, q4, q5, q6, -⟩ := Cond.exactly_spec (args := args) (first := s) (o := none) (s := s) (idx := []) (t := .string own k) (cls := "java/lang/String") hex
  obtain ⟨t, ht, hT⟩ := va_Tof (f := fun j => .int (f j)) (A := zs_A s) hN har (va_eqt hle) (fun j hj => va_eqt (hel j hj)) zs_Ao
  have hO : va_O "java/lang/String" a (zs_A s) s s.heap := ⟨cA, q3, q5, by rw [q6]; exact q2, zs_Ao a (Array.getElem?_eq_some_iff.mp q3).1⟩
  refine ⟨a, t, vk_R.of h1 q1, zs_OB (A := zs_A s) hK hO (by decide) (by decide) (fun k hk => ?_), hT, (Array.getElem?_eq_some_iff.mp q3).1, ?_⟩
  · match k, hk with
    | 0, _ => exact vk_OFof q1 ht zs_Ao
    | 1, _ => exact vk_OFof q1 (va_eqt hco) zs_Ao
  · obtain ⟨cell, h1, -⟩ := hT
    exact (Array.getElem?_eq_some_iff.mp h1).1
theorem zs_eDigitOnes : ((flatC (Jvm.Cond.and given_1 narrow_1)).drop 14).take 100 = (List.range 100).map (fun j => Cond.eq (.elem (.static "java/lang/Integer" "DigitOnes" "[B") (.int (Int32.ofNat j))) (.int (Int32.ofNat (48 + j % 10)))) := by decide +kernel
theorem zs_DigitOnes (hts : ∀ w ∈ lw_tbl, w.before args s = true) (hs : ∀ c ∈ flatC (Jvm.Cond.and given_1 narrow_1), c.before args s = true) : ∃ q : Nat, va_T .byte q 100 (fun j => .int (Int32.ofNat (48 + j % 10))) (zs_A s) s s.heap ∧ va_Z "java/lang/Integer" "DigitOnes" "[B" (.ref q) (zs_A s) s s.heap := by
  have hm : ∀ j : Nat, j < 100 → (Cond.eq (.elem (.static "java/lang/Integer" "DigitOnes" "[B") (.int (Int32.ofNat j))) (.int (Int32.ofNat (48 + j % 10)))).before args s = true := fun j hj => by
    have h1 : Cond.eq (.elem (.static "java/lang/Integer" "DigitOnes" "[B") (.int (Int32.ofNat j))) (.int (Int32.ofNat (48 + j % 10))) ∈ ((flatC (Jvm.Cond.and given_1 narrow_1)).drop 14).take 100 := by
      rw [zs_eDigitOnes]
      exact List.mem_map.mpr ⟨j, List.mem_range.mpr hj, rfl⟩
    exact hs _ (List.mem_of_mem_drop (List.mem_of_mem_take h1))
  obtain ⟨q, hq, hT⟩ := va_Tof (tm := .static "java/lang/Integer" "DigitOnes" "[B") (ty := .byte) (N := 100) (f := fun j => .int (Int32.ofNat (48 + j % 10))) (A := zs_A s) (by decide) (hs _ (List.mem_of_getElem? (i := 12) (by decide +kernel))) (va_eqt (hs _ (List.mem_of_getElem? (i := 13) (by decide +kernel)))) (fun j hj => va_eqt (hm j hj)) zs_Ao
  exact ⟨q, hT, va_Zref (hts _ (List.mem_of_getElem? (i := 704) ((lwt_3_5 29).trans rfl))) (hts _ (List.mem_of_getElem? (i := 70) ((lwg_1 25).trans rfl))) hq zs_Ao⟩
theorem zs_eDigitTens : ((flatC (Jvm.Cond.and given_1 narrow_1)).drop 117).take 100 = (List.range 100).map (fun j => Cond.eq (.elem (.static "java/lang/Integer" "DigitTens" "[B") (.int (Int32.ofNat j))) (.int (Int32.ofNat (48 + j / 10)))) := by decide +kernel
theorem zs_DigitTens (hts : ∀ w ∈ lw_tbl, w.before args s = true) (hs : ∀ c ∈ flatC (Jvm.Cond.and given_1 narrow_1), c.before args s = true) : ∃ q : Nat, va_T .byte q 100 (fun j => .int (Int32.ofNat (48 + j / 10))) (zs_A s) s s.heap ∧ va_Z "java/lang/Integer" "DigitTens" "[B" (.ref q) (zs_A s) s s.heap := by
  have hm : ∀ j : Nat, j < 100 → (Cond.eq (.elem (.static "java/lang/Integer" "DigitTens" "[B") (.int (Int32.ofNat j))) (.int (Int32.ofNat (48 + j / 10)))).before args s = true := fun j hj => by
    have h1 : Cond.eq (.elem (.static "java/lang/Integer" "DigitTens" "[B") (.int (Int32.ofNat j))) (.int (Int32.ofNat (48 + j / 10))) ∈ ((flatC (Jvm.Cond.and given_1 narrow_1)).drop 117).take 100 := by
      rw [zs_eDigitTens]
      exact List.mem_map.mpr ⟨j, List.mem_range.mpr hj, rfl⟩
    exact hs _ (List.mem_of_mem_drop (List.mem_of_mem_take h1))
  obtain ⟨q, hq, hT⟩ := va_Tof (tm := .static "java/lang/Integer" "DigitTens" "[B") (ty := .byte) (N := 100) (f := fun j => .int (Int32.ofNat (48 + j / 10))) (A := zs_A s) (by decide) (hs _ (List.mem_of_getElem? (i := 115) (by decide +kernel))) (va_eqt (hs _ (List.mem_of_getElem? (i := 116) (by decide +kernel)))) (fun j hj => va_eqt (hm j hj)) zs_Ao
  exact ⟨q, hT, va_Zref (hts _ (List.mem_of_getElem? (i := 706) ((lwt_3_6 1).trans rfl))) (hts _ (List.mem_of_getElem? (i := 70) ((lwg_1 25).trans rfl))) hq zs_Ao⟩
theorem zs_e0 (hts : ∀ w ∈ lw_tbl, w.before args s = true) (hs : ∀ c ∈ flatC (Jvm.Cond.and given_1 narrow_1), c.before args s = true) : ∃ q : Nat, va_T (.object "java/lang/Object") q 0 (fun _ => .null) (zs_A s) s s.heap ∧ va_O "[Ljava/lang/Object;" q (zs_A s) s s.heap ∧ va_Z "java/util/ArrayList" "DEFAULTCAPACITY_EMPTY_ELEMENTDATA" "[Ljava/lang/Object;" (.ref q) (zs_A s) s s.heap := by
  obtain ⟨q, hq, hT⟩ := va_Tof (tm := .static "java/util/ArrayList" "DEFAULTCAPACITY_EMPTY_ELEMENTDATA" "[Ljava/lang/Object;") (ty := .object "java/lang/Object") (N := 0) (f := fun _ => .null) (A := zs_A s) (by decide) (hs _ (List.mem_of_getElem? (i := 218) (by decide +kernel))) (va_eqt (hs _ (List.mem_of_getElem? (i := 220) (by decide +kernel)))) (fun j hj => absurd hj (Nat.not_lt_zero j)) zs_Ao
  exact ⟨q, hT, va_Oof (hs _ (List.mem_of_getElem? (i := 219) (by decide +kernel))) hq zs_Ao, va_Zref (hts _ (List.mem_of_getElem? (i := 1354) ((lwt_6_3 19).trans rfl))) (hts _ (List.mem_of_getElem? (i := 54) ((lwg_1 9).trans rfl))) hq zs_Ao⟩
theorem zs_e1 (hts : ∀ w ∈ lw_tbl, w.before args s = true) (hs : ∀ c ∈ flatC (Jvm.Cond.and given_1 narrow_1), c.before args s = true) : ∃ q : Nat, va_T (.object "java/lang/Object") q 0 (fun _ => .null) (zs_A s) s s.heap ∧ va_O "[Ljava/lang/Object;" q (zs_A s) s s.heap ∧ va_Z "java/util/ArrayList" "EMPTY_ELEMENTDATA" "[Ljava/lang/Object;" (.ref q) (zs_A s) s s.heap := by
  obtain ⟨q, hq, hT⟩ := va_Tof (tm := .static "java/util/ArrayList" "EMPTY_ELEMENTDATA" "[Ljava/lang/Object;") (ty := .object "java/lang/Object") (N := 0) (f := fun _ => .null) (A := zs_A s) (by decide) (hs _ (List.mem_of_getElem? (i := 227) (by decide +kernel))) (va_eqt (hs _ (List.mem_of_getElem? (i := 229) (by decide +kernel)))) (fun j hj => absurd hj (Nat.not_lt_zero j)) zs_Ao
  exact ⟨q, hT, va_Oof (hs _ (List.mem_of_getElem? (i := 228) (by decide +kernel))) hq zs_Ao, va_Zref (hts _ (List.mem_of_getElem? (i := 1640) ((lwt_7_5 5).trans rfl))) (hts _ (List.mem_of_getElem? (i := 54) ((lwg_1 9).trans rfl))) hq zs_Ao⟩
theorem zs_cache (hts : ∀ w ∈ lw_tbl, w.before args s = true) (hs : ∀ c ∈ flatC (Jvm.Cond.and given_1 narrow_1), c.before args s = true) : ∃ (q : Nat) (ad : Nat → Nat), va_T (.object "java/lang/Integer") q 256 (fun j => .ref (ad j)) (zs_A s) s s.heap ∧ va_Z "java/lang/Integer$IntegerCache" "cache" "[Ljava/lang/Integer;" (.ref q) (zs_A s) s s.heap ∧ vb_C ad (zs_A s) s s.heap := by
  obtain ⟨ad, hC, hE⟩ := vb_Cof (A := zs_A s) (st := .static "java/lang/Integer$IntegerCache" "cache" "[Ljava/lang/Integer;") rfl (va_eqt (hs _ (List.mem_of_getElem? (i := 224) (by decide +kernel)))) (hs _ (List.mem_of_getElem? (i := 225) (by decide +kernel))) zs_Ao
  obtain ⟨q, hq, hT⟩ := va_Tof (tm := .static "java/lang/Integer$IntegerCache" "cache" "[Ljava/lang/Integer;") (ty := .object "java/lang/Integer") (N := 256) (f := fun j => .ref (ad j)) (A := zs_A s) (by decide) (hs _ (List.mem_of_getElem? (i := 223) (by decide +kernel))) (va_eqt (hs _ (List.mem_of_getElem? (i := 224) (by decide +kernel)))) hE zs_Ao
  exact ⟨q, ad, hT, va_Zref (hts _ (List.mem_of_getElem? (i := 1525) ((lwt_7_1 10).trans rfl))) (hts _ (List.mem_of_getElem? (i := 71) ((lwg_1 26).trans rfl))) hq zs_Ao, hC⟩
theorem zs_cn : ∀ j : Nat, j < 256 → vb_c j = (z_cn j).toInt32 := by decide +kernel
theorem zs_box {cC : ClassId} {iS : Nat → Nat} {ad : Nat → Nat} {j : Nat} (hK : u_Kn s RJ6 TJ6 1 cC iS) (hC : vb_C ad (zs_A s) s s.heap) (hj : j < 256) : z_OB (ad j) cC 1 iS s.heap (fun _ => .int (z_cn j).toInt32) ∧ ad j < s.heap.size := by
  refine ⟨zs_OB (A := zs_A s) hK (hC.1 j hj) (by decide) (by decide) (fun k hk => ?_), ?_⟩
  · match k, hk with
    | 0, _ =>
      rw [← zs_cn j hj]
      exact hC.2 j hj
  · obtain ⟨cell, h1, -⟩ := hC.1 j hj
    exact (Array.getElem?_eq_some_iff.mp h1).1
theorem zs_Tlt {ty : FieldType} {q N : Nat} {f : Nat → Value} {A : Nat → Prop} (h : va_T ty q N f A s s.heap) : q < s.heap.size := by
  obtain ⟨cell, h1, -⟩ := h
  exact (Array.getElem?_eq_some_iff.mp h1).1
def zs_ks : List Nat := [0, 1, 2, 3, 4, 6, 7, 8, 20, 21, 22, 23, 24, 60, 61, 62, 63, 64]
def zs_k (qf ad : Nat → Nat) : Nat → Nat → Prop := fun k q => (k ∈ zs_ks ∧ q = qf k) ∨ (1000 ≤ k ∧ k < 1256 ∧ q = ad (k - 1000))
theorem zs_klt : ∀ k ∈ zs_ks, k < 1000 := by decide
theorem zs_k1 {qf ad : Nat → Nat} {k q : Nat} (hk : k < 1000) (h : zs_k qf ad k q) : k ∈ zs_ks ∧ q = qf k := by
  rcases h with h | ⟨h, -, -⟩
  · exact h
  · omega
theorem zs_kfun {qf ad : Nat → Nat} {k q q' : Nat} (h : zs_k qf ad k q) (h' : zs_k qf ad k q') : q = q' := by
  rcases h with ⟨h1, h2⟩ | ⟨h1, -, h2⟩
  · exact h2.trans (zs_k1 (zs_klt k h1) h').2.symm
  · rcases h' with ⟨h3, -⟩ | ⟨-, -, h4⟩
    · have := zs_klt k h3
      omega
    · exact h2.trans h4.symm
set_option maxHeartbeats 4000000 in
theorem zs_env {b L : Nat} {xs : Nat → Int32} (hts : ∀ w ∈ lw_tbl, w.before args s = true) (hs : ∀ c ∈ flatC (Jvm.Cond.and given_1 narrow_1), c.before args s = true) (hX : va_X b L xs s s.heap) (hL : L < 2 ^ 31) : ∃ G : z_G, z_b G = s.heap.size ∧ z_sn G = L ∧ z_k G 8 b ∧ z_env G s := by
  obtain ⟨D, hD⟩ := zs_cls hts
  obtain ⟨DA, hDA⟩ := zs_arr hts
  obtain ⟨q0, hT0, hO0, hZ0⟩ := zs_e0 hts hs
  obtain ⟨q1, hT1, hO1, hZ1⟩ := zs_e1 hts hs
  obtain ⟨q2, ad, hT2, hZ2, hC⟩ := zs_cache hts hs
  obtain ⟨q3, hT3, hZ3⟩ := zs_DigitOnes hts hs
  obtain ⟨q4, hT4, hZ4⟩ := zs_DigitTens hts hs
  obtain ⟨q6, hM6⟩ := va_Mi.of (C := "[Ljava/lang/Object;") (hs _ (List.mem_of_getElem? (i := 391) (by decide +kernel)))
  obtain ⟨q7, hM7⟩ := va_Mi.of (C := "java/util/ArrayList") (hs _ (List.mem_of_getElem? (i := 392) (by decide +kernel)))
  have hb : b < s.heap.size := by
    obtain ⟨cell, h1, -⟩ := hX
    exact (Array.getElem?_eq_some_iff.mp h1).1
  obtain ⟨a10, b10, hR10, hS10, hB10, ha10, hb10⟩ := zs_str (own := "LoopdefaultsModel") (k := 208) (tx := "") (N := 0) (f := fun _ => 0) (by decide) (hD 0 _ rfl) (hts _ (List.mem_of_getElem? (i := 1847) ((lwt_8_4 2).trans rfl))) (hs _ (List.mem_of_getElem? (i := 657) (by decide +kernel))) (hs _ (List.mem_of_getElem? (i := 658) (by decide +kernel))) (hs _ (List.mem_of_getElem? (i := 659) (by decide +kernel))) (hs _ (List.mem_of_getElem? (i := 660) (by decide +kernel))) (fun j hj => absurd hj (Nat.not_lt_zero j))
  obtain ⟨a11, b11, hR11, hS11, hB11, ha11, hb11⟩ := zs_str (own := "LoopdefaultsModel$Hearer") (k := 75) (tx := " ") (N := 1) (f := fun _ => 32) (by decide) (hD 0 _ rfl) (hts _ (List.mem_of_getElem? (i := 1862) ((lwt_8_4 17).trans rfl))) (hs _ (List.mem_of_getElem? (i := 671) (by decide +kernel))) (hs _ (List.mem_of_getElem? (i := 672) (by decide +kernel))) (hs _ (List.mem_of_getElem? (i := 673) (by decide +kernel))) (hs _ (List.mem_of_getElem? (i := 674) (by decide +kernel))) (fun j hj => by cases (show j = 0 by omega); exact (hs _ (List.mem_of_getElem? (i := 675) (by decide +kernel))))
  obtain ⟨a12, b12, hR12, hS12, hB12, ha12, hb12⟩ := zs_str (own := "LoopdefaultsModel$Hearer") (k := 77) (tx := "") (N := 0) (f := fun _ => 0) (by decide) (hD 0 _ rfl) (hts _ (List.mem_of_getElem? (i := 1863) ((lwt_8_4 18).trans rfl))) (hs _ (List.mem_of_getElem? (i := 687) (by decide +kernel))) (hs _ (List.mem_of_getElem? (i := 688) (by decide +kernel))) (hs _ (List.mem_of_getElem? (i := 689) (by decide +kernel))) (hs _ (List.mem_of_getElem? (i := 690) (by decide +kernel))) (fun j hj => absurd hj (Nat.not_lt_zero j))
  obtain ⟨a13, b13, hR13, hS13, hB13, ha13, hb13⟩ := zs_str (own := "LoopdefaultsModel") (k := 220) (tx := " ") (N := 1) (f := fun _ => 32) (by decide) (hD 0 _ rfl) (hts _ (List.mem_of_getElem? (i := 1882) ((lwt_8_5 7).trans rfl))) (hs _ (List.mem_of_getElem? (i := 703) (by decide +kernel))) (hs _ (List.mem_of_getElem? (i := 704) (by decide +kernel))) (hs _ (List.mem_of_getElem? (i := 705) (by decide +kernel))) (hs _ (List.mem_of_getElem? (i := 706) (by decide +kernel))) (fun j hj => by cases (show j = 0 by omega); exact (hs _ (List.mem_of_getElem? (i := 707) (by decide +kernel))))
  obtain ⟨a14, b14, hR14, hS14, hB14, ha14, hb14⟩ := zs_str (own := "LoopdefaultsModel") (k := 232) (tx := "=") (N := 1) (f := fun _ => 61) (by decide) (hD 0 _ rfl) (hts _ (List.mem_of_getElem? (i := 1922) ((lwt_8_6 17).trans rfl))) (hs _ (List.mem_of_getElem? (i := 721) (by decide +kernel))) (hs _ (List.mem_of_getElem? (i := 722) (by decide +kernel))) (hs _ (List.mem_of_getElem? (i := 723) (by decide +kernel))) (hs _ (List.mem_of_getElem? (i := 724) (by decide +kernel))) (fun j hj => by cases (show j = 0 by omega); exact (hs _ (List.mem_of_getElem? (i := 725) (by decide +kernel))))
  obtain ⟨qf, e0, e1, e2, e3, e4, e6, e7, e8, e20, e21, e22, e23, e24, e60, e61, e62, e63, e64⟩ : ∃ qf : Nat → Nat, qf 0 = q0 ∧ qf 1 = q1 ∧ qf 2 = q2 ∧ qf 3 = q3 ∧ qf 4 = q4 ∧ qf 6 = q6 ∧ qf 7 = q7 ∧ qf 8 = b ∧ qf 20 = a10 ∧ qf 21 = a11 ∧ qf 22 = a12 ∧ qf 23 = a13 ∧ qf 24 = a14 ∧ qf 60 = b10 ∧ qf 61 = b11 ∧ qf 62 = b12 ∧ qf 63 = b13 ∧ qf 64 = b14 := ⟨fun k => [q0, q1, q2, q3, q4, 0, q6, q7, b, 0, 0, 0, 0, 0, 0, 0, 0, 0, 0, 0, a10, a11, a12, a13, a14, 0, 0, 0, 0, 0, 0, 0, 0, 0, 0, 0, 0, 0, 0, 0, 0, 0, 0, 0, 0, 0, 0, 0, 0, 0, 0, 0, 0, 0, 0, 0, 0, 0, 0, 0, b10, b11, b12, b13, b14].getD k 0, rfl, rfl, rfl, rfl, rfl, rfl, rfl, rfl, rfl, rfl, rfl, rfl, rfl, rfl, rfl, rfl, rfl, rfl⟩
  have hlt : ∀ k ∈ zs_ks, k < 6 ∨ 8 ≤ k → qf k < s.heap.size := by
    exact List.forall_mem_cons.mpr ⟨fun _ => by rw [e0]; exact zs_Tlt hT0, List.forall_mem_cons.mpr ⟨fun _ => by rw [e1]; exact zs_Tlt hT1, List.forall_mem_cons.mpr ⟨fun _ => by rw [e2]; exact zs_Tlt hT2, List.forall_mem_cons.mpr ⟨fun _ => by rw [e3]; exact zs_Tlt hT3, List.forall_mem_cons.mpr ⟨fun _ => by rw [e4]; exact zs_Tlt hT4, List.forall_mem_cons.mpr ⟨fun h => absurd h (by decide), List.forall_mem_cons.mpr ⟨fun h => absurd h (by decide), List.forall_mem_cons.mpr ⟨fun _ => by rw [e8]; exact hb, List.forall_mem_cons.mpr ⟨fun _ => by rw [e20]; exact ha10, List.forall_mem_cons.mpr ⟨fun _ => by rw [e21]; exact ha11, List.forall_mem_cons.mpr ⟨fun _ => by rw [e22]; exact ha12, List.forall_mem_cons.mpr ⟨fun _ => by rw [e23]; exact ha13, List.forall_mem_cons.mpr ⟨fun _ => by rw [e24]; exact ha14, List.forall_mem_cons.mpr ⟨fun _ => by rw [e60]; exact hb10, List.forall_mem_cons.mpr ⟨fun _ => by rw [e61]; exact hb11, List.forall_mem_cons.mpr ⟨fun _ => by rw [e62]; exact hb12, List.forall_mem_cons.mpr ⟨fun _ => by rw [e63]; exact hb13, List.forall_mem_cons.mpr ⟨fun _ => by rw [e64]; exact hb14, fun _ h => by cases h⟩⟩⟩⟩⟩⟩⟩⟩⟩⟩⟩⟩⟩⟩⟩⟩⟩⟩
  have hin : ∀ k q : Nat, k ∈ zs_ks → qf k = q → zs_k qf ad k q := fun k q hk e => Or.inl ⟨hk, e.symm⟩
  refine ⟨(fun c => (D c).1, fun c => (D c).2, DA, s.heap.size, zs_k qf ad, L, xs), rfl, rfl, hin 8 _ (by decide) e8, fun c q hq => hD c q hq, hDA, zs_nst hts, zs_strs hts hs, ⟨zs_ncs hs, ?_⟩, zs_q1 hts hs, zs_q2 hts hs, ?_⟩
  · intro q hq
    obtain ⟨-, h⟩ := zs_k1 (by decide) hq
    rw [h, e8]
    obtain ⟨scr, h1, h2, h3, h4, h5⟩ := hX
    exact ⟨fun j => .int (xs j), ⟨scr, h1, h2, h3, Nat.le_of_eq h4.symm, by rw [h4], h5, zs_Ao b hb⟩, fun j _ => rfl⟩
  refine ⟨fun k q q' h h' => zs_kfun h h', fun k q hk h => ?_, ?_, fun k q hk h => ?_, fun q h => ?_, fun k q hk h => ?_, fun j q hj h => ?_, ⟨q6, hin 6 _ (by decide) e6, hM6⟩, fun i t hi ht => ?_, fun i q t hi h => ?_, fun k q hk h => ?_, ⟨q7, hin 7 _ (by decide) e7, hM7⟩, zs_Fi hts⟩
  · rcases h with ⟨h1, rfl⟩ | ⟨h1, h2, rfl⟩
    · exact Nat.not_le.mpr (hlt k h1 hk)
    · exact Nat.not_le.mpr (zs_box (hD 2 _ rfl) hC (by omega)).2
  · exact List.forall_mem_cons.mpr ⟨⟨.int 1, rfl, va_Zof (hts _ (List.mem_of_getElem? (i := 574) ((lwt_3_1 19).trans rfl))) (hts _ (List.mem_of_getElem? (i := 76) ((lwt_1_1 1).trans rfl))) (va_eqt (hs _ (List.mem_of_getElem? (i := 6) (by decide +kernel)))) zs_Ao⟩, List.forall_mem_cons.mpr ⟨⟨.int 127, rfl, va_Zof (hts _ (List.mem_of_getElem? (i := 1523) ((lwt_7_1 8).trans rfl))) (hts _ (List.mem_of_getElem? (i := 71) ((lwg_1 26).trans rfl))) (va_eqt (hs _ (List.mem_of_getElem? (i := 221) (by decide +kernel)))) zs_Ao⟩, List.forall_mem_cons.mpr ⟨⟨.ref q0, ⟨q0, rfl, hin 0 _ (by decide) e0⟩, hZ0⟩, List.forall_mem_cons.mpr ⟨⟨.ref q1, ⟨q1, rfl, hin 1 _ (by decide) e1⟩, hZ1⟩, List.forall_mem_cons.mpr ⟨⟨.ref q2, ⟨q2, rfl, hin 2 _ (by decide) e2⟩, hZ2⟩, List.forall_mem_cons.mpr ⟨⟨.ref q3, ⟨q3, rfl, hin 3 _ (by decide) e3⟩, hZ3⟩, List.forall_mem_cons.mpr ⟨⟨.ref q4, ⟨q4, rfl, hin 4 _ (by decide) e4⟩, hZ4⟩, fun _ h => by cases h⟩⟩⟩⟩⟩⟩⟩
  · obtain ⟨-, h2⟩ := zs_k1 (by omega) h
    rcases (show k = 0 ∨ k = 1 by omega) with rfl | rfl
    · rw [h2, e0]; exact ⟨_, hT0⟩
    · rw [h2, e1]; exact ⟨_, hT1⟩
  · obtain ⟨-, h2⟩ := zs_k1 (by decide) h
    rw [h2, e2]
    refine ⟨_, hT2, fun j hj => ⟨ad j, rfl, Or.inr ⟨by omega, by omega, ?_⟩⟩⟩
    rw [Nat.add_sub_cancel_left]
  · obtain ⟨-, h2⟩ := zs_k1 (by omega) h
    rcases hk with rfl | rfl
    · rw [h2, e3]; exact ⟨_, hT3, fun j _ => congrArg Value.int (if_pos rfl).symm⟩
    · rw [h2, e4]; exact ⟨_, hT4, fun j _ => congrArg Value.int (if_neg (by decide)).symm⟩
  · rcases h with ⟨h1, -⟩ | ⟨-, -, h3⟩
    · exact absurd (zs_klt _ h1) (by omega)
    · rw [Nat.add_sub_cancel_left] at h3
      subst h3
      exact (zs_box (hD 2 _ rfl) hC hj).1
  · match i, hi with
    | 0, hi => cases hi; exact absurd ht (by decide)
    | 1, hi => cases hi; exact absurd ht (by decide)
    | 2, hi => cases hi; exact absurd ht (by decide)
    | 3, hi => cases hi; exact absurd ht (by decide)
    | 4, hi => cases hi; exact absurd ht (by decide)
    | 5, hi => cases hi; exact absurd ht (by decide)
    | 6, hi => cases hi; exact absurd ht (by decide)
    | 7, hi => cases hi; exact absurd ht (by decide)
    | 8, hi => cases hi; exact absurd ht (by decide)
    | 9, hi => cases hi; exact absurd ht (by decide)
    | 10, hi => cases hi; exact ⟨a10, b10, hin 20 _ (by decide) e20, hin 60 _ (by decide) e60, hR10, hS10⟩
    | 11, hi => cases hi; exact ⟨a11, b11, hin 21 _ (by decide) e21, hin 61 _ (by decide) e61, hR11, hS11⟩
    | 12, hi => cases hi; exact ⟨a12, b12, hin 22 _ (by decide) e22, hin 62 _ (by decide) e62, hR12, hS12⟩
    | 13, hi => cases hi; exact ⟨a13, b13, hin 23 _ (by decide) e23, hin 63 _ (by decide) e63, hR13, hS13⟩
    | 14, hi => cases hi; exact ⟨a14, b14, hin 24 _ (by decide) e24, hin 64 _ (by decide) e64, hR14, hS14⟩
    | i + 15, hi => exact absurd (show (none : Option (String × Nat × String)) = some t from hi) (fun z => by cases z)
  · match i, hi, h with
    | 0, hi, h => exact absurd (zs_k1 (k := 50) (by decide) h).1 (by decide)
    | 1, hi, h => exact absurd (zs_k1 (k := 51) (by decide) h).1 (by decide)
    | 2, hi, h => exact absurd (zs_k1 (k := 52) (by decide) h).1 (by decide)
    | 3, hi, h => exact absurd (zs_k1 (k := 53) (by decide) h).1 (by decide)
    | 4, hi, h => exact absurd (zs_k1 (k := 54) (by decide) h).1 (by decide)
    | 5, hi, h => exact absurd (zs_k1 (k := 55) (by decide) h).1 (by decide)
    | 6, hi, h => exact absurd (zs_k1 (k := 56) (by decide) h).1 (by decide)
    | 7, hi, h => exact absurd (zs_k1 (k := 57) (by decide) h).1 (by decide)
    | 8, hi, h => exact absurd (zs_k1 (k := 58) (by decide) h).1 (by decide)
    | 9, hi, h => exact absurd (zs_k1 (k := 59) (by decide) h).1 (by decide)
    | 10, hi, h =>
      obtain ⟨-, h2⟩ := zs_k1 (k := 60) (by decide) h
      cases hi
      rw [h2, e60]
      exact ⟨_, hB10, fun j hj => absurd hj (Nat.not_lt_zero _)⟩
    | 11, hi, h =>
      obtain ⟨-, h2⟩ := zs_k1 (k := 61) (by decide) h
      cases hi
      rw [h2, e61]
      exact ⟨_, hB11, fun j _ => ⟨congrArg Value.int (show (32 : Int32) = z_tbc " " by decide +kernel), by decide +kernel⟩⟩
    | 12, hi, h =>
      obtain ⟨-, h2⟩ := zs_k1 (k := 62) (by decide) h
      cases hi
      rw [h2, e62]
      exact ⟨_, hB12, fun j hj => absurd hj (Nat.not_lt_zero _)⟩
    | 13, hi, h =>
      obtain ⟨-, h2⟩ := zs_k1 (k := 63) (by decide) h
      cases hi
      rw [h2, e63]
      exact ⟨_, hB13, fun j _ => ⟨congrArg Value.int (show (32 : Int32) = z_tbc " " by decide +kernel), by decide +kernel⟩⟩
    | 14, hi, h =>
      obtain ⟨-, h2⟩ := zs_k1 (k := 64) (by decide) h
      cases hi
      rw [h2, e64]
      exact ⟨_, hB14, fun j _ => ⟨congrArg Value.int (show (61 : Int32) = z_tbc "=" by decide +kernel), by decide +kernel⟩⟩
    | i + 15, hi, h => exact absurd (show (none : Option (String × Nat × String)) = some t from hi) (fun z => by cases z)
  · obtain ⟨-, h2⟩ := zs_k1 (by omega) h
    rcases (show k = 0 ∨ k = 1 by omega) with rfl | rfl
    · rw [h2, e0]; exact hO0
    · rw [h2, e1]; exact hO1
end ZEnv
