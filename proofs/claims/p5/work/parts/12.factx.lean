section ZM0
theorem z_oi1 : Cond.instanceMethod Lib.objectInit ∈ z_tbl := (z_w 88 ((lwg_1 43).trans rfl) (by decide +kernel))
theorem z_oi2 : Cond.code Lib.objectInit ⟨#[0xb1]⟩ 1 none ∈ z_tbl := (z_w 89 ((lwg_1 44).trans rfl) (by decide +kernel))
theorem z_all {ws : List Cond} (ps : List Nat) (hp : ws = ps.filterMap (fun i => lw_tbl[i]?)) (h : ws.all goodWord = true) : ∀ x ∈ ws, x ∈ z_tbl := by
  intro w hw
  have h1 := List.all_eq_true.mp h w hw
  rw [hp] at hw
  obtain ⟨i, -, hi⟩ := List.mem_filterMap.mp hw
  exact List.mem_filter.mpr ⟨List.mem_of_getElem? hi, h1⟩
def z_okw (y : z_M) (np : Nat) : Prop := y.2.2.2.2 ≠ [] ∧ z_code y ∈ z_tbl ∧ Cond.initialized y.1.cls ∈ z_tbl ∧ (y.1.cls ≠ "java/lang/invoke/MethodHandle" ∧ y.1.cls ≠ "java/lang/invoke/VarHandle") ∧ (parseMethodDescriptor y.1.desc).map (fun d => d.parameters.length) = some np ∧ y.2.2.1 ≤ 21
theorem iX0 : ∀ x ∈ u_ws RX0 TX0 6, x ∈ z_tbl := z_all [171, 173, 175, 177, 179, 181] (by decide +kernel) (by decide +kernel)
theorem tX0_0 : z_FT 5 0 (.array .int) true := ⟨(RX0, TX0, 6), tyX0, rfl, rfl, tyX0_ok, rfl, nmX0⟩
theorem tX0_1 : z_FT 5 1 .int false := ⟨(RX0, TX0, 6), tyX0, rfl, rfl, tyX0_ok, rfl, nmX0⟩
theorem tX0_2 : z_FT 5 2 .int false := ⟨(RX0, TX0, 6), tyX0, rfl, rfl, tyX0_ok, rfl, nmX0⟩
theorem tX0_3 : z_FT 5 3 .int false := ⟨(RX0, TX0, 6), tyX0, rfl, rfl, tyX0_ok, rfl, nmX0⟩
theorem tX0_4 : z_FT 5 4 .int false := ⟨(RX0, TX0, 6), tyX0, rfl, rfl, tyX0_ok, rfl, nmX0⟩
theorem tX0_5 : z_FT 5 5 .int false := ⟨(RX0, TX0, 6), tyX0, rfl, rfl, tyX0_ok, rfl, nmX0⟩
abbrev mX0_init : z_M := (yX0_init, cX0_init, 1, none, [])
theorem ncl_X0 : RX0 ≠ "java/lang/invoke/MethodHandle" ∧ RX0 ≠ "java/lang/invoke/VarHandle" := ⟨by decide +kernel, by decide +kernel⟩
theorem pds_1 : (parseMethodDescriptor "()V").map (fun d => d.parameters.length) = some 0 := by decide +kernel
theorem kX0_init : z_okm mX0_init 0 := ⟨rfl, (z_w 161 ((lwg_1 116).trans rfl) (by decide +kernel)), (z_w 50 ((lwg_1 5).trans rfl) (by decide +kernel)), ncl_X0, pds_1, by decide⟩
theorem inX0_init : Cond.instanceMethod yX0_init ∈ z_tbl := (z_w 160 ((lwg_1 115).trans rfl) (by decide +kernel))
-- call X0 3: ('"java/lang/Object"', '"<init>"', '"()V"')
theorem oX0_3 : Cond.methodLink RX0 3 Lib.objectInit ∈ z_tbl := (z_w 162 ((lwg_1 117).trans rfl) (by decide +kernel))
theorem fX0_9 : z_F RX0 9 5 0 := ⟨(RX0, TX0, 6), "Loopdefaults$Hearer", rfl, by decide, iX0, Or.inl (z_w 163 ((lwg_1 118).trans rfl) (by decide +kernel)), Or.inl rfl⟩
theorem fX0_15 : z_F RX0 15 5 4 := ⟨(RX0, TX0, 6), "Loopdefaults$Hearer", rfl, by decide, iX0, Or.inl (z_w 168 ((lwg_1 123).trans rfl) (by decide +kernel)), Or.inl rfl⟩
theorem fX0_19 : z_F RX0 19 5 5 := ⟨(RX0, TX0, 6), "Loopdefaults$Hearer", rfl, by decide, iX0, Or.inl (z_w 169 ((lwg_1 124).trans rfl) (by decide +kernel)), Or.inl rfl⟩
abbrev mX0_takesIn : z_M := (yX0_takesIn, cX0_takesIn, 2, (some .boolean), [])
theorem pds_2 : (parseMethodDescriptor "(I)Z").map (fun d => d.parameters.length) = some 1 := by decide +kernel
theorem kX0_takesIn : z_okm mX0_takesIn 1 := ⟨rfl, (z_w 937 ((lwg_4 172).trans rfl) (by decide +kernel)), (z_w 50 ((lwg_1 5).trans rfl) (by decide +kernel)), ncl_X0, pds_2, by decide⟩
theorem inX0_takesIn : Cond.instanceMethod yX0_takesIn ∈ z_tbl := (z_w 935 ((lwg_4 170).trans rfl) (by decide +kernel))
theorem seX0_takesIn : Cond.selects RX0 yX0_takesIn yX0_takesIn ∈ z_tbl := (z_w 936 ((lwg_4 171).trans rfl) (by decide +kernel))
theorem fX0_22 : z_F RX0 22 5 2 := ⟨(RX0, TX0, 6), "Loopdefaults$Hearer", rfl, by decide, iX0, Or.inl (z_w 165 ((lwg_1 120).trans rfl) (by decide +kernel)), Or.inl rfl⟩
theorem fX0_25 : z_F RX0 25 5 3 := ⟨(RX0, TX0, 6), "Loopdefaults$Hearer", rfl, by decide, iX0, Or.inl (z_w 167 ((lwg_1 122).trans rfl) (by decide +kernel)), Or.inl rfl⟩
abbrev mX0_keep : z_M := (yX0_keep, cX0_keep, 2, none, [])
theorem pds_3 : (parseMethodDescriptor "(I)V").map (fun d => d.parameters.length) = some 1 := by decide +kernel
theorem kX0_keep : z_okm mX0_keep 1 := ⟨rfl, (z_w 941 ((lwg_4 176).trans rfl) (by decide +kernel)), (z_w 50 ((lwg_1 5).trans rfl) (by decide +kernel)), ncl_X0, pds_3, by decide⟩
theorem inX0_keep : Cond.instanceMethod yX0_keep ∈ z_tbl := (z_w 940 ((lwg_4 175).trans rfl) (by decide +kernel))
theorem seX0_keep : Cond.selects RX0 yX0_keep yX0_keep ∈ z_tbl := (z_w 14 (by decide +kernel) (by decide +kernel))
theorem lX0_28 : Cond.methodLink RX0 28 yX0_keep ∈ z_tbl := (z_w 938 ((lwg_4 173).trans rfl) (by decide +kernel))
theorem fX0_32 : z_F RX0 32 5 1 := ⟨(RX0, TX0, 6), "Loopdefaults$Hearer", rfl, by decide, iX0, Or.inl (z_w 164 ((lwg_1 119).trans rfl) (by decide +kernel)), Or.inl rfl⟩
abbrev mX0_dropOldest : z_M := (yX0_dropOldest, cX0_dropOldest, 2, none, [])
theorem kX0_dropOldest : z_okm mX0_dropOldest 0 := ⟨rfl, (z_w 945 ((lwg_4 180).trans rfl) (by decide +kernel)), (z_w 50 ((lwg_1 5).trans rfl) (by decide +kernel)), ncl_X0, pds_1, by decide⟩
theorem inX0_dropOldest : Cond.instanceMethod yX0_dropOldest ∈ z_tbl := (z_w 944 ((lwg_4 179).trans rfl) (by decide +kernel))
theorem seX0_dropOldest : Cond.selects RX0 yX0_dropOldest yX0_dropOldest ∈ z_tbl := (z_w 15 (by decide +kernel) (by decide +kernel))
theorem lX0_35 : Cond.methodLink RX0 35 yX0_dropOldest ∈ z_tbl := (z_w 942 ((lwg_4 177).trans rfl) (by decide +kernel))
abbrev mX0_beginAnew : z_M := (yX0_beginAnew, cX0_beginAnew, 1, none, [])
theorem kX0_beginAnew : z_okm mX0_beginAnew 0 := ⟨rfl, (z_w 1206 ((lwg_5 201).trans rfl) (by decide +kernel)), (z_w 50 ((lwg_1 5).trans rfl) (by decide +kernel)), ncl_X0, pds_1, by decide⟩
theorem inX0_beginAnew : Cond.instanceMethod yX0_beginAnew ∈ z_tbl := (z_w 1204 ((lwg_5 199).trans rfl) (by decide +kernel))
theorem seX0_beginAnew : Cond.selects RX0 yX0_beginAnew yX0_beginAnew ∈ z_tbl := (z_w 1205 ((lwg_5 200).trans rfl) (by decide +kernel))
abbrev mX0_tells : z_M := (yX0_tells, cX0_tells, 2, (some .int), [])
theorem pds_4 : (parseMethodDescriptor "(I)I").map (fun d => d.parameters.length) = some 1 := by decide +kernel
theorem kX0_tells : z_okm mX0_tells 1 := ⟨rfl, (z_w 556 ((lwg_3 31).trans rfl) (by decide +kernel)), (z_w 50 ((lwg_1 5).trans rfl) (by decide +kernel)), ncl_X0, pds_4, by decide⟩
theorem inX0_tells : Cond.instanceMethod yX0_tells ∈ z_tbl := (z_w 554 ((lwg_3 29).trans rfl) (by decide +kernel))
theorem seX0_tells : Cond.selects RX0 yX0_tells yX0_tells ∈ z_tbl := (z_w 555 ((lwg_3 30).trans rfl) (by decide +kernel))
abbrev mX0_recent : z_M := (yX0_recent, cX0_recent, 1, (some (.object "java/lang/String")), [])
theorem pds_5 : (parseMethodDescriptor "()Ljava/lang/String;").map (fun d => d.parameters.length) = some 0 := by decide +kernel
theorem kX0_recent : z_okm mX0_recent 0 := ⟨rfl, (z_w 560 ((lwg_3 35).trans rfl) (by decide +kernel)), (z_w 50 ((lwg_1 5).trans rfl) (by decide +kernel)), ncl_X0, pds_5, by decide⟩
theorem inX0_recent : Cond.instanceMethod yX0_recent ∈ z_tbl := (z_w 558 ((lwg_3 33).trans rfl) (by decide +kernel))
theorem seX0_recent : Cond.selects RX0 yX0_recent yX0_recent ∈ z_tbl := (z_w 559 ((lwg_3 34).trans rfl) (by decide +kernel))
abbrev mX8_joined : z_M := (yX8_joined, cX8_joined, 4, (some (.object "java/lang/String")), [])
theorem ncl_X8 : RX8 ≠ "java/lang/invoke/MethodHandle" ∧ RX8 ≠ "java/lang/invoke/VarHandle" := ⟨by decide +kernel, by decide +kernel⟩
theorem pds_7 : (parseMethodDescriptor "([II)Ljava/lang/String;").map (fun d => d.parameters.length) = some 2 := by decide +kernel
theorem kX8_joined : z_okm mX8_joined 2 := ⟨rfl, (z_w 563 ((lwg_3 38).trans rfl) (by decide +kernel)), (z_w 46 ((lwg_1 1).trans rfl) (by decide +kernel)), ncl_X8, pds_7, by decide⟩
theorem stX8_joined : Cond.static yX8_joined ∈ z_tbl := (z_w 562 ((lwg_3 37).trans rfl) (by decide +kernel))
theorem lX0_38 : Cond.methodLinkNest RX0 38 yX8_joined "Loopdefaults" ∈ z_nst := (z_wn 561 ((lwg_3 36).trans rfl) (by decide +kernel))
theorem iX1 : ∀ x ∈ u_ws RX1 TX1 4, x ∈ z_tbl := z_all [118, 120, 122, 124] (by decide +kernel) (by decide +kernel)
theorem tX1_0 : z_FT 6 0 (.array .int) true := ⟨(RX1, TX1, 4), tyX1, rfl, rfl, tyX1_ok, rfl, nmX1⟩
theorem tX1_1 : z_FT 6 1 (.object "Loopdefaults$Tally") true := ⟨(RX1, TX1, 4), tyX1, rfl, rfl, tyX1_ok, rfl, nmX1⟩
theorem tX1_2 : z_FT 6 2 .int false := ⟨(RX1, TX1, 4), tyX1, rfl, rfl, tyX1_ok, rfl, nmX1⟩
theorem tX1_3 : z_FT 6 3 .boolean false := ⟨(RX1, TX1, 4), tyX1, rfl, rfl, tyX1_ok, rfl, nmX1⟩
abbrev mX1_init : z_M := (yX1_init, cX1_init, 1, none, [])
theorem ncl_X1 : RX1 ≠ "java/lang/invoke/MethodHandle" ∧ RX1 ≠ "java/lang/invoke/VarHandle" := ⟨by decide +kernel, by decide +kernel⟩
theorem kX1_init : z_okm mX1_init 0 := ⟨rfl, (z_w 95 ((lwg_1 50).trans rfl) (by decide +kernel)), (z_w 47 ((lwg_1 2).trans rfl) (by decide +kernel)), ncl_X1, pds_1, by decide⟩
theorem inX1_init : Cond.instanceMethod yX1_init ∈ z_tbl := (z_w 94 ((lwg_1 49).trans rfl) (by decide +kernel))
-- call X1 3: ('"java/lang/Object"', '"<init>"', '"()V"')
theorem oX1_3 : Cond.methodLink RX1 3 Lib.objectInit ∈ z_tbl := (z_w 96 ((lwg_1 51).trans rfl) (by decide +kernel))
theorem fX1_9 : z_F RX1 9 6 0 := ⟨(RX1, TX1, 4), "Loopdefaults$Row", rfl, by decide, iX1, Or.inl (z_w 108 ((lwg_1 63).trans rfl) (by decide +kernel)), Or.inl rfl⟩
theorem iX6 : ∀ x ∈ u_ws RX6 TX6 1, x ∈ z_tbl := z_all [104] (by decide +kernel) (by decide +kernel)
theorem tX6_0 : z_FT 11 0 (.array .int) true := ⟨(RX6, TX6, 1), tyX6, rfl, rfl, tyX6_ok, rfl, nmX6⟩
theorem nX1_15 : z_N RX1 15 11 [.null] := ⟨(RX6, TX6, 1), tyX6, rfl, iX6, (z_w 97 ((lwg_1 52).trans rfl) (by decide +kernel)), (z_w 98 ((lwg_1 53).trans rfl) (by decide +kernel)), (z_w 48 ((lwg_1 3).trans rfl) (by decide +kernel)), tyX6_ok, rfl, by decide, rfl⟩
abbrev mX6_init : z_M := (yX6_init, cX6_init, 1, none, [])
theorem ncl_X6 : RX6 ≠ "java/lang/invoke/MethodHandle" ∧ RX6 ≠ "java/lang/invoke/VarHandle" := ⟨by decide +kernel, by decide +kernel⟩
theorem kX6_init : z_okm mX6_init 0 := ⟨rfl, (z_w 101 ((lwg_1 56).trans rfl) (by decide +kernel)), (z_w 48 ((lwg_1 3).trans rfl) (by decide +kernel)), ncl_X6, pds_1, by decide⟩
theorem inX6_init : Cond.instanceMethod yX6_init ∈ z_tbl := (z_w 100 ((lwg_1 55).trans rfl) (by decide +kernel))
theorem lX1_17 : Cond.methodLinkNest RX1 17 yX6_init "Loopdefaults" ∈ z_nst := (z_wn 99 ((lwg_1 54).trans rfl) (by decide +kernel))
theorem fX1_18 : z_F RX1 18 6 1 := ⟨(RX1, TX1, 4), "Loopdefaults$Row", rfl, by decide, iX1, Or.inl (z_w 111 ((lwg_1 66).trans rfl) (by decide +kernel)), Or.inl rfl⟩
abbrev mX1_isFull : z_M := (yX1_isFull, cX1_isFull, 1, (some .boolean), [])
theorem pds_10 : (parseMethodDescriptor "()Z").map (fun d => d.parameters.length) = some 0 := by decide +kernel
theorem kX1_isFull : z_okm mX1_isFull 0 := ⟨rfl, (z_w 880 ((lwg_4 115).trans rfl) (by decide +kernel)), (z_w 47 ((lwg_1 2).trans rfl) (by decide +kernel)), ncl_X1, pds_10, by decide⟩
theorem inX1_isFull : Cond.instanceMethod yX1_isFull ∈ z_tbl := (z_w 878 ((lwg_4 113).trans rfl) (by decide +kernel))
theorem seX1_isFull : Cond.selects RX1 yX1_isFull yX1_isFull ∈ z_tbl := (z_w 879 ((lwg_4 114).trans rfl) (by decide +kernel))
theorem fX1_22 : z_F RX1 22 6 2 := ⟨(RX1, TX1, 4), "Loopdefaults$Row", rfl, by decide, iX1, Or.inl (z_w 113 ((lwg_1 68).trans rfl) (by decide +kernel)), Or.inl rfl⟩
abbrev mX1_isPlace : z_M := (yX1_isPlace, cX1_isPlace, 2, (some .boolean), [])
theorem kX1_isPlace : z_okm mX1_isPlace 1 := ⟨rfl, (z_w 319 ((lwg_2 34).trans rfl) (by decide +kernel)), (z_w 47 ((lwg_1 2).trans rfl) (by decide +kernel)), ncl_X1, pds_2, by decide⟩
theorem inX1_isPlace : Cond.instanceMethod yX1_isPlace ∈ z_tbl := (z_w 317 ((lwg_2 32).trans rfl) (by decide +kernel))
theorem seX1_isPlace : Cond.selects RX1 yX1_isPlace yX1_isPlace ∈ z_tbl := (z_w 318 ((lwg_2 33).trans rfl) (by decide +kernel))
abbrev mX1_valueAt : z_M := (yX1_valueAt, cX1_valueAt, 2, (some .int), [])
theorem kX1_valueAt : z_okm mX1_valueAt 1 := ⟨rfl, (z_w 315 ((lwg_2 30).trans rfl) (by decide +kernel)), (z_w 47 ((lwg_1 2).trans rfl) (by decide +kernel)), ncl_X1, pds_4, by decide⟩
theorem inX1_valueAt : Cond.instanceMethod yX1_valueAt ∈ z_tbl := (z_w 313 ((lwg_2 28).trans rfl) (by decide +kernel))
theorem seX1_valueAt : Cond.selects RX1 yX1_valueAt yX1_valueAt ∈ z_tbl := (z_w 314 ((lwg_2 29).trans rfl) (by decide +kernel))
theorem lX1_26 : Cond.methodLink RX1 26 yX1_isPlace ∈ z_tbl := (z_w 316 ((lwg_2 31).trans rfl) (by decide +kernel))
abbrev mX1_setAt : z_M := (yX1_setAt, cX1_setAt, 3, none, [])
theorem pds_11 : (parseMethodDescriptor "(II)V").map (fun d => d.parameters.length) = some 2 := by decide +kernel
theorem kX1_setAt : z_okm mX1_setAt 2 := ⟨rfl, (z_w 995 ((lwg_4 230).trans rfl) (by decide +kernel)), (z_w 47 ((lwg_1 2).trans rfl) (by decide +kernel)), ncl_X1, pds_11, by decide⟩
theorem inX1_setAt : Cond.instanceMethod yX1_setAt ∈ z_tbl := (z_w 993 ((lwg_4 228).trans rfl) (by decide +kernel))
theorem seX1_setAt : Cond.selects RX1 yX1_setAt yX1_setAt ∈ z_tbl := (z_w 994 ((lwg_4 229).trans rfl) (by decide +kernel))
abbrev mX1_append : z_M := (yX1_append, cX1_append, 2, none, [])
theorem kX1_append : z_okm mX1_append 1 := ⟨rfl, (z_w 900 ((lwg_4 135).trans rfl) (by decide +kernel)), (z_w 47 ((lwg_1 2).trans rfl) (by decide +kernel)), ncl_X1, pds_3, by decide⟩
theorem inX1_append : Cond.instanceMethod yX1_append ∈ z_tbl := (z_w 898 ((lwg_4 133).trans rfl) (by decide +kernel))
theorem seX1_append : Cond.selects RX1 yX1_append yX1_append ∈ z_tbl := (z_w 899 ((lwg_4 134).trans rfl) (by decide +kernel))
abbrev mX1_shorten : z_M := (yX1_shorten, cX1_shorten, 2, none, [])
theorem kX1_shorten : z_okm mX1_shorten 1 := ⟨rfl, (z_w 911 ((lwg_4 146).trans rfl) (by decide +kernel)), (z_w 47 ((lwg_1 2).trans rfl) (by decide +kernel)), ncl_X1, pds_3, by decide⟩
theorem inX1_shorten : Cond.instanceMethod yX1_shorten ∈ z_tbl := (z_w 909 ((lwg_4 144).trans rfl) (by decide +kernel))
theorem seX1_shorten : Cond.selects RX1 yX1_shorten yX1_shorten ∈ z_tbl := (z_w 910 ((lwg_4 145).trans rfl) (by decide +kernel))
abbrev mX1_takeOut : z_M := (yX1_takeOut, cX1_takeOut, 3, none, [])
theorem kX1_takeOut : z_okm mX1_takeOut 1 := ⟨rfl, (z_w 370 ((lwg_2 85).trans rfl) (by decide +kernel)), (z_w 47 ((lwg_1 2).trans rfl) (by decide +kernel)), ncl_X1, pds_3, by decide⟩
theorem inX1_takeOut : Cond.instanceMethod yX1_takeOut ∈ z_tbl := (z_w 368 ((lwg_2 83).trans rfl) (by decide +kernel))
theorem seX1_takeOut : Cond.selects RX1 yX1_takeOut yX1_takeOut ∈ z_tbl := (z_w 369 ((lwg_2 84).trans rfl) (by decide +kernel))
abbrev mX1_become : z_M := (yX1_become, cX1_become, 2, none, [])
theorem pds_12 : (parseMethodDescriptor "(LLoopdefaults$Row;)V").map (fun d => d.parameters.length) = some 1 := by decide +kernel
theorem kX1_become : z_okm mX1_become 1 := ⟨rfl, (z_w 235 ((lwg_1 190).trans rfl) (by decide +kernel)), (z_w 47 ((lwg_1 2).trans rfl) (by decide +kernel)), ncl_X1, pds_12, by decide⟩
theorem inX1_become : Cond.instanceMethod yX1_become ∈ z_tbl := (z_w 233 ((lwg_1 188).trans rfl) (by decide +kernel))
theorem seX1_become : Cond.selects RX1 yX1_become yX1_become ∈ z_tbl := (z_w 234 ((lwg_1 189).trans rfl) (by decide +kernel))
abbrev mX8_takeOver : z_M := (yX8_takeOver, cX8_takeOver, 3, none, [])
theorem pds_13 : (parseMethodDescriptor "([I[I)V").map (fun d => d.parameters.length) = some 2 := by decide +kernel
theorem kX8_takeOver : z_okm mX8_takeOver 2 := ⟨rfl, (z_w 238 ((lwg_1 193).trans rfl) (by decide +kernel)), (z_w 46 ((lwg_1 1).trans rfl) (by decide +kernel)), ncl_X8, pds_13, by decide⟩
theorem stX8_takeOver : Cond.static yX8_takeOver ∈ z_tbl := (z_w 237 ((lwg_1 192).trans rfl) (by decide +kernel))
theorem lX1_30 : Cond.methodLinkNest RX1 30 yX8_takeOver "Loopdefaults" ∈ z_nst := (z_wn 236 ((lwg_1 191).trans rfl) (by decide +kernel))
theorem iX2 : ∀ x ∈ u_ws RX2 TX2 5, x ∈ z_tbl := z_all [273, 275, 277, 269, 271] (by decide +kernel) (by decide +kernel)
theorem tX2_0 : z_FT 7 0 (.object "Loopdefaults$Tally") true := ⟨(RX2, TX2, 5), tyX2, rfl, rfl, tyX2_ok, rfl, nmX2⟩
theorem tX2_2 : z_FT 7 2 .int false := ⟨(RX2, TX2, 5), tyX2, rfl, rfl, tyX2_ok, rfl, nmX2⟩
theorem tX2_3 : z_FT 7 3 (.object "Loopdefaults$Row") true := ⟨(RX2, TX2, 5), tyX2, rfl, rfl, tyX2_ok, rfl, nmX2⟩
theorem tX2_4 : z_FT 7 4 .int false := ⟨(RX2, TX2, 5), tyX2, rfl, rfl, tyX2_ok, rfl, nmX2⟩
abbrev mX2_init : z_M := (yX2_init, cX2_init, 2, none, [])
theorem ncl_X2 : RX2 ≠ "java/lang/invoke/MethodHandle" ∧ RX2 ≠ "java/lang/invoke/VarHandle" := ⟨by decide +kernel, by decide +kernel⟩
theorem kX2_init : z_okm mX2_init 1 := ⟨rfl, (z_w 243 ((lwg_1 198).trans rfl) (by decide +kernel)), (z_w 73 ((lwg_1 28).trans rfl) (by decide +kernel)), ncl_X2, pds_12, by decide⟩
theorem inX2_init : Cond.instanceMethod yX2_init ∈ z_tbl := (z_w 242 ((lwg_1 197).trans rfl) (by decide +kernel))
theorem fX2_3 : z_F RX2 3 6 1 := ⟨(RX1, TX1, 4), "Loopdefaults$Row", rfl, by decide, iX1, Or.inr ⟨"Loopdefaults", (z_wn 110 ((lwg_1 65).trans rfl) (by decide +kernel))⟩, Or.inl rfl⟩
abbrev mX7_init : z_M := (yX7_init, cX7_init, 2, none, [])
theorem ncl_X7 : RX7 ≠ "java/lang/invoke/MethodHandle" ∧ RX7 ≠ "java/lang/invoke/VarHandle" := ⟨by decide +kernel, by decide +kernel⟩
theorem pds_16 : (parseMethodDescriptor "(LLoopdefaults$Tally;)V").map (fun d => d.parameters.length) = some 1 := by decide +kernel
theorem kX7_init : z_okm mX7_init 1 := ⟨rfl, (z_w 246 ((lwg_1 201).trans rfl) (by decide +kernel)), (z_w 72 ((lwg_1 27).trans rfl) (by decide +kernel)), ncl_X7, pds_16, by decide⟩
theorem inX7_init : Cond.instanceMethod yX7_init ∈ z_tbl := (z_w 245 ((lwg_1 200).trans rfl) (by decide +kernel))
theorem lX2_9 : Cond.methodLink RX2 9 yX7_init ∈ z_tbl := (z_w 244 ((lwg_1 199).trans rfl) (by decide +kernel))
theorem fX2_15 : z_F RX2 15 7 3 := ⟨(RX2, TX2, 5), "Loopdefaults$RowWalk", rfl, by decide, iX2, Or.inl (z_w 252 ((lwg_1 207).trans rfl) (by decide +kernel)), Or.inl rfl⟩
abbrev mX2_isMore : z_M := (yX2_isMore, cX2_isMore, 1, (some .boolean), [])
theorem kX2_isMore : z_okm mX2_isMore 0 := ⟨rfl, (z_w 292 ((lwg_2 7).trans rfl) (by decide +kernel)), (z_w 73 ((lwg_1 28).trans rfl) (by decide +kernel)), ncl_X2, pds_10, by decide⟩
theorem inX2_isMore : Cond.instanceMethod yX2_isMore ∈ z_tbl := (z_w 291 ((lwg_2 6).trans rfl) (by decide +kernel))
theorem fX2_21 : z_F RX2 21 7 4 := ⟨(RX2, TX2, 5), "Loopdefaults$RowWalk", rfl, by decide, iX2, Or.inl (z_w 253 ((lwg_1 208).trans rfl) (by decide +kernel)), Or.inl rfl⟩
theorem fX2_25 : z_F RX2 25 6 2 := ⟨(RX1, TX1, 4), "Loopdefaults$Row", rfl, by decide, iX1, Or.inr ⟨"Loopdefaults", (z_wn 114 ((lwg_1 69).trans rfl) (by decide +kernel))⟩, Or.inl rfl⟩
abbrev mX2_next : z_M := (yX2_next, cX2_next, 1, (some .int), [])
theorem pds_17 : (parseMethodDescriptor "()I").map (fun d => d.parameters.length) = some 0 := by decide +kernel
theorem kX2_next : z_okm mX2_next 0 := ⟨rfl, (z_w 311 ((lwg_2 26).trans rfl) (by decide +kernel)), (z_w 73 ((lwg_1 28).trans rfl) (by decide +kernel)), ncl_X2, pds_17, by decide⟩
theorem inX2_next : Cond.instanceMethod yX2_next ∈ z_tbl := (z_w 310 ((lwg_2 25).trans rfl) (by decide +kernel))
theorem lX2_28 : Cond.methodLink RX2 28 yX1_valueAt ∈ z_tbl := (z_w 312 ((lwg_2 27).trans rfl) (by decide +kernel))
theorem fX2_32 : z_F RX2 32 7 2 := ⟨(RX2, TX2, 5), "Loopdefaults$RowWalk", rfl, by decide, iX2, Or.inl (z_w 264 ((lwg_1 219).trans rfl) (by decide +kernel)), Or.inr (z_w 265 ((lwg_1 220).trans rfl) (by decide +kernel))⟩
abbrev mX2_putInPlace : z_M := (yX2_putInPlace, cX2_putInPlace, 2, (some .boolean), [])
theorem kX2_putInPlace : z_okm mX2_putInPlace 1 := ⟨rfl, (z_w 991 ((lwg_4 226).trans rfl) (by decide +kernel)), (z_w 73 ((lwg_1 28).trans rfl) (by decide +kernel)), ncl_X2, pds_2, by decide⟩
theorem inX2_putInPlace : Cond.instanceMethod yX2_putInPlace ∈ z_tbl := (z_w 990 ((lwg_4 225).trans rfl) (by decide +kernel))
theorem fX2_35 : z_F RX2 35 6 3 := ⟨(RX1, TX1, 4), "Loopdefaults$Row", rfl, by decide, iX1, Or.inr ⟨"Loopdefaults", (z_wn 116 ((lwg_1 71).trans rfl) (by decide +kernel))⟩, Or.inl rfl⟩
theorem fX2_39 : z_F RX2 39 7 0 := ⟨(RX2, TX2, 5), "Loopdefaults$RowWalk", rfl, by decide, iX2, Or.inl (z_w 257 ((lwg_1 212).trans rfl) (by decide +kernel)), Or.inr (z_w 258 ((lwg_1 213).trans rfl) (by decide +kernel))⟩
abbrev mX6_add : z_M := (yX6_add, cX6_add, 2, none, [])
theorem kX6_add : z_okm mX6_add 1 := ⟨rfl, (z_w 251 ((lwg_1 206).trans rfl) (by decide +kernel)), (z_w 48 ((lwg_1 3).trans rfl) (by decide +kernel)), ncl_X6, pds_3, by decide⟩
theorem inX6_add : Cond.instanceMethod yX6_add ∈ z_tbl := (z_w 249 ((lwg_1 204).trans rfl) (by decide +kernel))
theorem seX6_add : Cond.selects RX6 yX6_add yX6_add ∈ z_tbl := (z_w 250 ((lwg_1 205).trans rfl) (by decide +kernel))
theorem lX2_40 : Cond.methodLink RX2 40 yX6_add ∈ z_tbl := (z_w 366 ((lwg_2 81).trans rfl) (by decide +kernel))
theorem lX2_46 : Cond.methodLink RX2 46 yX1_setAt ∈ z_tbl := (z_w 992 ((lwg_4 227).trans rfl) (by decide +kernel))
abbrev mX2_takeAway : z_M := (yX2_takeAway, cX2_takeAway, 1, (some .boolean), [])
theorem kX2_takeAway : z_okm mX2_takeAway 0 := ⟨rfl, (z_w 365 ((lwg_2 80).trans rfl) (by decide +kernel)), (z_w 73 ((lwg_1 28).trans rfl) (by decide +kernel)), ncl_X2, pds_10, by decide⟩
theorem inX2_takeAway : Cond.instanceMethod yX2_takeAway ∈ z_tbl := (z_w 363 ((lwg_2 78).trans rfl) (by decide +kernel))
theorem seX2_takeAway : Cond.selects RX2 yX2_takeAway yX2_takeAway ∈ z_tbl := (z_w 364 ((lwg_2 79).trans rfl) (by decide +kernel))
theorem lX2_50 : Cond.methodLink RX2 50 yX1_takeOut ∈ z_tbl := (z_w 367 ((lwg_2 82).trans rfl) (by decide +kernel))
theorem iX3 : ∀ x ∈ u_ws RX3 TX3 6, x ∈ z_tbl := z_all [1170, 1171, 1172, 1164, 1166, 1168] (by decide +kernel) (by decide +kernel)
theorem tX3_0 : z_FT 8 0 (.object "Loopdefaults$Tally") true := ⟨(RX3, TX3, 6), tyX3, rfl, rfl, tyX3_ok, rfl, nmX3⟩
theorem tX3_2 : z_FT 8 2 .int false := ⟨(RX3, TX3, 6), tyX3, rfl, rfl, tyX3_ok, rfl, nmX3⟩
theorem tX3_3 : z_FT 8 3 .int true := ⟨(RX3, TX3, 6), tyX3, rfl, rfl, tyX3_ok, rfl, nmX3⟩
theorem tX3_4 : z_FT 8 4 .int true := ⟨(RX3, TX3, 6), tyX3, rfl, rfl, tyX3_ok, rfl, nmX3⟩
theorem tX3_5 : z_FT 8 5 .int false := ⟨(RX3, TX3, 6), tyX3, rfl, rfl, tyX3_ok, rfl, nmX3⟩
abbrev mX3_init : z_M := (yX3_init, cX3_init, 4, none, [])
theorem ncl_X3 : RX3 ≠ "java/lang/invoke/MethodHandle" ∧ RX3 ≠ "java/lang/invoke/VarHandle" := ⟨by decide +kernel, by decide +kernel⟩
theorem pds_19 : (parseMethodDescriptor "(III)V").map (fun d => d.parameters.length) = some 3 := by decide +kernel
theorem kX3_init : z_okm mX3_init 3 := ⟨rfl, (z_w 1157 ((lwg_5 152).trans rfl) (by decide +kernel)), (z_w 81 ((lwg_1 36).trans rfl) (by decide +kernel)), ncl_X3, pds_19, by decide⟩
theorem inX3_init : Cond.instanceMethod yX3_init ∈ z_tbl := (z_w 1156 ((lwg_5 151).trans rfl) (by decide +kernel))
theorem nX3_1 : z_N RX3 1 11 [.null] := ⟨(RX6, TX6, 1), tyX6, rfl, iX6, (z_w 1158 ((lwg_5 153).trans rfl) (by decide +kernel)), (z_w 98 ((lwg_1 53).trans rfl) (by decide +kernel)), (z_w 48 ((lwg_1 3).trans rfl) (by decide +kernel)), tyX6_ok, rfl, by decide, rfl⟩
theorem lX3_3 : Cond.methodLinkNest RX3 3 yX6_init "Loopdefaults" ∈ z_nst := (z_wn 1159 ((lwg_5 154).trans rfl) (by decide +kernel))
theorem lX3_7 : Cond.methodLink RX3 7 yX7_init ∈ z_tbl := (z_w 1160 ((lwg_5 155).trans rfl) (by decide +kernel))
theorem fX3_12 : z_F RX3 12 8 5 := ⟨(RX3, TX3, 6), "Loopdefaults$SpanWalk", rfl, by decide, iX3, Or.inl (z_w 1163 ((lwg_5 158).trans rfl) (by decide +kernel)), Or.inl rfl⟩
theorem fX3_18 : z_F RX3 18 8 3 := ⟨(RX3, TX3, 6), "Loopdefaults$SpanWalk", rfl, by decide, iX3, Or.inl (z_w 1161 ((lwg_5 156).trans rfl) (by decide +kernel)), Or.inl rfl⟩
theorem fX3_21 : z_F RX3 21 8 4 := ⟨(RX3, TX3, 6), "Loopdefaults$SpanWalk", rfl, by decide, iX3, Or.inl (z_w 1162 ((lwg_5 157).trans rfl) (by decide +kernel)), Or.inl rfl⟩
abbrev mX3_isMore : z_M := (yX3_isMore, cX3_isMore, 1, (some .boolean), [])
theorem kX3_isMore : z_okm mX3_isMore 0 := ⟨rfl, (z_w 295 ((lwg_2 10).trans rfl) (by decide +kernel)), (z_w 81 ((lwg_1 36).trans rfl) (by decide +kernel)), ncl_X3, pds_10, by decide⟩
theorem inX3_isMore : Cond.instanceMethod yX3_isMore ∈ z_tbl := (z_w 294 ((lwg_2 9).trans rfl) (by decide +kernel))
abbrev mX3_next : z_M := (yX3_next, cX3_next, 1, (some .int), [])
theorem kX3_next : z_okm mX3_next 0 := ⟨rfl, (z_w 322 ((lwg_2 37).trans rfl) (by decide +kernel)), (z_w 81 ((lwg_1 36).trans rfl) (by decide +kernel)), ncl_X3, pds_17, by decide⟩
theorem inX3_next : Cond.instanceMethod yX3_next ∈ z_tbl := (z_w 321 ((lwg_2 36).trans rfl) (by decide +kernel))
theorem fX3_24 : z_F RX3 24 8 2 := ⟨(RX3, TX3, 6), "Loopdefaults$SpanWalk", rfl, by decide, iX3, Or.inl (z_w 262 ((lwg_1 217).trans rfl) (by decide +kernel)), Or.inr (z_w 263 ((lwg_1 218).trans rfl) (by decide +kernel))⟩
theorem iX4 : ∀ x ∈ u_ws RX4 TX4 5, x ∈ z_tbl := z_all [144, 146, 148, 150, 152] (by decide +kernel) (by decide +kernel)
theorem tX4_0 : z_FT 9 0 .boolean true := ⟨(RX4, TX4, 5), tyX4, rfl, rfl, tyX4_ok, rfl, nmX4⟩
theorem tX4_1 : z_FT 9 1 (.array .int) true := ⟨(RX4, TX4, 5), tyX4, rfl, rfl, tyX4_ok, rfl, nmX4⟩
theorem tX4_2 : z_FT 9 2 (.array .int) true := ⟨(RX4, TX4, 5), tyX4, rfl, rfl, tyX4_ok, rfl, nmX4⟩
theorem tX4_3 : z_FT 9 3 (.object "Loopdefaults$Tally") true := ⟨(RX4, TX4, 5), tyX4, rfl, rfl, tyX4_ok, rfl, nmX4⟩
theorem tX4_4 : z_FT 9 4 .int false := ⟨(RX4, TX4, 5), tyX4, rfl, rfl, tyX4_ok, rfl, nmX4⟩
abbrev mX4_init : z_M := (yX4_init, cX4_init, 3, none, [])
theorem ncl_X4 : RX4 ≠ "java/lang/invoke/MethodHandle" ∧ RX4 ≠ "java/lang/invoke/VarHandle" := ⟨by decide +kernel, by decide +kernel⟩
theorem pds_21 : (parseMethodDescriptor "(Z)V").map (fun d => d.parameters.length) = some 1 := by decide +kernel
theorem kX4_init : z_okm mX4_init 1 := ⟨rfl, (z_w 131 ((lwg_1 86).trans rfl) (by decide +kernel)), (z_w 49 ((lwg_1 4).trans rfl) (by decide +kernel)), ncl_X4, pds_21, by decide⟩
theorem inX4_init : Cond.instanceMethod yX4_init ∈ z_tbl := (z_w 130 ((lwg_1 85).trans rfl) (by decide +kernel))
-- call X4 3: ('"java/lang/Object"', '"<init>"', '"()V"')
theorem oX4_3 : Cond.methodLink RX4 3 Lib.objectInit ∈ z_tbl := (z_w 132 ((lwg_1 87).trans rfl) (by decide +kernel))
theorem fX4_9 : z_F RX4 9 9 1 := ⟨(RX4, TX4, 5), "Loopdefaults$Table", rfl, by decide, iX4, Or.inl (z_w 136 ((lwg_1 91).trans rfl) (by decide +kernel)), Or.inl rfl⟩
theorem fX4_15 : z_F RX4 15 9 2 := ⟨(RX4, TX4, 5), "Loopdefaults$Table", rfl, by decide, iX4, Or.inl (z_w 137 ((lwg_1 92).trans rfl) (by decide +kernel)), Or.inl rfl⟩
theorem nX4_18 : z_N RX4 18 11 [.null] := ⟨(RX6, TX6, 1), tyX6, rfl, iX6, (z_w 133 ((lwg_1 88).trans rfl) (by decide +kernel)), (z_w 98 ((lwg_1 53).trans rfl) (by decide +kernel)), (z_w 48 ((lwg_1 3).trans rfl) (by decide +kernel)), tyX6_ok, rfl, by decide, rfl⟩
theorem lX4_20 : Cond.methodLinkNest RX4 20 yX6_init "Loopdefaults" ∈ z_nst := (z_wn 134 ((lwg_1 89).trans rfl) (by decide +kernel))
theorem fX4_21 : z_F RX4 21 9 3 := ⟨(RX4, TX4, 5), "Loopdefaults$Table", rfl, by decide, iX4, Or.inl (z_w 139 ((lwg_1 94).trans rfl) (by decide +kernel)), Or.inl rfl⟩
theorem fX4_25 : z_F RX4 25 9 0 := ⟨(RX4, TX4, 5), "Loopdefaults$Table", rfl, by decide, iX4, Or.inl (z_w 135 ((lwg_1 90).trans rfl) (by decide +kernel)), Or.inl rfl⟩
abbrev mX4_look : z_M := (yX4_look, cX4_look, 2, (some .int), [])
theorem kX4_look : z_okm mX4_look 1 := ⟨rfl, (z_w 333 ((lwg_2 48).trans rfl) (by decide +kernel)), (z_w 49 ((lwg_1 4).trans rfl) (by decide +kernel)), ncl_X4, pds_4, by decide⟩
theorem inX4_look : Cond.instanceMethod yX4_look ∈ z_tbl := (z_w 331 ((lwg_2 46).trans rfl) (by decide +kernel))
theorem seX4_look : Cond.selects RX4 yX4_look yX4_look ∈ z_tbl := (z_w 332 ((lwg_2 47).trans rfl) (by decide +kernel))
abbrev mX4_keyAt : z_M := (yX4_keyAt, cX4_keyAt, 2, (some .int), [])
theorem kX4_keyAt : z_okm mX4_keyAt 1 := ⟨rfl, (z_w 329 ((lwg_2 44).trans rfl) (by decide +kernel)), (z_w 49 ((lwg_1 4).trans rfl) (by decide +kernel)), ncl_X4, pds_4, by decide⟩
theorem inX4_keyAt : Cond.instanceMethod yX4_keyAt ∈ z_tbl := (z_w 327 ((lwg_2 42).trans rfl) (by decide +kernel))
theorem seX4_keyAt : Cond.selects RX4 yX4_keyAt yX4_keyAt ∈ z_tbl := (z_w 328 ((lwg_2 43).trans rfl) (by decide +kernel))
theorem fX4_29 : z_F RX4 29 9 4 := ⟨(RX4, TX4, 5), "Loopdefaults$Table", rfl, by decide, iX4, Or.inl (z_w 142 ((lwg_1 97).trans rfl) (by decide +kernel)), Or.inl rfl⟩
abbrev mX4_store : z_M := (yX4_store, cX4_store, 4, (some .int), [])
theorem pds_22 : (parseMethodDescriptor "(II)I").map (fun d => d.parameters.length) = some 2 := by decide +kernel
theorem kX4_store : z_okm mX4_store 2 := ⟨rfl, (z_w 415 ((lwg_2 130).trans rfl) (by decide +kernel)), (z_w 49 ((lwg_1 4).trans rfl) (by decide +kernel)), ncl_X4, pds_22, by decide⟩
theorem inX4_store : Cond.instanceMethod yX4_store ∈ z_tbl := (z_w 413 ((lwg_2 128).trans rfl) (by decide +kernel))
theorem seX4_store : Cond.selects RX4 yX4_store yX4_store ∈ z_tbl := (z_w 414 ((lwg_2 129).trans rfl) (by decide +kernel))
theorem lX4_33 : Cond.methodLink RX4 33 yX6_add ∈ z_tbl := (z_w 416 ((lwg_2 131).trans rfl) (by decide +kernel))
theorem lX4_37 : Cond.methodLink RX4 37 yX4_look ∈ z_tbl := (z_w 393 ((lwg_2 108).trans rfl) (by decide +kernel))
abbrev mX4_addKey : z_M := (yX4_addKey, cX4_addKey, 3, none, [])
theorem kX4_addKey : z_okm mX4_addKey 1 := ⟨rfl, (z_w 420 ((lwg_2 135).trans rfl) (by decide +kernel)), (z_w 49 ((lwg_1 4).trans rfl) (by decide +kernel)), ncl_X4, pds_3, by decide⟩
theorem inX4_addKey : Cond.instanceMethod yX4_addKey ∈ z_tbl := (z_w 419 ((lwg_2 134).trans rfl) (by decide +kernel))
theorem seX4_addKey : Cond.selects RX4 yX4_addKey yX4_addKey ∈ z_tbl := (z_w 6 (by decide +kernel) (by decide +kernel))
theorem lX4_41 : Cond.methodLink RX4 41 yX4_addKey ∈ z_tbl := (z_w 417 ((lwg_2 132).trans rfl) (by decide +kernel))
abbrev mX4_setValue : z_M := (yX4_setValue, cX4_setValue, 3, none, [])
theorem kX4_setValue : z_okm mX4_setValue 2 := ⟨rfl, (z_w 424 ((lwg_2 139).trans rfl) (by decide +kernel)), (z_w 49 ((lwg_1 4).trans rfl) (by decide +kernel)), ncl_X4, pds_11, by decide⟩
theorem inX4_setValue : Cond.instanceMethod yX4_setValue ∈ z_tbl := (z_w 422 ((lwg_2 137).trans rfl) (by decide +kernel))
theorem seX4_setValue : Cond.selects RX4 yX4_setValue yX4_setValue ∈ z_tbl := (z_w 423 ((lwg_2 138).trans rfl) (by decide +kernel))
theorem lX4_44 : Cond.methodLink RX4 44 yX4_setValue ∈ z_tbl := (z_w 421 ((lwg_2 136).trans rfl) (by decide +kernel))
abbrev mX4_sendAway : z_M := (yX4_sendAway, cX4_sendAway, 3, (some .int), [])
theorem kX4_sendAway : z_okm mX4_sendAway 1 := ⟨rfl, (z_w 428 ((lwg_2 143).trans rfl) (by decide +kernel)), (z_w 49 ((lwg_1 4).trans rfl) (by decide +kernel)), ncl_X4, pds_4, by decide⟩
theorem inX4_sendAway : Cond.instanceMethod yX4_sendAway ∈ z_tbl := (z_w 426 ((lwg_2 141).trans rfl) (by decide +kernel))
theorem seX4_sendAway : Cond.selects RX4 yX4_sendAway yX4_sendAway ∈ z_tbl := (z_w 427 ((lwg_2 142).trans rfl) (by decide +kernel))
abbrev mX4_takeKey : z_M := (yX4_takeKey, cX4_takeKey, 4, none, [])
theorem kX4_takeKey : z_okm mX4_takeKey 1 := ⟨rfl, (z_w 432 ((lwg_2 147).trans rfl) (by decide +kernel)), (z_w 49 ((lwg_1 4).trans rfl) (by decide +kernel)), ncl_X4, pds_3, by decide⟩
theorem inX4_takeKey : Cond.instanceMethod yX4_takeKey ∈ z_tbl := (z_w 431 ((lwg_2 146).trans rfl) (by decide +kernel))
theorem seX4_takeKey : Cond.selects RX4 yX4_takeKey yX4_takeKey ∈ z_tbl := (z_w 7 (by decide +kernel) (by decide +kernel))
theorem lX4_48 : Cond.methodLink RX4 48 yX4_takeKey ∈ z_tbl := (z_w 429 ((lwg_2 144).trans rfl) (by decide +kernel))
abbrev mX4_makeEmpty : z_M := (yX4_makeEmpty, cX4_makeEmpty, 3, (some .int), [])
theorem kX4_makeEmpty : z_okm mX4_makeEmpty 0 := ⟨rfl, (z_w 1139 ((lwg_5 134).trans rfl) (by decide +kernel)), (z_w 49 ((lwg_1 4).trans rfl) (by decide +kernel)), ncl_X4, pds_17, by decide⟩
theorem inX4_makeEmpty : Cond.instanceMethod yX4_makeEmpty ∈ z_tbl := (z_w 1137 ((lwg_5 132).trans rfl) (by decide +kernel))
theorem seX4_makeEmpty : Cond.selects RX4 yX4_makeEmpty yX4_makeEmpty ∈ z_tbl := (z_w 1138 ((lwg_5 133).trans rfl) (by decide +kernel))
abbrev mX4_become : z_M := (yX4_become, cX4_become, 2, none, [])
theorem pds_23 : (parseMethodDescriptor "(LLoopdefaults$Table;)V").map (fun d => d.parameters.length) = some 1 := by decide +kernel
theorem kX4_become : z_okm mX4_become 1 := ⟨rfl, (z_w 383 ((lwg_2 98).trans rfl) (by decide +kernel)), (z_w 49 ((lwg_1 4).trans rfl) (by decide +kernel)), ncl_X4, pds_23, by decide⟩
theorem inX4_become : Cond.instanceMethod yX4_become ∈ z_tbl := (z_w 381 ((lwg_2 96).trans rfl) (by decide +kernel))
theorem seX4_become : Cond.selects RX4 yX4_become yX4_become ∈ z_tbl := (z_w 382 ((lwg_2 97).trans rfl) (by decide +kernel))
theorem lX4_51 : Cond.methodLinkNest RX4 51 yX8_takeOver "Loopdefaults" ∈ z_nst := (z_wn 384 ((lwg_2 99).trans rfl) (by decide +kernel))
abbrev mX4_sortKeys : z_M := (yX4_sortKeys, cX4_sortKeys, 3, none, [])
theorem kX4_sortKeys : z_okm mX4_sortKeys 0 := ⟨rfl, (z_w 388 ((lwg_2 103).trans rfl) (by decide +kernel)), (z_w 49 ((lwg_1 4).trans rfl) (by decide +kernel)), ncl_X4, pds_1, by decide⟩
theorem inX4_sortKeys : Cond.instanceMethod yX4_sortKeys ∈ z_tbl := (z_w 387 ((lwg_2 102).trans rfl) (by decide +kernel))
theorem seX4_sortKeys : Cond.selects RX4 yX4_sortKeys yX4_sortKeys ∈ z_tbl := (z_w 3 (by decide +kernel) (by decide +kernel))
theorem lX4_55 : Cond.methodLink RX4 55 yX4_sortKeys ∈ z_tbl := (z_w 385 ((lwg_2 100).trans rfl) (by decide +kernel))
abbrev mX4_hasPairsOf : z_M := (yX4_hasPairsOf, cX4_hasPairsOf, 3, (some .boolean), [])
theorem pds_24 : (parseMethodDescriptor "(LLoopdefaults$Table;)Z").map (fun d => d.parameters.length) = some 1 := by decide +kernel
theorem kX4_hasPairsOf : z_okm mX4_hasPairsOf 1 := ⟨rfl, (z_w 392 ((lwg_2 107).trans rfl) (by decide +kernel)), (z_w 49 ((lwg_1 4).trans rfl) (by decide +kernel)), ncl_X4, pds_24, by decide⟩
theorem inX4_hasPairsOf : Cond.instanceMethod yX4_hasPairsOf ∈ z_tbl := (z_w 390 ((lwg_2 105).trans rfl) (by decide +kernel))
theorem seX4_hasPairsOf : Cond.selects RX4 yX4_hasPairsOf yX4_hasPairsOf ∈ z_tbl := (z_w 391 ((lwg_2 106).trans rfl) (by decide +kernel))
abbrev mX4_reckonAbsent : z_M := (yX4_reckonAbsent, cX4_reckonAbsent, 6, (some .int), [])
theorem pds_25 : (parseMethodDescriptor "(III)I").map (fun d => d.parameters.length) = some 3 := by decide +kernel
theorem kX4_reckonAbsent : z_okm mX4_reckonAbsent 3 := ⟨rfl, (z_w 436 ((lwg_2 151).trans rfl) (by decide +kernel)), (z_w 49 ((lwg_1 4).trans rfl) (by decide +kernel)), ncl_X4, pds_25, by decide⟩
theorem inX4_reckonAbsent : Cond.instanceMethod yX4_reckonAbsent ∈ z_tbl := (z_w 434 ((lwg_2 149).trans rfl) (by decide +kernel))
theorem seX4_reckonAbsent : Cond.selects RX4 yX4_reckonAbsent yX4_reckonAbsent ∈ z_tbl := (z_w 435 ((lwg_2 150).trans rfl) (by decide +kernel))
abbrev mX8_ruleTells : z_M := (yX8_ruleTells, cX8_ruleTells, 6, (some .int), [])
theorem pds_26 : (parseMethodDescriptor "(IIII)I").map (fun d => d.parameters.length) = some 4 := by decide +kernel
theorem kX8_ruleTells : z_okm mX8_ruleTells 4 := ⟨rfl, (z_w 408 ((lwg_2 123).trans rfl) (by decide +kernel)), (z_w 46 ((lwg_1 1).trans rfl) (by decide +kernel)), ncl_X8, pds_26, by decide⟩
theorem stX8_ruleTells : Cond.static yX8_ruleTells ∈ z_tbl := (z_w 407 ((lwg_2 122).trans rfl) (by decide +kernel))
theorem lX4_58 : Cond.methodLinkNest RX4 58 yX8_ruleTells "Loopdefaults" ∈ z_nst := (z_wn 406 ((lwg_2 121).trans rfl) (by decide +kernel))
theorem lX4_62 : Cond.methodLink RX4 62 yX4_store ∈ z_tbl := (z_w 412 ((lwg_2 127).trans rfl) (by decide +kernel))
abbrev mX4_reckonPresent : z_M := (yX4_reckonPresent, cX4_reckonPresent, 4, (some .int), [])
theorem kX4_reckonPresent : z_okm mX4_reckonPresent 3 := ⟨rfl, (z_w 440 ((lwg_2 155).trans rfl) (by decide +kernel)), (z_w 49 ((lwg_1 4).trans rfl) (by decide +kernel)), ncl_X4, pds_25, by decide⟩
theorem inX4_reckonPresent : Cond.instanceMethod yX4_reckonPresent ∈ z_tbl := (z_w 438 ((lwg_2 153).trans rfl) (by decide +kernel))
theorem seX4_reckonPresent : Cond.selects RX4 yX4_reckonPresent yX4_reckonPresent ∈ z_tbl := (z_w 439 ((lwg_2 154).trans rfl) (by decide +kernel))
abbrev mX4_reckon : z_M := (yX4_reckon, cX4_reckon, 6, (some .int), [])
theorem kX4_reckon : z_okm mX4_reckon 3 := ⟨rfl, (z_w 405 ((lwg_2 120).trans rfl) (by decide +kernel)), (z_w 49 ((lwg_1 4).trans rfl) (by decide +kernel)), ncl_X4, pds_25, by decide⟩
theorem inX4_reckon : Cond.instanceMethod yX4_reckon ∈ z_tbl := (z_w 403 ((lwg_2 118).trans rfl) (by decide +kernel))
theorem seX4_reckon : Cond.selects RX4 yX4_reckon yX4_reckon ∈ z_tbl := (z_w 404 ((lwg_2 119).trans rfl) (by decide +kernel))
theorem lX4_66 : Cond.methodLink RX4 66 yX4_reckon ∈ z_tbl := (z_w 441 ((lwg_2 156).trans rfl) (by decide +kernel))
theorem lX4_70 : Cond.methodLink RX4 70 yX4_sendAway ∈ z_tbl := (z_w 425 ((lwg_2 140).trans rfl) (by decide +kernel))
abbrev mX4_join : z_M := (yX4_join, cX4_join, 4, (some .int), [])
theorem kX4_join : z_okm mX4_join 3 := ⟨rfl, (z_w 445 ((lwg_2 160).trans rfl) (by decide +kernel)), (z_w 49 ((lwg_1 4).trans rfl) (by decide +kernel)), ncl_X4, pds_25, by decide⟩
theorem inX4_join : Cond.instanceMethod yX4_join ∈ z_tbl := (z_w 443 ((lwg_2 158).trans rfl) (by decide +kernel))
theorem seX4_join : Cond.selects RX4 yX4_join yX4_join ∈ z_tbl := (z_w 444 ((lwg_2 159).trans rfl) (by decide +kernel))
abbrev mX4_pairs : z_M := (yX4_pairs, cX4_pairs, 4, (some (.object "java/lang/String")), [])
theorem kX4_pairs : z_okm mX4_pairs 0 := ⟨rfl, (z_w 1303 ((lwg_6 58).trans rfl) (by decide +kernel)), (z_w 49 ((lwg_1 4).trans rfl) (by decide +kernel)), ncl_X4, pds_5, by decide⟩
theorem inX4_pairs : Cond.instanceMethod yX4_pairs ∈ z_tbl := (z_w 1301 ((lwg_6 56).trans rfl) (by decide +kernel))
theorem seX4_pairs : Cond.selects RX4 yX4_pairs yX4_pairs ∈ z_tbl := (z_w 1302 ((lwg_6 57).trans rfl) (by decide +kernel))
theorem iJ4 : ∀ x ∈ u_ws RJ4 TJ4 4, x ∈ z_tbl := z_all [586, 588, 590, 592] (by decide +kernel) (by decide +kernel)
theorem tJ4_0 : z_FT 1 0 (.array .byte) false := ⟨(RJ4, TJ4, 4), tyJ4, rfl, rfl, tyJ4_ok, rfl, nmJ4⟩
theorem tJ4_1 : z_FT 1 1 .byte false := ⟨(RJ4, TJ4, 4), tyJ4, rfl, rfl, tyJ4_ok, rfl, nmJ4⟩
theorem tJ4_3 : z_FT 1 3 .int false := ⟨(RJ4, TJ4, 4), tyJ4, rfl, rfl, tyJ4_ok, rfl, nmJ4⟩
theorem nX4_73 : z_N RX4 73 1 [.null, .int 0, .int 0, .int 0] := ⟨(RJ4, TJ4, 4), tyJ4, rfl, iJ4, (z_w 1304 ((lwg_6 59).trans rfl) (by decide +kernel)), (z_w 565 ((lwg_3 40).trans rfl) (by decide +kernel)), (z_w 75 ((lwg_1 30).trans rfl) (by decide +kernel)), tyJ4_ok, rfl, by decide, rfl⟩
abbrev mJ4_init_da8c8 : z_M := (yJ4_init_da8c8, cJ4_init_da8c8, 1, none, [])
theorem ncl_J4 : RJ4 ≠ "java/lang/invoke/MethodHandle" ∧ RJ4 ≠ "java/lang/invoke/VarHandle" := ⟨by decide +kernel, by decide +kernel⟩
theorem kJ4_init_da8c8 : z_okm mJ4_init_da8c8 0 := ⟨rfl, (z_w 568 ((lwg_3 43).trans rfl) (by decide +kernel)), (z_w 75 ((lwg_1 30).trans rfl) (by decide +kernel)), ncl_J4, pds_1, by decide⟩
theorem inJ4_init_da8c8 : Cond.instanceMethod yJ4_init_da8c8 ∈ z_tbl := (z_w 567 ((lwg_3 42).trans rfl) (by decide +kernel))
theorem lX4_75 : Cond.methodLink RX4 75 yJ4_init_da8c8 ∈ z_tbl := (z_w 1305 ((lwg_6 60).trans rfl) (by decide +kernel))
abbrev mJ4_append_cf468 : z_M := (yJ4_append_cf468, cJ4_append_cf468, 2, (some (.object "java/lang/StringBuilder")), [])
theorem pds_28 : (parseMethodDescriptor "(C)Ljava/lang/StringBuilder;").map (fun d => d.parameters.length) = some 1 := by decide +kernel
theorem kJ4_append_cf468 : z_okm mJ4_append_cf468 1 := ⟨rfl, (z_w 598 ((lwg_3 73).trans rfl) (by decide +kernel)), (z_w 75 ((lwg_1 30).trans rfl) (by decide +kernel)), ncl_J4, pds_28, by decide⟩
theorem inJ4_append_cf468 : Cond.instanceMethod yJ4_append_cf468 ∈ z_tbl := (z_w 596 ((lwg_3 71).trans rfl) (by decide +kernel))
theorem seJ4_append_cf468 : Cond.selects RJ4 yJ4_append_cf468 yJ4_append_cf468 ∈ z_tbl := (z_w 597 ((lwg_3 72).trans rfl) (by decide +kernel))
theorem lX4_76 : Cond.methodLink RX4 76 yJ4_append_cf468 ∈ z_tbl := (z_w 1306 ((lwg_6 61).trans rfl) (by decide +kernel))
theorem lX4_80 : Cond.methodLink RX4 80 yX4_keyAt ∈ z_tbl := (z_w 1307 ((lwg_6 62).trans rfl) (by decide +kernel))
abbrev mJ4_append_bf812 : z_M := (yJ4_append_bf812, cJ4_append_bf812, 2, (some (.object "java/lang/StringBuilder")), [])
theorem pds_29 : (parseMethodDescriptor "(I)Ljava/lang/StringBuilder;").map (fun d => d.parameters.length) = some 1 := by decide +kernel
theorem kJ4_append_bf812 : z_okm mJ4_append_bf812 1 := ⟨rfl, (z_w 693 ((lwg_3 168).trans rfl) (by decide +kernel)), (z_w 75 ((lwg_1 30).trans rfl) (by decide +kernel)), ncl_J4, pds_29, by decide⟩
theorem inJ4_append_bf812 : Cond.instanceMethod yJ4_append_bf812 ∈ z_tbl := (z_w 691 ((lwg_3 166).trans rfl) (by decide +kernel))
theorem seJ4_append_bf812 : Cond.selects RJ4 yJ4_append_bf812 yJ4_append_bf812 ∈ z_tbl := (z_w 692 ((lwg_3 167).trans rfl) (by decide +kernel))
theorem lX4_83 : Cond.methodLink RX4 83 yJ4_append_bf812 ∈ z_tbl := (z_w 1308 ((lwg_6 63).trans rfl) (by decide +kernel))
abbrev mJ4_toString_0e30d : z_M := (yJ4_toString_0e30d, cJ4_toString_0e30d, 1, (some (.object "java/lang/String")), [])
theorem kJ4_toString_0e30d : z_okm mJ4_toString_0e30d 0 := ⟨rfl, (z_w 727 ((lwg_3 202).trans rfl) (by decide +kernel)), (z_w 75 ((lwg_1 30).trans rfl) (by decide +kernel)), ncl_J4, pds_5, by decide⟩
theorem inJ4_toString_0e30d : Cond.instanceMethod yJ4_toString_0e30d ∈ z_tbl := (z_w 725 ((lwg_3 200).trans rfl) (by decide +kernel))
theorem seJ4_toString_0e30d : Cond.selects RJ4 yJ4_toString_0e30d yJ4_toString_0e30d ∈ z_tbl := (z_w 726 ((lwg_3 201).trans rfl) (by decide +kernel))
theorem lX4_86 : Cond.methodLink RX4 86 yJ4_toString_0e30d ∈ z_tbl := (z_w 1309 ((lwg_6 64).trans rfl) (by decide +kernel))
theorem iX5 : ∀ x ∈ u_ws RX5 TX5 5, x ∈ z_tbl := z_all [1118, 1119, 1120, 1114, 1116] (by decide +kernel) (by decide +kernel)
theorem tX5_0 : z_FT 10 0 (.object "Loopdefaults$Tally") true := ⟨(RX5, TX5, 5), tyX5, rfl, rfl, tyX5_ok, rfl, nmX5⟩
theorem tX5_1 : z_FT 10 1 .int false := ⟨(RX5, TX5, 5), tyX5, rfl, rfl, tyX5_ok, rfl, nmX5⟩
theorem tX5_2 : z_FT 10 2 .int false := ⟨(RX5, TX5, 5), tyX5, rfl, rfl, tyX5_ok, rfl, nmX5⟩
theorem tX5_3 : z_FT 10 3 (.object "Loopdefaults$Table") true := ⟨(RX5, TX5, 5), tyX5, rfl, rfl, tyX5_ok, rfl, nmX5⟩
theorem tX5_4 : z_FT 10 4 .int false := ⟨(RX5, TX5, 5), tyX5, rfl, rfl, tyX5_ok, rfl, nmX5⟩
abbrev mX5_init : z_M := (yX5_init, cX5_init, 2, none, [])
theorem ncl_X5 : RX5 ≠ "java/lang/invoke/MethodHandle" ∧ RX5 ≠ "java/lang/invoke/VarHandle" := ⟨by decide +kernel, by decide +kernel⟩
theorem kX5_init : z_okm mX5_init 1 := ⟨rfl, (z_w 1110 ((lwg_5 105).trans rfl) (by decide +kernel)), (z_w 79 ((lwg_1 34).trans rfl) (by decide +kernel)), ncl_X5, pds_23, by decide⟩
theorem inX5_init : Cond.instanceMethod yX5_init ∈ z_tbl := (z_w 1109 ((lwg_5 104).trans rfl) (by decide +kernel))
theorem fX5_3 : z_F RX5 3 9 3 := ⟨(RX4, TX4, 5), "Loopdefaults$Table", rfl, by decide, iX4, Or.inr ⟨"Loopdefaults", (z_wn 138 ((lwg_1 93).trans rfl) (by decide +kernel))⟩, Or.inl rfl⟩
theorem lX5_9 : Cond.methodLink RX5 9 yX7_init ∈ z_tbl := (z_w 1111 ((lwg_5 106).trans rfl) (by decide +kernel))
theorem fX5_15 : z_F RX5 15 10 3 := ⟨(RX5, TX5, 5), "Loopdefaults$TableWalk", rfl, by decide, iX5, Or.inl (z_w 1112 ((lwg_5 107).trans rfl) (by decide +kernel)), Or.inl rfl⟩
abbrev mX5_isMore : z_M := (yX5_isMore, cX5_isMore, 1, (some .boolean), [])
theorem kX5_isMore : z_okm mX5_isMore 0 := ⟨rfl, (z_w 298 ((lwg_2 13).trans rfl) (by decide +kernel)), (z_w 79 ((lwg_1 34).trans rfl) (by decide +kernel)), ncl_X5, pds_10, by decide⟩
theorem inX5_isMore : Cond.instanceMethod yX5_isMore ∈ z_tbl := (z_w 297 ((lwg_2 12).trans rfl) (by decide +kernel))
theorem fX5_21 : z_F RX5 21 10 4 := ⟨(RX5, TX5, 5), "Loopdefaults$TableWalk", rfl, by decide, iX5, Or.inl (z_w 1113 ((lwg_5 108).trans rfl) (by decide +kernel)), Or.inl rfl⟩
theorem fX5_25 : z_F RX5 25 9 4 := ⟨(RX4, TX4, 5), "Loopdefaults$Table", rfl, by decide, iX4, Or.inr ⟨"Loopdefaults", (z_wn 141 ((lwg_1 96).trans rfl) (by decide +kernel))⟩, Or.inl rfl⟩
abbrev mX5_next : z_M := (yX5_next, cX5_next, 1, (some .int), [])
theorem kX5_next : z_okm mX5_next 0 := ⟨rfl, (z_w 325 ((lwg_2 40).trans rfl) (by decide +kernel)), (z_w 79 ((lwg_1 34).trans rfl) (by decide +kernel)), ncl_X5, pds_17, by decide⟩
theorem inX5_next : Cond.instanceMethod yX5_next ∈ z_tbl := (z_w 324 ((lwg_2 39).trans rfl) (by decide +kernel))
theorem lX5_28 : Cond.methodLink RX5 28 yX4_keyAt ∈ z_tbl := (z_w 326 ((lwg_2 41).trans rfl) (by decide +kernel))
theorem fX5_32 : z_F RX5 32 10 1 := ⟨(RX5, TX5, 5), "Loopdefaults$TableWalk", rfl, by decide, iX5, Or.inl (z_w 259 ((lwg_1 214).trans rfl) (by decide +kernel)), Or.inr (z_w 260 ((lwg_1 215).trans rfl) (by decide +kernel))⟩
theorem lX5_35 : Cond.methodLink RX5 35 yX4_look ∈ z_tbl := (z_w 330 ((lwg_2 45).trans rfl) (by decide +kernel))
theorem fX5_38 : z_F RX5 38 10 2 := ⟨(RX5, TX5, 5), "Loopdefaults$TableWalk", rfl, by decide, iX5, Or.inl (z_w 266 ((lwg_1 221).trans rfl) (by decide +kernel)), Or.inr (z_w 267 ((lwg_1 222).trans rfl) (by decide +kernel))⟩
abbrev mX5_putInPlace : z_M := (yX5_putInPlace, cX5_putInPlace, 2, (some .boolean), [])
theorem kX5_putInPlace : z_okm mX5_putInPlace 1 := ⟨rfl, (z_w 1001 ((lwg_4 236).trans rfl) (by decide +kernel)), (z_w 79 ((lwg_1 34).trans rfl) (by decide +kernel)), ncl_X5, pds_2, by decide⟩
theorem inX5_putInPlace : Cond.instanceMethod yX5_putInPlace ∈ z_tbl := (z_w 1000 ((lwg_4 235).trans rfl) (by decide +kernel))
theorem fX5_41 : z_F RX5 41 10 0 := ⟨(RX5, TX5, 5), "Loopdefaults$TableWalk", rfl, by decide, iX5, Or.inl (z_w 255 ((lwg_1 210).trans rfl) (by decide +kernel)), Or.inr (z_w 256 ((lwg_1 211).trans rfl) (by decide +kernel))⟩
theorem lX5_42 : Cond.methodLink RX5 42 yX6_add ∈ z_tbl := (z_w 1002 ((lwg_4 237).trans rfl) (by decide +kernel))
theorem lX5_48 : Cond.methodLink RX5 48 yX4_setValue ∈ z_tbl := (z_w 1003 ((lwg_4 238).trans rfl) (by decide +kernel))
-- call X6 3: ('"java/lang/Object"', '"<init>"', '"()V"')
theorem oX6_3 : Cond.methodLink RX6 3 Lib.objectInit ∈ z_tbl := (z_w 102 ((lwg_1 57).trans rfl) (by decide +kernel))
theorem fX6_9 : z_F RX6 9 11 0 := ⟨(RX6, TX6, 1), "Loopdefaults$Tally", rfl, by decide, iX6, Or.inl (z_w 103 ((lwg_1 58).trans rfl) (by decide +kernel)), Or.inl rfl⟩
abbrev mX6_of : z_M := (yX6_of, cX6_of, 2, (some .int), [])
theorem kX6_of : z_okm mX6_of 1 := ⟨rfl, (z_w 337 ((lwg_2 52).trans rfl) (by decide +kernel)), (z_w 48 ((lwg_1 3).trans rfl) (by decide +kernel)), ncl_X6, pds_4, by decide⟩
theorem inX6_of : Cond.instanceMethod yX6_of ∈ z_tbl := (z_w 335 ((lwg_2 50).trans rfl) (by decide +kernel))
theorem seX6_of : Cond.selects RX6 yX6_of yX6_of ∈ z_tbl := (z_w 336 ((lwg_2 51).trans rfl) (by decide +kernel))
abbrev mX6_startAnew : z_M := (yX6_startAnew, cX6_startAnew, 3, (some .int), [])
theorem kX6_startAnew : z_okm mX6_startAnew 0 := ⟨rfl, (z_w 219 ((lwg_1 174).trans rfl) (by decide +kernel)), (z_w 48 ((lwg_1 3).trans rfl) (by decide +kernel)), ncl_X6, pds_17, by decide⟩
theorem inX6_startAnew : Cond.instanceMethod yX6_startAnew ∈ z_tbl := (z_w 217 ((lwg_1 172).trans rfl) (by decide +kernel))
theorem seX6_startAnew : Cond.selects RX6 yX6_startAnew yX6_startAnew ∈ z_tbl := (z_w 218 ((lwg_1 173).trans rfl) (by decide +kernel))
-- call X7 3: ('"java/lang/Object"', '"<init>"', '"()V"')
theorem oX7_3 : Cond.methodLink RX7 3 Lib.objectInit ∈ z_tbl := (z_w 247 ((lwg_1 202).trans rfl) (by decide +kernel))
theorem fX7_9_X2 : z_F RX7 9 7 0 := ⟨(RX2, TX2, 5), "Loopdefaults$Walk", rfl, by decide, iX2, Or.inl (z_w 254 ((lwg_1 209).trans rfl) (by decide +kernel)), Or.inl rfl⟩
theorem fX7_9_X3 : z_F RX7 9 8 0 := ⟨(RX3, TX3, 6), "Loopdefaults$Walk", rfl, by decide, iX3, Or.inl (z_w 254 ((lwg_1 209).trans rfl) (by decide +kernel)), Or.inl rfl⟩
theorem fX7_9_X5 : z_F RX7 9 10 0 := ⟨(RX5, TX5, 5), "Loopdefaults$Walk", rfl, by decide, iX5, Or.inl (z_w 254 ((lwg_1 209).trans rfl) (by decide +kernel)), Or.inl rfl⟩
theorem lX7_15 : Cond.methodLink RX7 15 yX6_add ∈ z_tbl := (z_w 248 ((lwg_1 203).trans rfl) (by decide +kernel))
abbrev mX7_ask : z_M := (yX7_ask, cX7_ask, 1, (some .boolean), [])
theorem kX7_ask : z_okm mX7_ask 0 := ⟨rfl, (z_w 286 ((lwg_2 1).trans rfl) (by decide +kernel)), (z_w 72 ((lwg_1 27).trans rfl) (by decide +kernel)), ncl_X7, pds_10, by decide⟩
theorem inX7_ask : Cond.instanceMethod yX7_ask ∈ z_tbl := (z_w 281 ((lwg_1 236).trans rfl) (by decide +kernel))
-- call X7 21: ('"Loopdefaults$Walk"', '"isMore"', '"()Z"')
theorem lX7_21 : Cond.methodLink RX7 21 ⟨"Loopdefaults$Walk", "isMore", "()Z"⟩ ∈ z_tbl := (z_w 287 ((lwg_2 2).trans rfl) (by decide +kernel))
theorem cuX7_21_X2 : z_CU RX7 RX2 "Loopdefaults$Walk" 21 ⟨"Loopdefaults$Walk", "isMore", "()Z"⟩ mX2_isMore := ⟨lX7_21, (z_w 289 ((lwg_2 4).trans rfl) (by decide +kernel)), Or.inr (z_wn 288 ((lwg_2 3).trans rfl) (by decide +kernel)), (z_w 290 ((lwg_2 5).trans rfl) (by decide +kernel)), inX2_isMore, ⟨by decide +kernel, by decide +kernel⟩, rfl⟩
theorem cuX7_21_X3 : z_CU RX7 RX3 "Loopdefaults$Walk" 21 ⟨"Loopdefaults$Walk", "isMore", "()Z"⟩ mX3_isMore := ⟨lX7_21, (z_w 289 ((lwg_2 4).trans rfl) (by decide +kernel)), Or.inr (z_wn 288 ((lwg_2 3).trans rfl) (by decide +kernel)), (z_w 293 ((lwg_2 8).trans rfl) (by decide +kernel)), inX3_isMore, ⟨by decide +kernel, by decide +kernel⟩, rfl⟩
theorem cuX7_21_X5 : z_CU RX7 RX5 "Loopdefaults$Walk" 21 ⟨"Loopdefaults$Walk", "isMore", "()Z"⟩ mX5_isMore := ⟨lX7_21, (z_w 289 ((lwg_2 4).trans rfl) (by decide +kernel)), Or.inr (z_wn 288 ((lwg_2 3).trans rfl) (by decide +kernel)), (z_w 296 ((lwg_2 11).trans rfl) (by decide +kernel)), inX5_isMore, ⟨by decide +kernel, by decide +kernel⟩, rfl⟩
abbrev mX7_give : z_M := (yX7_give, cX7_give, 1, (some .int), [])
theorem kX7_give : z_okm mX7_give 0 := ⟨rfl, (z_w 305 ((lwg_2 20).trans rfl) (by decide +kernel)), (z_w 72 ((lwg_1 27).trans rfl) (by decide +kernel)), ncl_X7, pds_17, by decide⟩
theorem inX7_give : Cond.instanceMethod yX7_give ∈ z_tbl := (z_w 300 ((lwg_2 15).trans rfl) (by decide +kernel))
-- call X7 25: ('"Loopdefaults$Walk"', '"next"', '"()I"')
theorem lX7_25 : Cond.methodLink RX7 25 ⟨"Loopdefaults$Walk", "next", "()I"⟩ ∈ z_tbl := (z_w 306 ((lwg_2 21).trans rfl) (by decide +kernel))
theorem cuX7_25_X2 : z_CU RX7 RX2 "Loopdefaults$Walk" 25 ⟨"Loopdefaults$Walk", "next", "()I"⟩ mX2_next := ⟨lX7_25, (z_w 308 ((lwg_2 23).trans rfl) (by decide +kernel)), Or.inr (z_wn 307 ((lwg_2 22).trans rfl) (by decide +kernel)), (z_w 309 ((lwg_2 24).trans rfl) (by decide +kernel)), inX2_next, ⟨by decide +kernel, by decide +kernel⟩, rfl⟩
theorem cuX7_25_X3 : z_CU RX7 RX3 "Loopdefaults$Walk" 25 ⟨"Loopdefaults$Walk", "next", "()I"⟩ mX3_next := ⟨lX7_25, (z_w 308 ((lwg_2 23).trans rfl) (by decide +kernel)), Or.inr (z_wn 307 ((lwg_2 22).trans rfl) (by decide +kernel)), (z_w 320 ((lwg_2 35).trans rfl) (by decide +kernel)), inX3_next, ⟨by decide +kernel, by decide +kernel⟩, rfl⟩
theorem cuX7_25_X5 : z_CU RX7 RX5 "Loopdefaults$Walk" 25 ⟨"Loopdefaults$Walk", "next", "()I"⟩ mX5_next := ⟨lX7_25, (z_w 308 ((lwg_2 23).trans rfl) (by decide +kernel)), Or.inr (z_wn 307 ((lwg_2 22).trans rfl) (by decide +kernel)), (z_w 323 ((lwg_2 38).trans rfl) (by decide +kernel)), inX5_next, ⟨by decide +kernel, by decide +kernel⟩, rfl⟩
theorem iX8 : ∀ x ∈ u_ws RX8 TX8 9, x ∈ z_tbl := z_all [193, 195, 197, 199, 201, 203, 205, 207, 209] (by decide +kernel) (by decide +kernel)
theorem tX8_0 : z_FT 12 0 (.array (.object "Loopdefaults$Row")) true := ⟨(RX8, TX8, 9), tyX8, rfl, rfl, tyX8_ok, rfl, nmX8⟩
theorem tX8_1 : z_FT 12 1 (.object "Loopdefaults$Table") true := ⟨(RX8, TX8, 9), tyX8, rfl, rfl, tyX8_ok, rfl, nmX8⟩
theorem tX8_2 : z_FT 12 2 (.array (.object "Loopdefaults$Table")) true := ⟨(RX8, TX8, 9), tyX8, rfl, rfl, tyX8_ok, rfl, nmX8⟩
theorem tX8_3 : z_FT 12 3 (.array (.object "Loopdefaults$Hearer")) true := ⟨(RX8, TX8, 9), tyX8, rfl, rfl, tyX8_ok, rfl, nmX8⟩
theorem tX8_4 : z_FT 12 4 (.object "Loopdefaults$Row") true := ⟨(RX8, TX8, 9), tyX8, rfl, rfl, tyX8_ok, rfl, nmX8⟩
theorem tX8_5 : z_FT 12 5 (.object "Loopdefaults$Table") true := ⟨(RX8, TX8, 9), tyX8, rfl, rfl, tyX8_ok, rfl, nmX8⟩
theorem tX8_6 : z_FT 12 6 (.array (.object "Loopdefaults$Table")) true := ⟨(RX8, TX8, 9), tyX8, rfl, rfl, tyX8_ok, rfl, nmX8⟩
theorem tX8_7 : z_FT 12 7 .int false := ⟨(RX8, TX8, 9), tyX8, rfl, rfl, tyX8_ok, rfl, nmX8⟩
theorem tX8_8 : z_FT 12 8 .int false := ⟨(RX8, TX8, 9), tyX8, rfl, rfl, tyX8_ok, rfl, nmX8⟩
abbrev mX8_init : z_M := (yX8_init, cX8_init, 1, none, [])
theorem kX8_init : z_okm mX8_init 0 := ⟨rfl, (z_w 86 ((lwg_1 41).trans rfl) (by decide +kernel)), (z_w 46 ((lwg_1 1).trans rfl) (by decide +kernel)), ncl_X8, pds_1, by decide⟩
theorem inX8_init : Cond.instanceMethod yX8_init ∈ z_tbl := (z_w 85 ((lwg_1 40).trans rfl) (by decide +kernel))
-- call X8 1: ('"java/lang/Object"', '"<init>"', '"()V"')
theorem oX8_1 : Cond.methodLink RX8 1 Lib.objectInit ∈ z_tbl := (z_w 87 ((lwg_1 42).trans rfl) (by decide +kernel))
theorem aX8_7 : Cond.classLink RX8 7 "Loopdefaults$Row" ∈ z_tbl := (z_w 90 ((lwg_1 45).trans rfl) (by decide +kernel))
theorem ao_X1 : Cond.arrayOver (.object "Loopdefaults$Row") ∈ z_nst := (z_wn 91 ((lwg_1 46).trans rfl) (by decide +kernel))
theorem nX8_7 : z_N RX8 7 6 [.null, .null, .int 0, .int 0] := ⟨(RX1, TX1, 4), tyX1, rfl, iX1, (z_w 90 ((lwg_1 45).trans rfl) (by decide +kernel)), (z_w 92 ((lwg_1 47).trans rfl) (by decide +kernel)), (z_w 47 ((lwg_1 2).trans rfl) (by decide +kernel)), tyX1_ok, rfl, by decide, rfl⟩
theorem lX8_9 : Cond.methodLinkNest RX8 9 yX1_init "Loopdefaults" ∈ z_nst := (z_wn 93 ((lwg_1 48).trans rfl) (by decide +kernel))
theorem fX8_10 : z_F RX8 10 12 0 := ⟨(RX8, TX8, 9), "Loopdefaults", rfl, by decide, iX8, Or.inl (z_w 184 ((lwg_1 139).trans rfl) (by decide +kernel)), Or.inl rfl⟩
theorem nX8_16 : z_N RX8 16 9 [.int 0, .null, .null, .null, .int 0] := ⟨(RX4, TX4, 5), tyX4, rfl, iX4, (z_w 127 ((lwg_1 82).trans rfl) (by decide +kernel)), (z_w 128 ((lwg_1 83).trans rfl) (by decide +kernel)), (z_w 49 ((lwg_1 4).trans rfl) (by decide +kernel)), tyX4_ok, rfl, by decide, rfl⟩
theorem lX8_18 : Cond.methodLink RX8 18 yX4_init ∈ z_tbl := (z_w 129 ((lwg_1 84).trans rfl) (by decide +kernel))
theorem fX8_21 : z_F RX8 21 12 1 := ⟨(RX8, TX8, 9), "Loopdefaults", rfl, by decide, iX8, Or.inl (z_w 185 ((lwg_1 140).trans rfl) (by decide +kernel)), Or.inl rfl⟩
theorem aX8_16 : Cond.classLink RX8 16 "Loopdefaults$Table" ∈ z_tbl := (z_w 127 ((lwg_1 82).trans rfl) (by decide +kernel))
theorem ao_X4 : Cond.arrayOver (.object "Loopdefaults$Table") ∈ z_nst := (z_wn 155 ((lwg_1 110).trans rfl) (by decide +kernel))
theorem fX8_25 : z_F RX8 25 12 2 := ⟨(RX8, TX8, 9), "Loopdefaults", rfl, by decide, iX8, Or.inl (z_w 186 ((lwg_1 141).trans rfl) (by decide +kernel)), Or.inl rfl⟩
theorem aX8_29 : Cond.classLink RX8 29 "Loopdefaults$Hearer" ∈ z_tbl := (z_w 156 ((lwg_1 111).trans rfl) (by decide +kernel))
theorem ao_X0 : Cond.arrayOver (.object "Loopdefaults$Hearer") ∈ z_nst := (z_wn 157 ((lwg_1 112).trans rfl) (by decide +kernel))
theorem nX8_29 : z_N RX8 29 5 [.null, .int 0, .int 0, .int 0, .int 0, .int 0] := ⟨(RX0, TX0, 6), tyX0, rfl, iX0, (z_w 156 ((lwg_1 111).trans rfl) (by decide +kernel)), (z_w 158 ((lwg_1 113).trans rfl) (by decide +kernel)), (z_w 50 ((lwg_1 5).trans rfl) (by decide +kernel)), tyX0_ok, rfl, by decide, rfl⟩
theorem lX8_31 : Cond.methodLinkNest RX8 31 yX0_init "Loopdefaults" ∈ z_nst := (z_wn 159 ((lwg_1 114).trans rfl) (by decide +kernel))
theorem fX8_32 : z_F RX8 32 12 3 := ⟨(RX8, TX8, 9), "Loopdefaults", rfl, by decide, iX8, Or.inl (z_w 187 ((lwg_1 142).trans rfl) (by decide +kernel)), Or.inl rfl⟩
theorem fX8_36 : z_F RX8 36 12 4 := ⟨(RX8, TX8, 9), "Loopdefaults", rfl, by decide, iX8, Or.inl (z_w 188 ((lwg_1 143).trans rfl) (by decide +kernel)), Or.inl rfl⟩
theorem fX8_40 : z_F RX8 40 12 5 := ⟨(RX8, TX8, 9), "Loopdefaults", rfl, by decide, iX8, Or.inl (z_w 189 ((lwg_1 144).trans rfl) (by decide +kernel)), Or.inl rfl⟩
theorem fX8_43 : z_F RX8 43 12 6 := ⟨(RX8, TX8, 9), "Loopdefaults", rfl, by decide, iX8, Or.inl (z_w 190 ((lwg_1 145).trans rfl) (by decide +kernel)), Or.inl rfl⟩
abbrev mX8_type : z_M := (yX8_type, cX8_type, 4, (some .int), [])
theorem kX8_type : z_okm mX8_type 2 := ⟨rfl, (z_w 853 ((lwg_4 88).trans rfl) (by decide +kernel)), (z_w 46 ((lwg_1 1).trans rfl) (by decide +kernel)), ncl_X8, pds_22, by decide⟩
theorem inX8_type : Cond.instanceMethod yX8_type ∈ z_tbl := (z_w 851 ((lwg_4 86).trans rfl) (by decide +kernel))
theorem seX8_type : Cond.selects RX8 yX8_type yX8_type ∈ z_tbl := (z_w 852 ((lwg_4 87).trans rfl) (by decide +kernel))
abbrev mX8_rowFor : z_M := (yX8_rowFor, cX8_rowFor, 2, (some (.object "Loopdefaults$Row")), [])
theorem pds_31 : (parseMethodDescriptor "(I)LLoopdefaults$Row;").map (fun d => d.parameters.length) = some 1 := by decide +kernel
theorem kX8_rowFor : z_okm mX8_rowFor 1 := ⟨rfl, (z_w 857 ((lwg_4 92).trans rfl) (by decide +kernel)), (z_w 46 ((lwg_1 1).trans rfl) (by decide +kernel)), ncl_X8, pds_31, by decide⟩
theorem inX8_rowFor : Cond.instanceMethod yX8_rowFor ∈ z_tbl := (z_w 856 ((lwg_4 91).trans rfl) (by decide +kernel))
theorem seX8_rowFor : Cond.selects RX8 yX8_rowFor yX8_rowFor ∈ z_tbl := (z_w 12 (by decide +kernel) (by decide +kernel))
theorem lX8_46 : Cond.methodLink RX8 46 yX8_rowFor ∈ z_tbl := (z_w 854 ((lwg_4 89).trans rfl) (by decide +kernel))
abbrev mX8_checkValue : z_M := (yX8_checkValue, cX8_checkValue, 1, none, [])
theorem kX8_checkValue : z_okm mX8_checkValue 1 := ⟨rfl, (z_w 876 ((lwg_4 111).trans rfl) (by decide +kernel)), (z_w 46 ((lwg_1 1).trans rfl) (by decide +kernel)), ncl_X8, pds_3, by decide⟩
theorem stX8_checkValue : Cond.static yX8_checkValue ∈ z_tbl := (z_w 875 ((lwg_4 110).trans rfl) (by decide +kernel))
theorem lX8_50 : Cond.methodLink RX8 50 yX8_checkValue ∈ z_tbl := (z_w 874 ((lwg_4 109).trans rfl) (by decide +kernel))
theorem lX8_54 : Cond.methodLink RX8 54 yX1_isFull ∈ z_tbl := (z_w 877 ((lwg_4 112).trans rfl) (by decide +kernel))
-- call X8 62: ('"java/lang/IllegalStateException"', '"<init>"', '"(Ljava/lang/String;)V"')
theorem lX8_65 : Cond.methodLink RX8 65 yX1_append ∈ z_tbl := (z_w 897 ((lwg_4 132).trans rfl) (by decide +kernel))
theorem fX8_68 : z_F RX8 68 6 2 := ⟨(RX1, TX1, 4), "Loopdefaults$Row", rfl, by decide, iX1, Or.inr ⟨"Loopdefaults", (z_wn 115 ((lwg_1 70).trans rfl) (by decide +kernel))⟩, Or.inl rfl⟩
abbrev mX8_drop : z_M := (yX8_drop, cX8_drop, 4, (some .int), [])
theorem kX8_drop : z_okm mX8_drop 2 := ⟨rfl, (z_w 907 ((lwg_4 142).trans rfl) (by decide +kernel)), (z_w 46 ((lwg_1 1).trans rfl) (by decide +kernel)), ncl_X8, pds_22, by decide⟩
theorem inX8_drop : Cond.instanceMethod yX8_drop ∈ z_tbl := (z_w 905 ((lwg_4 140).trans rfl) (by decide +kernel))
theorem seX8_drop : Cond.selects RX8 yX8_drop yX8_drop ∈ z_tbl := (z_w 906 ((lwg_4 141).trans rfl) (by decide +kernel))
abbrev mX8_checkRange : z_M := (yX8_checkRange, cX8_checkRange, 3, none, [])
theorem kX8_checkRange : z_okm mX8_checkRange 3 := ⟨rfl, (z_w 457 ((lwg_2 172).trans rfl) (by decide +kernel)), (z_w 46 ((lwg_1 1).trans rfl) (by decide +kernel)), ncl_X8, pds_19, by decide⟩
theorem stX8_checkRange : Cond.static yX8_checkRange ∈ z_tbl := (z_w 456 ((lwg_2 171).trans rfl) (by decide +kernel))
theorem lX8_72 : Cond.methodLink RX8 72 yX8_checkRange ∈ z_tbl := (z_w 455 ((lwg_2 170).trans rfl) (by decide +kernel))
theorem lX8_76 : Cond.methodLink RX8 76 yX1_shorten ∈ z_tbl := (z_w 908 ((lwg_4 143).trans rfl) (by decide +kernel))
abbrev mX8_fix : z_M := (yX8_fix, cX8_fix, 5, (some .int), [])
theorem pds_32 : (parseMethodDescriptor "(IZ)I").map (fun d => d.parameters.length) = some 2 := by decide +kernel
theorem kX8_fix : z_okm mX8_fix 2 := ⟨rfl, (z_w 918 ((lwg_4 153).trans rfl) (by decide +kernel)), (z_w 46 ((lwg_1 1).trans rfl) (by decide +kernel)), ncl_X8, pds_32, by decide⟩
theorem inX8_fix : Cond.instanceMethod yX8_fix ∈ z_tbl := (z_w 916 ((lwg_4 151).trans rfl) (by decide +kernel))
theorem seX8_fix : Cond.selects RX8 yX8_fix yX8_fix ∈ z_tbl := (z_w 917 ((lwg_4 152).trans rfl) (by decide +kernel))
theorem fX8_79 : z_F RX8 79 6 3 := ⟨(RX1, TX1, 4), "Loopdefaults$Row", rfl, by decide, iX1, Or.inr ⟨"Loopdefaults", (z_wn 117 ((lwg_1 72).trans rfl) (by decide +kernel))⟩, Or.inl rfl⟩
abbrev mX8_oneIf : z_M := (yX8_oneIf, cX8_oneIf, 1, (some .int), [])
theorem pds_33 : (parseMethodDescriptor "(Z)I").map (fun d => d.parameters.length) = some 1 := by decide +kernel
theorem kX8_oneIf : z_okm mX8_oneIf 1 := ⟨rfl, (z_w 361 ((lwg_2 76).trans rfl) (by decide +kernel)), (z_w 46 ((lwg_1 1).trans rfl) (by decide +kernel)), ncl_X8, pds_33, by decide⟩
theorem stX8_oneIf : Cond.static yX8_oneIf ∈ z_tbl := (z_w 360 ((lwg_2 75).trans rfl) (by decide +kernel))
theorem lX8_83 : Cond.methodLink RX8 83 yX8_oneIf ∈ z_tbl := (z_w 359 ((lwg_2 74).trans rfl) (by decide +kernel))
abbrev mX8_hear : z_M := (yX8_hear, cX8_hear, 5, (some .int), [])
theorem kX8_hear : z_okm mX8_hear 2 := ⟨rfl, (z_w 925 ((lwg_4 160).trans rfl) (by decide +kernel)), (z_w 46 ((lwg_1 1).trans rfl) (by decide +kernel)), ncl_X8, pds_22, by decide⟩
theorem inX8_hear : Cond.instanceMethod yX8_hear ∈ z_tbl := (z_w 923 ((lwg_4 158).trans rfl) (by decide +kernel))
theorem seX8_hear : Cond.selects RX8 yX8_hear yX8_hear ∈ z_tbl := (z_w 924 ((lwg_4 159).trans rfl) (by decide +kernel))
abbrev mX8_hearerFor : z_M := (yX8_hearerFor, cX8_hearerFor, 2, (some (.object "Loopdefaults$Hearer")), [])
theorem pds_34 : (parseMethodDescriptor "(I)LLoopdefaults$Hearer;").map (fun d => d.parameters.length) = some 1 := by decide +kernel
theorem kX8_hearerFor : z_okm mX8_hearerFor 1 := ⟨rfl, (z_w 929 ((lwg_4 164).trans rfl) (by decide +kernel)), (z_w 46 ((lwg_1 1).trans rfl) (by decide +kernel)), ncl_X8, pds_34, by decide⟩
theorem inX8_hearerFor : Cond.instanceMethod yX8_hearerFor ∈ z_tbl := (z_w 928 ((lwg_4 163).trans rfl) (by decide +kernel))
theorem seX8_hearerFor : Cond.selects RX8 yX8_hearerFor yX8_hearerFor ∈ z_tbl := (z_w 13 (by decide +kernel) (by decide +kernel))
theorem lX8_87 : Cond.methodLink RX8 87 yX8_hearerFor ∈ z_tbl := (z_w 926 ((lwg_4 161).trans rfl) (by decide +kernel))
theorem nX8_91 : z_N RX8 91 7 [.null, .int 0, .int 0, .null, .int 0] := ⟨(RX2, TX2, 5), tyX2, rfl, iX2, (z_w 239 ((lwg_1 194).trans rfl) (by decide +kernel)), (z_w 240 ((lwg_1 195).trans rfl) (by decide +kernel)), (z_w 73 ((lwg_1 28).trans rfl) (by decide +kernel)), tyX2_ok, rfl, by decide, rfl⟩
theorem lX8_93 : Cond.methodLink RX8 93 yX2_init ∈ z_tbl := (z_w 241 ((lwg_1 196).trans rfl) (by decide +kernel))
abbrev mX8_hearOut : z_M := (yX8_hearOut, cX8_hearOut, 4, (some .int), [])
theorem pds_35 : (parseMethodDescriptor "(LLoopdefaults$Walk;LLoopdefaults$Hearer;)I").map (fun d => d.parameters.length) = some 2 := by decide +kernel
theorem kX8_hearOut : z_okm mX8_hearOut 2 := ⟨rfl, (z_w 933 ((lwg_4 168).trans rfl) (by decide +kernel)), (z_w 46 ((lwg_1 1).trans rfl) (by decide +kernel)), ncl_X8, pds_35, by decide⟩
theorem stX8_hearOut : Cond.static yX8_hearOut ∈ z_tbl := (z_w 932 ((lwg_4 167).trans rfl) (by decide +kernel))
theorem lX8_96 : Cond.methodLink RX8 96 yX8_hearOut ∈ z_tbl := (z_w 931 ((lwg_4 166).trans rfl) (by decide +kernel))
abbrev mX8_answer : z_M := (yX8_answer, cX8_answer, 2, (some .int), [])
theorem kX8_answer : z_okm mX8_answer 1 := ⟨rfl, (z_w 949 ((lwg_4 184).trans rfl) (by decide +kernel)), (z_w 46 ((lwg_1 1).trans rfl) (by decide +kernel)), ncl_X8, pds_4, by decide⟩
theorem inX8_answer : Cond.instanceMethod yX8_answer ∈ z_tbl := (z_w 948 ((lwg_4 183).trans rfl) (by decide +kernel))
theorem seX8_answer : Cond.selects RX8 yX8_answer yX8_answer ∈ z_tbl := (z_w 16 (by decide +kernel) (by decide +kernel))
theorem lX8_100 : Cond.methodLink RX8 100 yX8_answer ∈ z_tbl := (z_w 946 ((lwg_4 181).trans rfl) (by decide +kernel))
abbrev mX8_rest : z_M := (yX8_rest, cX8_rest, 7, (some .int), [])
theorem kX8_rest : z_okm mX8_rest 3 := ⟨rfl, (z_w 960 ((lwg_4 195).trans rfl) (by decide +kernel)), (z_w 46 ((lwg_1 1).trans rfl) (by decide +kernel)), ncl_X8, pds_25, by decide⟩
theorem inX8_rest : Cond.instanceMethod yX8_rest ∈ z_tbl := (z_w 958 ((lwg_4 193).trans rfl) (by decide +kernel))
theorem seX8_rest : Cond.selects RX8 yX8_rest yX8_rest ∈ z_tbl := (z_w 959 ((lwg_4 194).trans rfl) (by decide +kernel))
abbrev mX8_passBy : z_M := (yX8_passBy, cX8_passBy, 3, none, [])
theorem pds_36 : (parseMethodDescriptor "(LLoopdefaults$Walk;I)V").map (fun d => d.parameters.length) = some 2 := by decide +kernel
theorem kX8_passBy : z_okm mX8_passBy 2 := ⟨rfl, (z_w 963 ((lwg_4 198).trans rfl) (by decide +kernel)), (z_w 46 ((lwg_1 1).trans rfl) (by decide +kernel)), ncl_X8, pds_36, by decide⟩
theorem stX8_passBy : Cond.static yX8_passBy ∈ z_tbl := (z_w 962 ((lwg_4 197).trans rfl) (by decide +kernel))
theorem lX8_104 : Cond.methodLink RX8 104 yX8_passBy ∈ z_tbl := (z_w 961 ((lwg_4 196).trans rfl) (by decide +kernel))
abbrev mX8_removeIf : z_M := (yX8_removeIf, cX8_removeIf, 5, (some .int), [])
theorem kX8_removeIf : z_okm mX8_removeIf 3 := ⟨rfl, (z_w 970 ((lwg_4 205).trans rfl) (by decide +kernel)), (z_w 46 ((lwg_1 1).trans rfl) (by decide +kernel)), ncl_X8, pds_25, by decide⟩
theorem inX8_removeIf : Cond.instanceMethod yX8_removeIf ∈ z_tbl := (z_w 968 ((lwg_4 203).trans rfl) (by decide +kernel))
theorem seX8_removeIf : Cond.selects RX8 yX8_removeIf yX8_removeIf ∈ z_tbl := (z_w 969 ((lwg_4 204).trans rfl) (by decide +kernel))
abbrev mX8_takeEach : z_M := (yX8_takeEach, cX8_takeEach, 6, (some .int), [])
theorem pds_37 : (parseMethodDescriptor "(LLoopdefaults$RowWalk;II)I").map (fun d => d.parameters.length) = some 3 := by decide +kernel
theorem kX8_takeEach : z_okm mX8_takeEach 3 := ⟨rfl, (z_w 344 ((lwg_2 59).trans rfl) (by decide +kernel)), (z_w 46 ((lwg_1 1).trans rfl) (by decide +kernel)), ncl_X8, pds_37, by decide⟩
theorem stX8_takeEach : Cond.static yX8_takeEach ∈ z_tbl := (z_w 343 ((lwg_2 58).trans rfl) (by decide +kernel))
theorem lX8_108 : Cond.methodLink RX8 108 yX8_takeEach ∈ z_tbl := (z_w 342 ((lwg_2 57).trans rfl) (by decide +kernel))
abbrev mX8_replaceAll : z_M := (yX8_replaceAll, cX8_replaceAll, 6, (some .int), [])
theorem kX8_replaceAll : z_okm mX8_replaceAll 3 := ⟨rfl, (z_w 977 ((lwg_4 212).trans rfl) (by decide +kernel)), (z_w 46 ((lwg_1 1).trans rfl) (by decide +kernel)), ncl_X8, pds_25, by decide⟩
theorem inX8_replaceAll : Cond.instanceMethod yX8_replaceAll ∈ z_tbl := (z_w 975 ((lwg_4 210).trans rfl) (by decide +kernel))
theorem seX8_replaceAll : Cond.selects RX8 yX8_replaceAll yX8_replaceAll ∈ z_tbl := (z_w 976 ((lwg_4 211).trans rfl) (by decide +kernel))
abbrev mX8_checkRule : z_M := (yX8_checkRule, cX8_checkRule, 1, none, [])
theorem kX8_checkRule : z_okm mX8_checkRule 1 := ⟨rfl, (z_w 980 ((lwg_4 215).trans rfl) (by decide +kernel)), (z_w 46 ((lwg_1 1).trans rfl) (by decide +kernel)), ncl_X8, pds_21, by decide⟩
theorem stX8_checkRule : Cond.static yX8_checkRule ∈ z_tbl := (z_w 979 ((lwg_4 214).trans rfl) (by decide +kernel))
theorem lX8_112 : Cond.methodLink RX8 112 yX8_checkRule ∈ z_tbl := (z_w 978 ((lwg_4 213).trans rfl) (by decide +kernel))
abbrev mX8_changeEach : z_M := (yX8_changeEach, cX8_changeEach, 5, (some .boolean), [])
theorem pds_38 : (parseMethodDescriptor "(LLoopdefaults$Walk;II)Z").map (fun d => d.parameters.length) = some 3 := by decide +kernel
theorem kX8_changeEach : z_okm mX8_changeEach 3 := ⟨rfl, (z_w 984 ((lwg_4 219).trans rfl) (by decide +kernel)), (z_w 46 ((lwg_1 1).trans rfl) (by decide +kernel)), ncl_X8, pds_38, by decide⟩
theorem stX8_changeEach : Cond.static yX8_changeEach ∈ z_tbl := (z_w 983 ((lwg_4 218).trans rfl) (by decide +kernel))
theorem lX8_115 : Cond.methodLink RX8 115 yX8_changeEach ∈ z_tbl := (z_w 982 ((lwg_4 217).trans rfl) (by decide +kernel))
abbrev mX8_refused : z_M := (yX8_refused, cX8_refused, 1, (some .int), [])
theorem kX8_refused : z_okm mX8_refused 0 := ⟨rfl, (z_w 953 ((lwg_4 188).trans rfl) (by decide +kernel)), (z_w 46 ((lwg_1 1).trans rfl) (by decide +kernel)), ncl_X8, pds_17, by decide⟩
theorem inX8_refused : Cond.instanceMethod yX8_refused ∈ z_tbl := (z_w 952 ((lwg_4 187).trans rfl) (by decide +kernel))
theorem seX8_refused : Cond.selects RX8 yX8_refused yX8_refused ∈ z_tbl := (z_w 17 (by decide +kernel) (by decide +kernel))
theorem lX8_119 : Cond.methodLink RX8 119 yX8_refused ∈ z_tbl := (z_w 950 ((lwg_4 185).trans rfl) (by decide +kernel))
abbrev mX8_copy : z_M := (yX8_copy, cX8_copy, 3, (some .int), [])
theorem kX8_copy : z_okm mX8_copy 1 := ⟨rfl, (z_w 1010 ((lwg_5 5).trans rfl) (by decide +kernel)), (z_w 46 ((lwg_1 1).trans rfl) (by decide +kernel)), ncl_X8, pds_4, by decide⟩
theorem inX8_copy : Cond.instanceMethod yX8_copy ∈ z_tbl := (z_w 1008 ((lwg_5 3).trans rfl) (by decide +kernel))
theorem seX8_copy : Cond.selects RX8 yX8_copy yX8_copy ∈ z_tbl := (z_w 1009 ((lwg_5 4).trans rfl) (by decide +kernel))
theorem lX8_123 : Cond.methodLink RX8 123 yX1_become ∈ z_tbl := (z_w 232 ((lwg_1 187).trans rfl) (by decide +kernel))
abbrev mX8_put : z_M := (yX8_put, cX8_put, 5, (some .int), [])
theorem kX8_put : z_okm mX8_put 3 := ⟨rfl, (z_w 1017 ((lwg_5 12).trans rfl) (by decide +kernel)), (z_w 46 ((lwg_1 1).trans rfl) (by decide +kernel)), ncl_X8, pds_25, by decide⟩
theorem inX8_put : Cond.instanceMethod yX8_put ∈ z_tbl := (z_w 1015 ((lwg_5 10).trans rfl) (by decide +kernel))
theorem seX8_put : Cond.selects RX8 yX8_put yX8_put ∈ z_tbl := (z_w 1016 ((lwg_5 11).trans rfl) (by decide +kernel))
abbrev mX8_tableFor_ : z_M := (yX8_tableFor_, cX8_tableFor_, 4, (some (.object "Loopdefaults$Table")), [])
theorem pds_39 : (parseMethodDescriptor "(II)LLoopdefaults$Table;").map (fun d => d.parameters.length) = some 2 := by decide +kernel
theorem kX8_tableFor_ : z_okm mX8_tableFor_ 2 := ⟨rfl, (z_w 1021 ((lwg_5 16).trans rfl) (by decide +kernel)), (z_w 46 ((lwg_1 1).trans rfl) (by decide +kernel)), ncl_X8, pds_39, by decide⟩
theorem inX8_tableFor_ : Cond.instanceMethod yX8_tableFor_ ∈ z_tbl := (z_w 1020 ((lwg_5 15).trans rfl) (by decide +kernel))
theorem seX8_tableFor_ : Cond.selects RX8 yX8_tableFor_ yX8_tableFor_ ∈ z_tbl := (z_w 18 (by decide +kernel) (by decide +kernel))
theorem lX8_126 : Cond.methodLink RX8 126 yX8_tableFor_ ∈ z_tbl := (z_w 1018 ((lwg_5 13).trans rfl) (by decide +kernel))
theorem lX8_130 : Cond.methodLink RX8 130 yX4_store ∈ z_tbl := (z_w 1030 ((lwg_5 25).trans rfl) (by decide +kernel))
abbrev mX8_remove : z_M := (yX8_remove, cX8_remove, 3, (some .int), [])
theorem kX8_remove : z_okm mX8_remove 2 := ⟨rfl, (z_w 1037 ((lwg_5 32).trans rfl) (by decide +kernel)), (z_w 46 ((lwg_1 1).trans rfl) (by decide +kernel)), ncl_X8, pds_22, by decide⟩
theorem inX8_remove : Cond.instanceMethod yX8_remove ∈ z_tbl := (z_w 1035 ((lwg_5 30).trans rfl) (by decide +kernel))
theorem seX8_remove : Cond.selects RX8 yX8_remove yX8_remove ∈ z_tbl := (z_w 1036 ((lwg_5 31).trans rfl) (by decide +kernel))
theorem lX8_134 : Cond.methodLink RX8 134 yX4_sendAway ∈ z_tbl := (z_w 1038 ((lwg_5 33).trans rfl) (by decide +kernel))
abbrev mX8_putIfAbsent : z_M := (yX8_putIfAbsent, cX8_putIfAbsent, 6, (some .int), [])
theorem kX8_putIfAbsent : z_okm mX8_putIfAbsent 3 := ⟨rfl, (z_w 1045 ((lwg_5 40).trans rfl) (by decide +kernel)), (z_w 46 ((lwg_1 1).trans rfl) (by decide +kernel)), ncl_X8, pds_25, by decide⟩
theorem inX8_putIfAbsent : Cond.instanceMethod yX8_putIfAbsent ∈ z_tbl := (z_w 1043 ((lwg_5 38).trans rfl) (by decide +kernel))
theorem seX8_putIfAbsent : Cond.selects RX8 yX8_putIfAbsent yX8_putIfAbsent ∈ z_tbl := (z_w 1044 ((lwg_5 39).trans rfl) (by decide +kernel))
theorem lX8_137 : Cond.methodLink RX8 137 yX4_look ∈ z_tbl := (z_w 549 ((lwg_3 24).trans rfl) (by decide +kernel))
abbrev mX8_replace : z_M := (yX8_replace, cX8_replace, 5, (some .int), [])
theorem kX8_replace : z_okm mX8_replace 3 := ⟨rfl, (z_w 1052 ((lwg_5 47).trans rfl) (by decide +kernel)), (z_w 46 ((lwg_1 1).trans rfl) (by decide +kernel)), ncl_X8, pds_25, by decide⟩
theorem inX8_replace : Cond.instanceMethod yX8_replace ∈ z_tbl := (z_w 1050 ((lwg_5 45).trans rfl) (by decide +kernel))
theorem seX8_replace : Cond.selects RX8 yX8_replace yX8_replace ∈ z_tbl := (z_w 1051 ((lwg_5 46).trans rfl) (by decide +kernel))
abbrev mX8_replaceIf : z_M := (yX8_replaceIf, cX8_replaceIf, 6, (some .boolean), [])
theorem pds_40 : (parseMethodDescriptor "(IIII)Z").map (fun d => d.parameters.length) = some 4 := by decide +kernel
theorem kX8_replaceIf : z_okm mX8_replaceIf 4 := ⟨rfl, (z_w 1059 ((lwg_5 54).trans rfl) (by decide +kernel)), (z_w 46 ((lwg_1 1).trans rfl) (by decide +kernel)), ncl_X8, pds_40, by decide⟩
theorem inX8_replaceIf : Cond.instanceMethod yX8_replaceIf ∈ z_tbl := (z_w 1057 ((lwg_5 52).trans rfl) (by decide +kernel))
theorem seX8_replaceIf : Cond.selects RX8 yX8_replaceIf yX8_replaceIf ∈ z_tbl := (z_w 1058 ((lwg_5 53).trans rfl) (by decide +kernel))
abbrev mX8_removePair : z_M := (yX8_removePair, cX8_removePair, 5, (some .boolean), [])
theorem pds_41 : (parseMethodDescriptor "(III)Z").map (fun d => d.parameters.length) = some 3 := by decide +kernel
theorem kX8_removePair : z_okm mX8_removePair 3 := ⟨rfl, (z_w 1066 ((lwg_5 61).trans rfl) (by decide +kernel)), (z_w 46 ((lwg_1 1).trans rfl) (by decide +kernel)), ncl_X8, pds_41, by decide⟩
theorem inX8_removePair : Cond.instanceMethod yX8_removePair ∈ z_tbl := (z_w 1064 ((lwg_5 59).trans rfl) (by decide +kernel))
theorem seX8_removePair : Cond.selects RX8 yX8_removePair yX8_removePair ∈ z_tbl := (z_w 1065 ((lwg_5 60).trans rfl) (by decide +kernel))
abbrev mX8_computeIfAbsent : z_M := (yX8_computeIfAbsent, cX8_computeIfAbsent, 6, (some .int), [])
theorem kX8_computeIfAbsent : z_okm mX8_computeIfAbsent 4 := ⟨rfl, (z_w 1073 ((lwg_5 68).trans rfl) (by decide +kernel)), (z_w 46 ((lwg_1 1).trans rfl) (by decide +kernel)), ncl_X8, pds_26, by decide⟩
theorem inX8_computeIfAbsent : Cond.instanceMethod yX8_computeIfAbsent ∈ z_tbl := (z_w 1071 ((lwg_5 66).trans rfl) (by decide +kernel))
theorem seX8_computeIfAbsent : Cond.selects RX8 yX8_computeIfAbsent yX8_computeIfAbsent ∈ z_tbl := (z_w 1072 ((lwg_5 67).trans rfl) (by decide +kernel))
abbrev mX8_tableToReckon : z_M := (yX8_tableToReckon, cX8_tableToReckon, 6, (some (.object "Loopdefaults$Table")), [])
theorem pds_42 : (parseMethodDescriptor "(IIII)LLoopdefaults$Table;").map (fun d => d.parameters.length) = some 4 := by decide +kernel
theorem kX8_tableToReckon : z_okm mX8_tableToReckon 4 := ⟨rfl, (z_w 1077 ((lwg_5 72).trans rfl) (by decide +kernel)), (z_w 46 ((lwg_1 1).trans rfl) (by decide +kernel)), ncl_X8, pds_42, by decide⟩
theorem inX8_tableToReckon : Cond.instanceMethod yX8_tableToReckon ∈ z_tbl := (z_w 1076 ((lwg_5 71).trans rfl) (by decide +kernel))
theorem seX8_tableToReckon : Cond.selects RX8 yX8_tableToReckon yX8_tableToReckon ∈ z_tbl := (z_w 20 (by decide +kernel) (by decide +kernel))
theorem lX8_140 : Cond.methodLink RX8 140 yX8_tableToReckon ∈ z_tbl := (z_w 1074 ((lwg_5 69).trans rfl) (by decide +kernel))
theorem lX8_144 : Cond.methodLink RX8 144 yX4_reckonAbsent ∈ z_tbl := (z_w 433 ((lwg_2 148).trans rfl) (by decide +kernel))
abbrev mX8_computeIfPresent : z_M := (yX8_computeIfPresent, cX8_computeIfPresent, 6, (some .int), [])
theorem kX8_computeIfPresent : z_okm mX8_computeIfPresent 4 := ⟨rfl, (z_w 1084 ((lwg_5 79).trans rfl) (by decide +kernel)), (z_w 46 ((lwg_1 1).trans rfl) (by decide +kernel)), ncl_X8, pds_26, by decide⟩
theorem inX8_computeIfPresent : Cond.instanceMethod yX8_computeIfPresent ∈ z_tbl := (z_w 1082 ((lwg_5 77).trans rfl) (by decide +kernel))
theorem seX8_computeIfPresent : Cond.selects RX8 yX8_computeIfPresent yX8_computeIfPresent ∈ z_tbl := (z_w 1083 ((lwg_5 78).trans rfl) (by decide +kernel))
theorem lX8_148 : Cond.methodLink RX8 148 yX4_reckonPresent ∈ z_tbl := (z_w 437 ((lwg_2 152).trans rfl) (by decide +kernel))
abbrev mX8_compute : z_M := (yX8_compute, cX8_compute, 6, (some .int), [])
theorem kX8_compute : z_okm mX8_compute 4 := ⟨rfl, (z_w 1091 ((lwg_5 86).trans rfl) (by decide +kernel)), (z_w 46 ((lwg_1 1).trans rfl) (by decide +kernel)), ncl_X8, pds_26, by decide⟩
theorem inX8_compute : Cond.instanceMethod yX8_compute ∈ z_tbl := (z_w 1089 ((lwg_5 84).trans rfl) (by decide +kernel))
theorem seX8_compute : Cond.selects RX8 yX8_compute yX8_compute ∈ z_tbl := (z_w 1090 ((lwg_5 85).trans rfl) (by decide +kernel))
theorem lX8_151 : Cond.methodLink RX8 151 yX4_reckon ∈ z_tbl := (z_w 402 ((lwg_2 117).trans rfl) (by decide +kernel))
abbrev mX8_merge : z_M := (yX8_merge, cX8_merge, 6, (some .int), [])
theorem kX8_merge : z_okm mX8_merge 4 := ⟨rfl, (z_w 1098 ((lwg_5 93).trans rfl) (by decide +kernel)), (z_w 46 ((lwg_1 1).trans rfl) (by decide +kernel)), ncl_X8, pds_26, by decide⟩
theorem inX8_merge : Cond.instanceMethod yX8_merge ∈ z_tbl := (z_w 1096 ((lwg_5 91).trans rfl) (by decide +kernel))
theorem seX8_merge : Cond.selects RX8 yX8_merge yX8_merge ∈ z_tbl := (z_w 1097 ((lwg_5 92).trans rfl) (by decide +kernel))
theorem lX8_154 : Cond.methodLink RX8 154 yX4_join ∈ z_tbl := (z_w 442 ((lwg_2 157).trans rfl) (by decide +kernel))
abbrev mX8_hearTable : z_M := (yX8_hearTable, cX8_hearTable, 5, (some .int), [])
theorem kX8_hearTable : z_okm mX8_hearTable 2 := ⟨rfl, (z_w 1105 ((lwg_5 100).trans rfl) (by decide +kernel)), (z_w 46 ((lwg_1 1).trans rfl) (by decide +kernel)), ncl_X8, pds_22, by decide⟩
theorem inX8_hearTable : Cond.instanceMethod yX8_hearTable ∈ z_tbl := (z_w 1103 ((lwg_5 98).trans rfl) (by decide +kernel))
theorem seX8_hearTable : Cond.selects RX8 yX8_hearTable yX8_hearTable ∈ z_tbl := (z_w 1104 ((lwg_5 99).trans rfl) (by decide +kernel))
abbrev mX8_tableFor : z_M := (yX8_tableFor, cX8_tableFor, 2, (some (.object "Loopdefaults$Table")), [])
theorem pds_43 : (parseMethodDescriptor "(I)LLoopdefaults$Table;").map (fun d => d.parameters.length) = some 1 := by decide +kernel
theorem kX8_tableFor : z_okm mX8_tableFor 1 := ⟨rfl, (z_w 1025 ((lwg_5 20).trans rfl) (by decide +kernel)), (z_w 46 ((lwg_1 1).trans rfl) (by decide +kernel)), ncl_X8, pds_43, by decide⟩
theorem inX8_tableFor : Cond.instanceMethod yX8_tableFor ∈ z_tbl := (z_w 1024 ((lwg_5 19).trans rfl) (by decide +kernel))
theorem seX8_tableFor : Cond.selects RX8 yX8_tableFor yX8_tableFor ∈ z_tbl := (z_w 19 (by decide +kernel) (by decide +kernel))
theorem lX8_157 : Cond.methodLink RX8 157 yX8_tableFor ∈ z_tbl := (z_w 1022 ((lwg_5 17).trans rfl) (by decide +kernel))
theorem nX8_160 : z_N RX8 160 10 [.null, .int 0, .int 0, .null, .int 0] := ⟨(RX5, TX5, 5), tyX5, rfl, iX5, (z_w 1106 ((lwg_5 101).trans rfl) (by decide +kernel)), (z_w 1107 ((lwg_5 102).trans rfl) (by decide +kernel)), (z_w 79 ((lwg_1 34).trans rfl) (by decide +kernel)), tyX5_ok, rfl, by decide, rfl⟩
theorem lX8_162 : Cond.methodLink RX8 162 yX5_init ∈ z_tbl := (z_w 1108 ((lwg_5 103).trans rfl) (by decide +kernel))
abbrev mX8_replaceTable : z_M := (yX8_replaceTable, cX8_replaceTable, 6, (some .int), [])
theorem kX8_replaceTable : z_okm mX8_replaceTable 3 := ⟨rfl, (z_w 1128 ((lwg_5 123).trans rfl) (by decide +kernel)), (z_w 46 ((lwg_1 1).trans rfl) (by decide +kernel)), ncl_X8, pds_25, by decide⟩
theorem inX8_replaceTable : Cond.instanceMethod yX8_replaceTable ∈ z_tbl := (z_w 1126 ((lwg_5 121).trans rfl) (by decide +kernel))
theorem seX8_replaceTable : Cond.selects RX8 yX8_replaceTable yX8_replaceTable ∈ z_tbl := (z_w 1127 ((lwg_5 122).trans rfl) (by decide +kernel))
theorem fX8_165 : z_F RX8 165 9 4 := ⟨(RX4, TX4, 5), "Loopdefaults$Table", rfl, by decide, iX4, Or.inr ⟨"Loopdefaults", (z_wn 143 ((lwg_1 98).trans rfl) (by decide +kernel))⟩, Or.inl rfl⟩
abbrev mX8_clear : z_M := (yX8_clear, cX8_clear, 2, (some .int), [])
theorem kX8_clear : z_okm mX8_clear 1 := ⟨rfl, (z_w 1135 ((lwg_5 130).trans rfl) (by decide +kernel)), (z_w 46 ((lwg_1 1).trans rfl) (by decide +kernel)), ncl_X8, pds_4, by decide⟩
theorem inX8_clear : Cond.instanceMethod yX8_clear ∈ z_tbl := (z_w 1133 ((lwg_5 128).trans rfl) (by decide +kernel))
theorem seX8_clear : Cond.selects RX8 yX8_clear yX8_clear ∈ z_tbl := (z_w 1134 ((lwg_5 129).trans rfl) (by decide +kernel))
theorem lX8_166 : Cond.methodLink RX8 166 yX4_makeEmpty ∈ z_tbl := (z_w 1136 ((lwg_5 131).trans rfl) (by decide +kernel))
abbrev mX8_hearSpan : z_M := (yX8_hearSpan, cX8_hearSpan, 6, (some .int), [])
theorem kX8_hearSpan : z_okm mX8_hearSpan 4 := ⟨rfl, (z_w 1146 ((lwg_5 141).trans rfl) (by decide +kernel)), (z_w 46 ((lwg_1 1).trans rfl) (by decide +kernel)), ncl_X8, pds_26, by decide⟩
theorem inX8_hearSpan : Cond.instanceMethod yX8_hearSpan ∈ z_tbl := (z_w 1144 ((lwg_5 139).trans rfl) (by decide +kernel))
theorem seX8_hearSpan : Cond.selects RX8 yX8_hearSpan yX8_hearSpan ∈ z_tbl := (z_w 1145 ((lwg_5 140).trans rfl) (by decide +kernel))
abbrev mX8_checkSpan : z_M := (yX8_checkSpan, cX8_checkSpan, 3, none, [])
theorem kX8_checkSpan : z_okm mX8_checkSpan 3 := ⟨rfl, (z_w 1149 ((lwg_5 144).trans rfl) (by decide +kernel)), (z_w 46 ((lwg_1 1).trans rfl) (by decide +kernel)), ncl_X8, pds_19, by decide⟩
theorem stX8_checkSpan : Cond.static yX8_checkSpan ∈ z_tbl := (z_w 1148 ((lwg_5 143).trans rfl) (by decide +kernel))
theorem lX8_169 : Cond.methodLink RX8 169 yX8_checkSpan ∈ z_tbl := (z_w 1147 ((lwg_5 142).trans rfl) (by decide +kernel))
theorem nX8_172 : z_N RX8 172 8 [.null, .int 0, .int 0, .int 0, .int 0, .int 0] := ⟨(RX3, TX3, 6), tyX3, rfl, iX3, (z_w 1153 ((lwg_5 148).trans rfl) (by decide +kernel)), (z_w 1154 ((lwg_5 149).trans rfl) (by decide +kernel)), (z_w 81 ((lwg_1 36).trans rfl) (by decide +kernel)), tyX3_ok, rfl, by decide, rfl⟩
theorem lX8_174 : Cond.methodLink RX8 174 yX3_init ∈ z_tbl := (z_w 1155 ((lwg_5 150).trans rfl) (by decide +kernel))
abbrev mX8_hearSteps : z_M := (yX8_hearSteps, cX8_hearSteps, 8, (some .int), [])
theorem pds_44 : (parseMethodDescriptor "(IIIII)I").map (fun d => d.parameters.length) = some 5 := by decide +kernel
theorem kX8_hearSteps : z_okm mX8_hearSteps 5 := ⟨rfl, (z_w 1180 ((lwg_5 175).trans rfl) (by decide +kernel)), (z_w 46 ((lwg_1 1).trans rfl) (by decide +kernel)), ncl_X8, pds_44, by decide⟩
theorem inX8_hearSteps : Cond.instanceMethod yX8_hearSteps ∈ z_tbl := (z_w 1178 ((lwg_5 173).trans rfl) (by decide +kernel))
theorem seX8_hearSteps : Cond.selects RX8 yX8_hearSteps yX8_hearSteps ∈ z_tbl := (z_w 1179 ((lwg_5 174).trans rfl) (by decide +kernel))
abbrev mX8_spanLength : z_M := (yX8_spanLength, cX8_spanLength, 3, (some .int), [])
theorem kX8_spanLength : z_okm mX8_spanLength 3 := ⟨rfl, (z_w 1152 ((lwg_5 147).trans rfl) (by decide +kernel)), (z_w 46 ((lwg_1 1).trans rfl) (by decide +kernel)), ncl_X8, pds_25, by decide⟩
theorem stX8_spanLength : Cond.static yX8_spanLength ∈ z_tbl := (z_w 1151 ((lwg_5 146).trans rfl) (by decide +kernel))
theorem lX8_176 : Cond.methodLink RX8 176 yX8_spanLength ∈ z_tbl := (z_w 1150 ((lwg_5 145).trans rfl) (by decide +kernel))
abbrev mX8_takeStep : z_M := (yX8_takeStep, cX8_takeStep, 3, (some .int), [])
theorem kX8_takeStep : z_okm mX8_takeStep 2 := ⟨rfl, (z_w 1187 ((lwg_5 182).trans rfl) (by decide +kernel)), (z_w 46 ((lwg_1 1).trans rfl) (by decide +kernel)), ncl_X8, pds_22, by decide⟩
theorem inX8_takeStep : Cond.instanceMethod yX8_takeStep ∈ z_tbl := (z_w 1185 ((lwg_5 180).trans rfl) (by decide +kernel))
theorem seX8_takeStep : Cond.selects RX8 yX8_takeStep yX8_takeStep ∈ z_tbl := (z_w 1186 ((lwg_5 181).trans rfl) (by decide +kernel))
abbrev mX8_stop : z_M := (yX8_stop, cX8_stop, 5, (some .int), [])
theorem kX8_stop : z_okm mX8_stop 2 := ⟨rfl, (z_w 1194 ((lwg_5 189).trans rfl) (by decide +kernel)), (z_w 46 ((lwg_1 1).trans rfl) (by decide +kernel)), ncl_X8, pds_22, by decide⟩
theorem inX8_stop : Cond.instanceMethod yX8_stop ∈ z_tbl := (z_w 1192 ((lwg_5 187).trans rfl) (by decide +kernel))
theorem seX8_stop : Cond.selects RX8 yX8_stop yX8_stop ∈ z_tbl := (z_w 1193 ((lwg_5 188).trans rfl) (by decide +kernel))
theorem fX8_180 : z_F RX8 180 5 5 := ⟨(RX0, TX0, 6), "Loopdefaults$Hearer", rfl, by decide, iX0, Or.inr ⟨"Loopdefaults", (z_wn 170 ((lwg_1 125).trans rfl) (by decide +kernel))⟩, Or.inl rfl⟩
abbrev mX8_forget : z_M := (yX8_forget, cX8_forget, 4, (some .int), [])
theorem kX8_forget : z_okm mX8_forget 1 := ⟨rfl, (z_w 1202 ((lwg_5 197).trans rfl) (by decide +kernel)), (z_w 46 ((lwg_1 1).trans rfl) (by decide +kernel)), ncl_X8, pds_4, by decide⟩
theorem inX8_forget : Cond.instanceMethod yX8_forget ∈ z_tbl := (z_w 1200 ((lwg_5 195).trans rfl) (by decide +kernel))
theorem seX8_forget : Cond.selects RX8 yX8_forget yX8_forget ∈ z_tbl := (z_w 1201 ((lwg_5 196).trans rfl) (by decide +kernel))
theorem fX8_183 : z_F RX8 183 5 2 := ⟨(RX0, TX0, 6), "Loopdefaults$Hearer", rfl, by decide, iX0, Or.inr ⟨"Loopdefaults", (z_wn 166 ((lwg_1 121).trans rfl) (by decide +kernel))⟩, Or.inl rfl⟩
theorem lX8_184 : Cond.methodLink RX8 184 yX0_beginAnew ∈ z_tbl := (z_w 1203 ((lwg_5 198).trans rfl) (by decide +kernel))
abbrev mX8_heard : z_M := (yX8_heard, cX8_heard, 4, (some .int), [])
theorem kX8_heard : z_okm mX8_heard 2 := ⟨rfl, (z_w 1213 ((lwg_5 208).trans rfl) (by decide +kernel)), (z_w 46 ((lwg_1 1).trans rfl) (by decide +kernel)), ncl_X8, pds_22, by decide⟩
theorem inX8_heard : Cond.instanceMethod yX8_heard ∈ z_tbl := (z_w 1211 ((lwg_5 206).trans rfl) (by decide +kernel))
theorem seX8_heard : Cond.selects RX8 yX8_heard yX8_heard ∈ z_tbl := (z_w 1212 ((lwg_5 207).trans rfl) (by decide +kernel))
theorem lX8_187 : Cond.methodLink RX8 187 yX0_tells ∈ z_tbl := (z_w 553 ((lwg_3 28).trans rfl) (by decide +kernel))
abbrev mX8_heardText : z_M := (yX8_heardText, cX8_heardText, 2, (some (.object "java/lang/String")), [])
theorem pds_45 : (parseMethodDescriptor "(I)Ljava/lang/String;").map (fun d => d.parameters.length) = some 1 := by decide +kernel
theorem kX8_heardText : z_okm mX8_heardText 1 := ⟨rfl, (z_w 1220 ((lwg_5 215).trans rfl) (by decide +kernel)), (z_w 46 ((lwg_1 1).trans rfl) (by decide +kernel)), ncl_X8, pds_45, by decide⟩
theorem inX8_heardText : Cond.instanceMethod yX8_heardText ∈ z_tbl := (z_w 1218 ((lwg_5 213).trans rfl) (by decide +kernel))
theorem seX8_heardText : Cond.selects RX8 yX8_heardText yX8_heardText ∈ z_tbl := (z_w 1219 ((lwg_5 214).trans rfl) (by decide +kernel))
theorem lX8_190 : Cond.methodLink RX8 190 yX0_recent ∈ z_tbl := (z_w 557 ((lwg_3 32).trans rfl) (by decide +kernel))
abbrev mX8_length : z_M := (yX8_length, cX8_length, 2, (some .int), [])
theorem kX8_length : z_okm mX8_length 1 := ⟨rfl, (z_w 1227 ((lwg_5 222).trans rfl) (by decide +kernel)), (z_w 46 ((lwg_1 1).trans rfl) (by decide +kernel)), ncl_X8, pds_4, by decide⟩
theorem inX8_length : Cond.instanceMethod yX8_length ∈ z_tbl := (z_w 1225 ((lwg_5 220).trans rfl) (by decide +kernel))
theorem seX8_length : Cond.selects RX8 yX8_length yX8_length ∈ z_tbl := (z_w 1226 ((lwg_5 221).trans rfl) (by decide +kernel))
abbrev mX8_at : z_M := (yX8_at, cX8_at, 4, (some .int), [])
theorem kX8_at : z_okm mX8_at 2 := ⟨rfl, (z_w 1234 ((lwg_5 229).trans rfl) (by decide +kernel)), (z_w 46 ((lwg_1 1).trans rfl) (by decide +kernel)), ncl_X8, pds_22, by decide⟩
theorem inX8_at : Cond.instanceMethod yX8_at ∈ z_tbl := (z_w 1232 ((lwg_5 227).trans rfl) (by decide +kernel))
theorem seX8_at : Cond.selects RX8 yX8_at yX8_at ∈ z_tbl := (z_w 1233 ((lwg_5 228).trans rfl) (by decide +kernel))
theorem lX8_194 : Cond.methodLink RX8 194 yX1_isPlace ∈ z_tbl := (z_w 375 ((lwg_2 90).trans rfl) (by decide +kernel))
-- call X8 202: ('"java/lang/IndexOutOfBoundsException"', '"<init>"', '"(Ljava/lang/String;)V"')
theorem lX8_203 : Cond.methodLink RX8 203 yX1_valueAt ∈ z_tbl := (z_w 374 ((lwg_2 89).trans rfl) (by decide +kernel))
abbrev mX8_rowText : z_M := (yX8_rowText, cX8_rowText, 3, (some (.object "java/lang/String")), [])
theorem kX8_rowText : z_okm mX8_rowText 1 := ⟨rfl, (z_w 1242 ((lwg_5 237).trans rfl) (by decide +kernel)), (z_w 46 ((lwg_1 1).trans rfl) (by decide +kernel)), ncl_X8, pds_45, by decide⟩
theorem inX8_rowText : Cond.instanceMethod yX8_rowText ∈ z_tbl := (z_w 1240 ((lwg_5 235).trans rfl) (by decide +kernel))
theorem seX8_rowText : Cond.selects RX8 yX8_rowText yX8_rowText ∈ z_tbl := (z_w 1241 ((lwg_5 236).trans rfl) (by decide +kernel))
theorem fX8_206 : z_F RX8 206 6 0 := ⟨(RX1, TX1, 4), "Loopdefaults$Row", rfl, by decide, iX1, Or.inr ⟨"Loopdefaults", (z_wn 109 ((lwg_1 64).trans rfl) (by decide +kernel))⟩, Or.inl rfl⟩
theorem lX8_210 : Cond.methodLink RX8 210 yX8_joined ∈ z_tbl := (z_w 1243 ((lwg_5 238).trans rfl) (by decide +kernel))
abbrev mX8_isFixed : z_M := (yX8_isFixed, cX8_isFixed, 2, (some .boolean), [])
theorem kX8_isFixed : z_okm mX8_isFixed 1 := ⟨rfl, (z_w 1250 ((lwg_6 5).trans rfl) (by decide +kernel)), (z_w 46 ((lwg_1 1).trans rfl) (by decide +kernel)), ncl_X8, pds_2, by decide⟩
theorem inX8_isFixed : Cond.instanceMethod yX8_isFixed ∈ z_tbl := (z_w 1248 ((lwg_6 3).trans rfl) (by decide +kernel))
theorem seX8_isFixed : Cond.selects RX8 yX8_isFixed yX8_isFixed ∈ z_tbl := (z_w 1249 ((lwg_6 4).trans rfl) (by decide +kernel))
abbrev mX8_counts : z_M := (yX8_counts, cX8_counts, 4, (some .int), [])
theorem kX8_counts : z_okm mX8_counts 2 := ⟨rfl, (z_w 1257 ((lwg_6 12).trans rfl) (by decide +kernel)), (z_w 46 ((lwg_1 1).trans rfl) (by decide +kernel)), ncl_X8, pds_22, by decide⟩
theorem inX8_counts : Cond.instanceMethod yX8_counts ∈ z_tbl := (z_w 1255 ((lwg_6 10).trans rfl) (by decide +kernel))
theorem seX8_counts : Cond.selects RX8 yX8_counts yX8_counts ∈ z_tbl := (z_w 1256 ((lwg_6 11).trans rfl) (by decide +kernel))
theorem fX8_214 : z_F RX8 214 6 1 := ⟨(RX1, TX1, 4), "Loopdefaults$Row", rfl, by decide, iX1, Or.inr ⟨"Loopdefaults", (z_wn 112 ((lwg_1 67).trans rfl) (by decide +kernel))⟩, Or.inl rfl⟩
theorem lX8_218 : Cond.methodLink RX8 218 yX6_of ∈ z_tbl := (z_w 334 ((lwg_2 49).trans rfl) (by decide +kernel))
abbrev mX8_shelfCounts : z_M := (yX8_shelfCounts, cX8_shelfCounts, 2, (some .int), [])
theorem kX8_shelfCounts : z_okm mX8_shelfCounts 1 := ⟨rfl, (z_w 1264 ((lwg_6 19).trans rfl) (by decide +kernel)), (z_w 46 ((lwg_1 1).trans rfl) (by decide +kernel)), ncl_X8, pds_4, by decide⟩
theorem inX8_shelfCounts : Cond.instanceMethod yX8_shelfCounts ∈ z_tbl := (z_w 1262 ((lwg_6 17).trans rfl) (by decide +kernel))
theorem seX8_shelfCounts : Cond.selects RX8 yX8_shelfCounts yX8_shelfCounts ∈ z_tbl := (z_w 1263 ((lwg_6 18).trans rfl) (by decide +kernel))
theorem fX8_223 : z_F RX8 223 9 3 := ⟨(RX4, TX4, 5), "Loopdefaults$Table", rfl, by decide, iX4, Or.inr ⟨"Loopdefaults", (z_wn 140 ((lwg_1 95).trans rfl) (by decide +kernel))⟩, Or.inl rfl⟩
abbrev mX8_forgetCounts : z_M := (yX8_forgetCounts, cX8_forgetCounts, 6, (some .int), [])
theorem kX8_forgetCounts : z_okm mX8_forgetCounts 0 := ⟨rfl, (z_w 215 ((lwg_1 170).trans rfl) (by decide +kernel)), (z_w 46 ((lwg_1 1).trans rfl) (by decide +kernel)), ncl_X8, pds_17, by decide⟩
theorem inX8_forgetCounts : Cond.instanceMethod yX8_forgetCounts ∈ z_tbl := (z_w 213 ((lwg_1 168).trans rfl) (by decide +kernel))
theorem seX8_forgetCounts : Cond.selects RX8 yX8_forgetCounts yX8_forgetCounts ∈ z_tbl := (z_w 214 ((lwg_1 169).trans rfl) (by decide +kernel))
theorem lX8_224 : Cond.methodLink RX8 224 yX6_startAnew ∈ z_tbl := (z_w 216 ((lwg_1 171).trans rfl) (by decide +kernel))
abbrev mX8_get : z_M := (yX8_get, cX8_get, 3, (some .int), [])
theorem kX8_get : z_okm mX8_get 2 := ⟨rfl, (z_w 1271 ((lwg_6 26).trans rfl) (by decide +kernel)), (z_w 46 ((lwg_1 1).trans rfl) (by decide +kernel)), ncl_X8, pds_22, by decide⟩
theorem inX8_get : Cond.instanceMethod yX8_get ∈ z_tbl := (z_w 1269 ((lwg_6 24).trans rfl) (by decide +kernel))
theorem seX8_get : Cond.selects RX8 yX8_get yX8_get ∈ z_tbl := (z_w 1270 ((lwg_6 25).trans rfl) (by decide +kernel))
abbrev mX8_getOr : z_M := (yX8_getOr, cX8_getOr, 6, (some .int), [])
theorem kX8_getOr : z_okm mX8_getOr 3 := ⟨rfl, (z_w 1278 ((lwg_6 33).trans rfl) (by decide +kernel)), (z_w 46 ((lwg_1 1).trans rfl) (by decide +kernel)), ncl_X8, pds_25, by decide⟩
theorem inX8_getOr : Cond.instanceMethod yX8_getOr ∈ z_tbl := (z_w 1276 ((lwg_6 31).trans rfl) (by decide +kernel))
theorem seX8_getOr : Cond.selects RX8 yX8_getOr yX8_getOr ∈ z_tbl := (z_w 1277 ((lwg_6 32).trans rfl) (by decide +kernel))
abbrev mX8_has : z_M := (yX8_has, cX8_has, 3, (some .boolean), [])
theorem pds_46 : (parseMethodDescriptor "(II)Z").map (fun d => d.parameters.length) = some 2 := by decide +kernel
theorem kX8_has : z_okm mX8_has 2 := ⟨rfl, (z_w 1285 ((lwg_6 40).trans rfl) (by decide +kernel)), (z_w 46 ((lwg_1 1).trans rfl) (by decide +kernel)), ncl_X8, pds_46, by decide⟩
theorem inX8_has : Cond.instanceMethod yX8_has ∈ z_tbl := (z_w 1283 ((lwg_6 38).trans rfl) (by decide +kernel))
theorem seX8_has : Cond.selects RX8 yX8_has yX8_has ∈ z_tbl := (z_w 1284 ((lwg_6 39).trans rfl) (by decide +kernel))
abbrev mX8_size : z_M := (yX8_size, cX8_size, 2, (some .int), [])
theorem kX8_size : z_okm mX8_size 1 := ⟨rfl, (z_w 1292 ((lwg_6 47).trans rfl) (by decide +kernel)), (z_w 46 ((lwg_1 1).trans rfl) (by decide +kernel)), ncl_X8, pds_4, by decide⟩
theorem inX8_size : Cond.instanceMethod yX8_size ∈ z_tbl := (z_w 1290 ((lwg_6 45).trans rfl) (by decide +kernel))
theorem seX8_size : Cond.selects RX8 yX8_size yX8_size ∈ z_tbl := (z_w 1291 ((lwg_6 46).trans rfl) (by decide +kernel))
abbrev mX8_text : z_M := (yX8_text, cX8_text, 2, (some (.object "java/lang/String")), [])
theorem kX8_text : z_okm mX8_text 1 := ⟨rfl, (z_w 1299 ((lwg_6 54).trans rfl) (by decide +kernel)), (z_w 46 ((lwg_1 1).trans rfl) (by decide +kernel)), ncl_X8, pds_45, by decide⟩
theorem inX8_text : Cond.instanceMethod yX8_text ∈ z_tbl := (z_w 1297 ((lwg_6 52).trans rfl) (by decide +kernel))
theorem seX8_text : Cond.selects RX8 yX8_text yX8_text ∈ z_tbl := (z_w 1298 ((lwg_6 53).trans rfl) (by decide +kernel))
theorem lX8_227 : Cond.methodLink RX8 227 yX4_pairs ∈ z_tbl := (z_w 1300 ((lwg_6 55).trans rfl) (by decide +kernel))
abbrev mX8_areLike : z_M := (yX8_areLike, cX8_areLike, 4, (some .boolean), [])
theorem kX8_areLike : z_okm mX8_areLike 2 := ⟨rfl, (z_w 1316 ((lwg_6 71).trans rfl) (by decide +kernel)), (z_w 46 ((lwg_1 1).trans rfl) (by decide +kernel)), ncl_X8, pds_46, by decide⟩
theorem inX8_areLike : Cond.instanceMethod yX8_areLike ∈ z_tbl := (z_w 1314 ((lwg_6 69).trans rfl) (by decide +kernel))
theorem seX8_areLike : Cond.selects RX8 yX8_areLike yX8_areLike ∈ z_tbl := (z_w 1315 ((lwg_6 70).trans rfl) (by decide +kernel))
theorem lX8_230 : Cond.methodLink RX8 230 yX4_hasPairsOf ∈ z_tbl := (z_w 389 ((lwg_2 104).trans rfl) (by decide +kernel))
abbrev mX8_given : z_M := (yX8_given, cX8_given, 6, (some .int), [])
theorem kX8_given : z_okm mX8_given 4 := ⟨rfl, (z_w 1323 ((lwg_6 78).trans rfl) (by decide +kernel)), (z_w 46 ((lwg_1 1).trans rfl) (by decide +kernel)), ncl_X8, pds_26, by decide⟩
theorem inX8_given : Cond.instanceMethod yX8_given ∈ z_tbl := (z_w 1321 ((lwg_6 76).trans rfl) (by decide +kernel))
theorem seX8_given : Cond.selects RX8 yX8_given yX8_given ∈ z_tbl := (z_w 1322 ((lwg_6 77).trans rfl) (by decide +kernel))
abbrev mX8_checkKey : z_M := (yX8_checkKey, cX8_checkKey, 1, none, [])
theorem kX8_checkKey : z_okm mX8_checkKey 1 := ⟨rfl, (z_w 1029 ((lwg_5 24).trans rfl) (by decide +kernel)), (z_w 46 ((lwg_1 1).trans rfl) (by decide +kernel)), ncl_X8, pds_3, by decide⟩
theorem stX8_checkKey : Cond.static yX8_checkKey ∈ z_tbl := (z_w 1028 ((lwg_5 23).trans rfl) (by decide +kernel))
theorem lX8_234 : Cond.methodLink RX8 234 yX8_checkKey ∈ z_tbl := (z_w 1027 ((lwg_5 22).trans rfl) (by decide +kernel))
theorem lX8_237 : Cond.methodLink RX8 237 yX8_ruleTells ∈ z_tbl := (z_w 985 ((lwg_4 220).trans rfl) (by decide +kernel))
abbrev mX8_tested : z_M := (yX8_tested, cX8_tested, 5, (some .int), [])
theorem kX8_tested : z_okm mX8_tested 3 := ⟨rfl, (z_w 1330 ((lwg_6 85).trans rfl) (by decide +kernel)), (z_w 46 ((lwg_1 1).trans rfl) (by decide +kernel)), ncl_X8, pds_25, by decide⟩
theorem inX8_tested : Cond.instanceMethod yX8_tested ∈ z_tbl := (z_w 1328 ((lwg_6 83).trans rfl) (by decide +kernel))
theorem seX8_tested : Cond.selects RX8 yX8_tested yX8_tested ∈ z_tbl := (z_w 1329 ((lwg_6 84).trans rfl) (by decide +kernel))
abbrev mX8_testTells : z_M := (yX8_testTells, cX8_testTells, 3, (some .int), [])
theorem kX8_testTells : z_okm mX8_testTells 3 := ⟨rfl, (z_w 355 ((lwg_2 70).trans rfl) (by decide +kernel)), (z_w 46 ((lwg_1 1).trans rfl) (by decide +kernel)), ncl_X8, pds_25, by decide⟩
theorem stX8_testTells : Cond.static yX8_testTells ∈ z_tbl := (z_w 354 ((lwg_2 69).trans rfl) (by decide +kernel))
theorem lX8_241 : Cond.methodLink RX8 241 yX8_testTells ∈ z_tbl := (z_w 353 ((lwg_2 68).trans rfl) (by decide +kernel))
abbrev mX8_knock : z_M := (yX8_knock, cX8_knock, 1, (some .int), [])
theorem kX8_knock : z_okm mX8_knock 0 := ⟨rfl, (z_w 223 ((lwg_1 178).trans rfl) (by decide +kernel)), (z_w 46 ((lwg_1 1).trans rfl) (by decide +kernel)), ncl_X8, pds_17, by decide⟩
theorem inX8_knock : Cond.instanceMethod yX8_knock ∈ z_tbl := (z_w 221 ((lwg_1 176).trans rfl) (by decide +kernel))
theorem seX8_knock : Cond.selects RX8 yX8_knock yX8_knock ∈ z_tbl := (z_w 222 ((lwg_1 177).trans rfl) (by decide +kernel))
theorem fX8_244 : z_F RX8 244 12 8 := ⟨(RX8, TX8, 9), "Loopdefaults", rfl, by decide, iX8, Or.inl (z_w 192 ((lwg_1 147).trans rfl) (by decide +kernel)), Or.inl rfl⟩
abbrev mX8_house : z_M := (yX8_house, cX8_house, 2, (some .int), [])
theorem kX8_house : z_okm mX8_house 1 := ⟨rfl, (z_w 454 ((lwg_2 169).trans rfl) (by decide +kernel)), (z_w 46 ((lwg_1 1).trans rfl) (by decide +kernel)), ncl_X8, pds_4, by decide⟩
theorem inX8_house : Cond.instanceMethod yX8_house ∈ z_tbl := (z_w 452 ((lwg_2 167).trans rfl) (by decide +kernel))
theorem seX8_house : Cond.selects RX8 yX8_house yX8_house ∈ z_tbl := (z_w 453 ((lwg_2 168).trans rfl) (by decide +kernel))
abbrev mX8_valuesOfRows : z_M := (yX8_valuesOfRows, cX8_valuesOfRows, 6, (some .int), [])
theorem kX8_valuesOfRows : z_okm mX8_valuesOfRows 0 := ⟨rfl, (z_w 529 ((lwg_3 4).trans rfl) (by decide +kernel)), (z_w 46 ((lwg_1 1).trans rfl) (by decide +kernel)), ncl_X8, pds_17, by decide⟩
theorem inX8_valuesOfRows : Cond.instanceMethod yX8_valuesOfRows ∈ z_tbl := (z_w 528 ((lwg_3 3).trans rfl) (by decide +kernel))
theorem seX8_valuesOfRows : Cond.selects RX8 yX8_valuesOfRows yX8_valuesOfRows ∈ z_tbl := (z_w 9 (by decide +kernel) (by decide +kernel))
theorem lX8_247 : Cond.methodLink RX8 247 yX8_valuesOfRows ∈ z_tbl := (z_w 526 ((lwg_3 1).trans rfl) (by decide +kernel))
abbrev mX8_pairsOfTables : z_M := (yX8_pairsOfTables, cX8_pairsOfTables, 6, (some .int), [])
theorem kX8_pairsOfTables : z_okm mX8_pairsOfTables 0 := ⟨rfl, (z_w 533 ((lwg_3 8).trans rfl) (by decide +kernel)), (z_w 46 ((lwg_1 1).trans rfl) (by decide +kernel)), ncl_X8, pds_17, by decide⟩
theorem inX8_pairsOfTables : Cond.instanceMethod yX8_pairsOfTables ∈ z_tbl := (z_w 532 ((lwg_3 7).trans rfl) (by decide +kernel))
theorem seX8_pairsOfTables : Cond.selects RX8 yX8_pairsOfTables yX8_pairsOfTables ∈ z_tbl := (z_w 10 (by decide +kernel) (by decide +kernel))
theorem lX8_250 : Cond.methodLink RX8 250 yX8_pairsOfTables ∈ z_tbl := (z_w 530 ((lwg_3 5).trans rfl) (by decide +kernel))
abbrev mX8_numbersHeard : z_M := (yX8_numbersHeard, cX8_numbersHeard, 6, (some .int), [])
theorem kX8_numbersHeard : z_okm mX8_numbersHeard 0 := ⟨rfl, (z_w 537 ((lwg_3 12).trans rfl) (by decide +kernel)), (z_w 46 ((lwg_1 1).trans rfl) (by decide +kernel)), ncl_X8, pds_17, by decide⟩
theorem inX8_numbersHeard : Cond.instanceMethod yX8_numbersHeard ∈ z_tbl := (z_w 536 ((lwg_3 11).trans rfl) (by decide +kernel))
theorem seX8_numbersHeard : Cond.selects RX8 yX8_numbersHeard yX8_numbersHeard ∈ z_tbl := (z_w 11 (by decide +kernel) (by decide +kernel))
theorem lX8_253 : Cond.methodLink RX8 253 yX8_numbersHeard ∈ z_tbl := (z_w 534 ((lwg_3 9).trans rfl) (by decide +kernel))
theorem fX8_256 : z_F RX8 256 12 7 := ⟨(RX8, TX8, 9), "Loopdefaults", rfl, by decide, iX8, Or.inl (z_w 191 ((lwg_1 146).trans rfl) (by decide +kernel)), Or.inl rfl⟩
abbrev mX8_isSound : z_M := (yX8_isSound, cX8_isSound, 5, (some .boolean), [])
theorem kX8_isSound : z_okm mX8_isSound 0 := ⟨rfl, (z_w 227 ((lwg_1 182).trans rfl) (by decide +kernel)), (z_w 46 ((lwg_1 1).trans rfl) (by decide +kernel)), ncl_X8, pds_10, by decide⟩
theorem inX8_isSound : Cond.instanceMethod yX8_isSound ∈ z_tbl := (z_w 225 ((lwg_1 180).trans rfl) (by decide +kernel))
theorem seX8_isSound : Cond.selects RX8 yX8_isSound yX8_isSound ∈ z_tbl := (z_w 226 ((lwg_1 181).trans rfl) (by decide +kernel))
abbrev mX8_isWalkCounted : z_M := (yX8_isWalkCounted, cX8_isWalkCounted, 4, (some .boolean), [])
theorem pds_47 : (parseMethodDescriptor "(LLoopdefaults$Row;)Z").map (fun d => d.parameters.length) = some 1 := by decide +kernel
theorem kX8_isWalkCounted : z_okm mX8_isWalkCounted 1 := ⟨rfl, (z_w 231 ((lwg_1 186).trans rfl) (by decide +kernel)), (z_w 46 ((lwg_1 1).trans rfl) (by decide +kernel)), ncl_X8, pds_47, by decide⟩
theorem inX8_isWalkCounted : Cond.instanceMethod yX8_isWalkCounted ∈ z_tbl := (z_w 230 ((lwg_1 185).trans rfl) (by decide +kernel))
theorem seX8_isWalkCounted : Cond.selects RX8 yX8_isWalkCounted yX8_isWalkCounted ∈ z_tbl := (z_w 0 (by decide +kernel) (by decide +kernel))
theorem lX8_259 : Cond.methodLink RX8 259 yX8_isWalkCounted ∈ z_tbl := (z_w 228 ((lwg_1 183).trans rfl) (by decide +kernel))
abbrev mX8_isTakingPlain : z_M := (yX8_isTakingPlain, cX8_isTakingPlain, 3, (some .boolean), [])
theorem kX8_isTakingPlain : z_okm mX8_isTakingPlain 1 := ⟨rfl, (z_w 341 ((lwg_2 56).trans rfl) (by decide +kernel)), (z_w 46 ((lwg_1 1).trans rfl) (by decide +kernel)), ncl_X8, pds_47, by decide⟩
theorem inX8_isTakingPlain : Cond.instanceMethod yX8_isTakingPlain ∈ z_tbl := (z_w 340 ((lwg_2 55).trans rfl) (by decide +kernel))
theorem seX8_isTakingPlain : Cond.selects RX8 yX8_isTakingPlain yX8_isTakingPlain ∈ z_tbl := (z_w 1 (by decide +kernel) (by decide +kernel))
theorem lX8_263 : Cond.methodLink RX8 263 yX8_isTakingPlain ∈ z_tbl := (z_w 338 ((lwg_2 53).trans rfl) (by decide +kernel))
abbrev mX8_areCopiesLike : z_M := (yX8_areCopiesLike, cX8_areCopiesLike, 6, (some .boolean), [])
theorem kX8_areCopiesLike : z_okm mX8_areCopiesLike 1 := ⟨rfl, (z_w 379 ((lwg_2 94).trans rfl) (by decide +kernel)), (z_w 46 ((lwg_1 1).trans rfl) (by decide +kernel)), ncl_X8, pds_24, by decide⟩
theorem inX8_areCopiesLike : Cond.instanceMethod yX8_areCopiesLike ∈ z_tbl := (z_w 378 ((lwg_2 93).trans rfl) (by decide +kernel))
theorem seX8_areCopiesLike : Cond.selects RX8 yX8_areCopiesLike yX8_areCopiesLike ∈ z_tbl := (z_w 2 (by decide +kernel) (by decide +kernel))
theorem lX8_266 : Cond.methodLink RX8 266 yX8_areCopiesLike ∈ z_tbl := (z_w 376 ((lwg_2 91).trans rfl) (by decide +kernel))
abbrev mX8_areCallsLike : z_M := (yX8_areCallsLike, cX8_areCallsLike, 4, (some .boolean), [])
theorem kX8_areCallsLike : z_okm mX8_areCallsLike 1 := ⟨rfl, (z_w 397 ((lwg_2 112).trans rfl) (by decide +kernel)), (z_w 46 ((lwg_1 1).trans rfl) (by decide +kernel)), ncl_X8, pds_24, by decide⟩
theorem inX8_areCallsLike : Cond.instanceMethod yX8_areCallsLike ∈ z_tbl := (z_w 396 ((lwg_2 111).trans rfl) (by decide +kernel))
theorem seX8_areCallsLike : Cond.selects RX8 yX8_areCallsLike yX8_areCallsLike ∈ z_tbl := (z_w 4 (by decide +kernel) (by decide +kernel))
theorem lX8_269 : Cond.methodLink RX8 269 yX8_areCallsLike ∈ z_tbl := (z_w 394 ((lwg_2 109).trans rfl) (by decide +kernel))
abbrev mX8_digest : z_M := (yX8_digest, cX8_digest, 7, (some .long), [])
theorem pds_48 : (parseMethodDescriptor "()J").map (fun d => d.parameters.length) = some 0 := by decide +kernel
theorem kX8_digest : z_okm mX8_digest 0 := ⟨rfl, (z_w 449 ((lwg_2 164).trans rfl) (by decide +kernel)), (z_w 46 ((lwg_1 1).trans rfl) (by decide +kernel)), ncl_X8, pds_48, by decide⟩
theorem inX8_digest : Cond.instanceMethod yX8_digest ∈ z_tbl := (z_w 447 ((lwg_2 162).trans rfl) (by decide +kernel))
theorem seX8_digest : Cond.selects RX8 yX8_digest yX8_digest ∈ z_tbl := (z_w 448 ((lwg_2 163).trans rfl) (by decide +kernel))
theorem lX8_274 : Cond.methodLink RX8 274 yX8_house ∈ z_tbl := (z_w 451 ((lwg_2 166).trans rfl) (by decide +kernel))
abbrev mX8_mixed : z_M := (yX8_mixed, cX8_mixed, 3, (some .long), [])
theorem pds_49 : (parseMethodDescriptor "(JI)J").map (fun d => d.parameters.length) = some 2 := by decide +kernel
theorem kX8_mixed : z_okm mX8_mixed 2 := ⟨rfl, (z_w 540 ((lwg_3 15).trans rfl) (by decide +kernel)), (z_w 46 ((lwg_1 1).trans rfl) (by decide +kernel)), ncl_X8, pds_49, by decide⟩
theorem stX8_mixed : Cond.static yX8_mixed ∈ z_tbl := (z_w 539 ((lwg_3 14).trans rfl) (by decide +kernel))
theorem lX8_277 : Cond.methodLink RX8 277 yX8_mixed ∈ z_tbl := (z_w 538 ((lwg_3 13).trans rfl) (by decide +kernel))
abbrev mX8_mixedRow : z_M := (yX8_mixedRow, cX8_mixedRow, 6, (some .long), [])
theorem pds_50 : (parseMethodDescriptor "(JLLoopdefaults$Row;)J").map (fun d => d.parameters.length) = some 2 := by decide +kernel
theorem kX8_mixedRow : z_okm mX8_mixedRow 2 := ⟨rfl, (z_w 544 ((lwg_3 19).trans rfl) (by decide +kernel)), (z_w 46 ((lwg_1 1).trans rfl) (by decide +kernel)), ncl_X8, pds_50, by decide⟩
theorem stX8_mixedRow : Cond.static yX8_mixedRow ∈ z_tbl := (z_w 543 ((lwg_3 18).trans rfl) (by decide +kernel))
theorem lX8_281 : Cond.methodLink RX8 281 yX8_mixedRow ∈ z_tbl := (z_w 542 ((lwg_3 17).trans rfl) (by decide +kernel))
abbrev mX8_mixedTable : z_M := (yX8_mixedTable, cX8_mixedTable, 7, (some .long), [])
theorem pds_51 : (parseMethodDescriptor "(JLLoopdefaults$Table;)J").map (fun d => d.parameters.length) = some 2 := by decide +kernel
theorem kX8_mixedTable : z_okm mX8_mixedTable 2 := ⟨rfl, (z_w 547 ((lwg_3 22).trans rfl) (by decide +kernel)), (z_w 46 ((lwg_1 1).trans rfl) (by decide +kernel)), ncl_X8, pds_51, by decide⟩
theorem stX8_mixedTable : Cond.static yX8_mixedTable ∈ z_tbl := (z_w 546 ((lwg_3 21).trans rfl) (by decide +kernel))
theorem lX8_285 : Cond.methodLink RX8 285 yX8_mixedTable ∈ z_tbl := (z_w 545 ((lwg_3 20).trans rfl) (by decide +kernel))
abbrev mX8_mixedHearer : z_M := (yX8_mixedHearer, cX8_mixedHearer, 6, (some .long), [])
theorem pds_52 : (parseMethodDescriptor "(JLLoopdefaults$Hearer;)J").map (fun d => d.parameters.length) = some 2 := by decide +kernel
theorem kX8_mixedHearer : z_okm mX8_mixedHearer 2 := ⟨rfl, (z_w 552 ((lwg_3 27).trans rfl) (by decide +kernel)), (z_w 46 ((lwg_1 1).trans rfl) (by decide +kernel)), ncl_X8, pds_52, by decide⟩
theorem stX8_mixedHearer : Cond.static yX8_mixedHearer ∈ z_tbl := (z_w 551 ((lwg_3 26).trans rfl) (by decide +kernel))
theorem lX8_289 : Cond.methodLink RX8 289 yX8_mixedHearer ∈ z_tbl := (z_w 550 ((lwg_3 25).trans rfl) (by decide +kernel))
theorem lX8_293 : Cond.methodLink RX8 293 yX8_isSound ∈ z_tbl := (z_w 830 ((lwg_4 65).trans rfl) (by decide +kernel))
-- call X8 306: ('"java/lang/IllegalArgumentException"', '"<init>"', '"(Ljava/lang/String;)V"')
abbrev mX8_bounded : z_M := (yX8_bounded, cX8_bounded, 1, (some .int), [])
theorem kX8_bounded : z_okm mX8_bounded 1 := ⟨rfl, (z_w 411 ((lwg_2 126).trans rfl) (by decide +kernel)), (z_w 46 ((lwg_1 1).trans rfl) (by decide +kernel)), ncl_X8, pds_4, by decide⟩
theorem stX8_bounded : Cond.static yX8_bounded ∈ z_tbl := (z_w 410 ((lwg_2 125).trans rfl) (by decide +kernel))
theorem lX8_309 : Cond.methodLink RX8 309 yX8_bounded ∈ z_tbl := (z_w 409 ((lwg_2 124).trans rfl) (by decide +kernel))
abbrev mX8_isEven : z_M := (yX8_isEven, cX8_isEven, 1, (some .boolean), [])
theorem kX8_isEven : z_okm mX8_isEven 1 := ⟨rfl, (z_w 358 ((lwg_2 73).trans rfl) (by decide +kernel)), (z_w 46 ((lwg_1 1).trans rfl) (by decide +kernel)), ncl_X8, pds_2, by decide⟩
theorem stX8_isEven : Cond.static yX8_isEven ∈ z_tbl := (z_w 357 ((lwg_2 72).trans rfl) (by decide +kernel))
theorem lX8_312 : Cond.methodLink RX8 312 yX8_isEven ∈ z_tbl := (z_w 356 ((lwg_2 71).trans rfl) (by decide +kernel))
theorem lX8_315 : Cond.methodLink RX8 315 yX7_give ∈ z_tbl := (z_w 299 ((lwg_2 14).trans rfl) (by decide +kernel))
theorem cuX8_315_X2 : z_CU RX8 RX2 "Loopdefaults$Walk" 315 yX7_give mX7_give := ⟨lX8_315, (z_w 301 ((lwg_2 16).trans rfl) (by decide +kernel)), Or.inl rfl, (z_w 302 ((lwg_2 17).trans rfl) (by decide +kernel)), inX7_give, ⟨by decide +kernel, by decide +kernel⟩, rfl⟩
theorem cuX8_315_X3 : z_CU RX8 RX3 "Loopdefaults$Walk" 315 yX7_give mX7_give := ⟨lX8_315, (z_w 301 ((lwg_2 16).trans rfl) (by decide +kernel)), Or.inl rfl, (z_w 303 ((lwg_2 18).trans rfl) (by decide +kernel)), inX7_give, ⟨by decide +kernel, by decide +kernel⟩, rfl⟩
theorem cuX8_315_X5 : z_CU RX8 RX5 "Loopdefaults$Walk" 315 yX7_give mX7_give := ⟨lX8_315, (z_w 301 ((lwg_2 16).trans rfl) (by decide +kernel)), Or.inl rfl, (z_w 304 ((lwg_2 19).trans rfl) (by decide +kernel)), inX7_give, ⟨by decide +kernel, by decide +kernel⟩, rfl⟩
theorem lX8_320 : Cond.methodLink RX8 320 yX7_ask ∈ z_tbl := (z_w 280 ((lwg_1 235).trans rfl) (by decide +kernel))
theorem cuX8_320_X2 : z_CU RX8 RX2 "Loopdefaults$Walk" 320 yX7_ask mX7_ask := ⟨lX8_320, (z_w 282 ((lwg_1 237).trans rfl) (by decide +kernel)), Or.inl rfl, (z_w 283 ((lwg_1 238).trans rfl) (by decide +kernel)), inX7_ask, ⟨by decide +kernel, by decide +kernel⟩, rfl⟩
theorem cuX8_320_X3 : z_CU RX8 RX3 "Loopdefaults$Walk" 320 yX7_ask mX7_ask := ⟨lX8_320, (z_w 282 ((lwg_1 237).trans rfl) (by decide +kernel)), Or.inl rfl, (z_w 284 ((lwg_1 239).trans rfl) (by decide +kernel)), inX7_ask, ⟨by decide +kernel, by decide +kernel⟩, rfl⟩
theorem cuX8_320_X5 : z_CU RX8 RX5 "Loopdefaults$Walk" 320 yX7_ask mX7_ask := ⟨lX8_320, (z_w 282 ((lwg_1 237).trans rfl) (by decide +kernel)), Or.inl rfl, (z_w 285 ((lwg_2 0).trans rfl) (by decide +kernel)), inX7_ask, ⟨by decide +kernel, by decide +kernel⟩, rfl⟩
theorem lX8_323 : Cond.methodLink RX8 323 yX0_takesIn ∈ z_tbl := (z_w 934 ((lwg_4 169).trans rfl) (by decide +kernel))
theorem fX8_326_X2 : z_F RX8 326 7 1 := ⟨(RX2, TX2, 5), "Loopdefaults$Walk", rfl, by decide, iX2, Or.inl (z_w 261 ((lwg_1 216).trans rfl) (by decide +kernel)), Or.inl rfl⟩
theorem fX8_326_X5 : z_F RX8 326 10 1 := ⟨(RX5, TX5, 5), "Loopdefaults$Walk", rfl, by decide, iX5, Or.inl (z_w 261 ((lwg_1 216).trans rfl) (by decide +kernel)), Or.inl rfl⟩
theorem fX8_329_X2 : z_F RX8 329 7 2 := ⟨(RX2, TX2, 5), "Loopdefaults$Walk", rfl, by decide, iX2, Or.inl (z_w 268 ((lwg_1 223).trans rfl) (by decide +kernel)), Or.inl rfl⟩
theorem fX8_329_X5 : z_F RX8 329 10 2 := ⟨(RX5, TX5, 5), "Loopdefaults$Walk", rfl, by decide, iX5, Or.inl (z_w 268 ((lwg_1 223).trans rfl) (by decide +kernel)), Or.inl rfl⟩
-- call X8 332: ('"Loopdefaults$Walk"', '"putInPlace"', '"(I)Z"')
theorem lX8_332 : Cond.methodLink RX8 332 ⟨"Loopdefaults$Walk", "putInPlace", "(I)Z"⟩ ∈ z_tbl := (z_w 986 ((lwg_4 221).trans rfl) (by decide +kernel))
theorem cuX8_332_X2 : z_CU RX8 RX2 "Loopdefaults$Walk" 332 ⟨"Loopdefaults$Walk", "putInPlace", "(I)Z"⟩ mX2_putInPlace := ⟨lX8_332, (z_w 988 ((lwg_4 223).trans rfl) (by decide +kernel)), Or.inr (z_wn 987 ((lwg_4 222).trans rfl) (by decide +kernel)), (z_w 989 ((lwg_4 224).trans rfl) (by decide +kernel)), inX2_putInPlace, ⟨by decide +kernel, by decide +kernel⟩, rfl⟩
theorem cuX8_332_X5 : z_CU RX8 RX5 "Loopdefaults$Walk" 332 ⟨"Loopdefaults$Walk", "putInPlace", "(I)Z"⟩ mX5_putInPlace := ⟨lX8_332, (z_w 988 ((lwg_4 223).trans rfl) (by decide +kernel)), Or.inr (z_wn 987 ((lwg_4 222).trans rfl) (by decide +kernel)), (z_w 999 ((lwg_4 234).trans rfl) (by decide +kernel)), inX5_putInPlace, ⟨by decide +kernel, by decide +kernel⟩, rfl⟩
-- call X8 335: ('"Loopdefaults$RowWalk"', '"ask"', '"()Z"')
theorem lX8_335 : Cond.methodLink RX8 335 ⟨"Loopdefaults$RowWalk", "ask", "()Z"⟩ ∈ z_tbl := (z_w 345 ((lwg_2 60).trans rfl) (by decide +kernel))
theorem cuX8_335_X2 : z_CU RX8 RX2 "Loopdefaults$Walk" 335 ⟨"Loopdefaults$RowWalk", "ask", "()Z"⟩ mX7_ask := ⟨lX8_335, (z_w 346 ((lwg_2 61).trans rfl) (by decide +kernel)), Or.inl rfl, (z_w 348 ((lwg_2 63).trans rfl) (by decide +kernel)), inX7_ask, ⟨by decide +kernel, by decide +kernel⟩, rfl⟩
-- call X8 336: ('"Loopdefaults$RowWalk"', '"give"', '"()I"')
theorem lX8_336 : Cond.methodLink RX8 336 ⟨"Loopdefaults$RowWalk", "give", "()I"⟩ ∈ z_tbl := (z_w 349 ((lwg_2 64).trans rfl) (by decide +kernel))
theorem cuX8_336_X2 : z_CU RX8 RX2 "Loopdefaults$Walk" 336 ⟨"Loopdefaults$RowWalk", "give", "()I"⟩ mX7_give := ⟨lX8_336, (z_w 350 ((lwg_2 65).trans rfl) (by decide +kernel)), Or.inl rfl, (z_w 352 ((lwg_2 67).trans rfl) (by decide +kernel)), inX7_give, ⟨by decide +kernel, by decide +kernel⟩, rfl⟩
theorem lX8_337 : Cond.methodLink RX8 337 yX2_takeAway ∈ z_tbl := (z_w 362 ((lwg_2 77).trans rfl) (by decide +kernel))
abbrev mX8_isWhatIsLeft : z_M := (yX8_isWhatIsLeft, cX8_isWhatIsLeft, 6, (some .boolean), [])
theorem pds_53 : (parseMethodDescriptor "(LLoopdefaults$Row;LLoopdefaults$Row;I)Z").map (fun d => d.parameters.length) = some 3 := by decide +kernel
theorem kX8_isWhatIsLeft : z_okm mX8_isWhatIsLeft 3 := ⟨rfl, (z_w 373 ((lwg_2 88).trans rfl) (by decide +kernel)), (z_w 46 ((lwg_1 1).trans rfl) (by decide +kernel)), ncl_X8, pds_53, by decide⟩
theorem stX8_isWhatIsLeft : Cond.static yX8_isWhatIsLeft ∈ z_tbl := (z_w 372 ((lwg_2 87).trans rfl) (by decide +kernel))
theorem lX8_340 : Cond.methodLink RX8 340 yX8_isWhatIsLeft ∈ z_tbl := (z_w 371 ((lwg_2 86).trans rfl) (by decide +kernel))
theorem lX8_344 : Cond.methodLink RX8 344 yX4_become ∈ z_tbl := (z_w 380 ((lwg_2 95).trans rfl) (by decide +kernel))
abbrev mX8_isCallLike : z_M := (yX8_isCallLike, cX8_isCallLike, 11, (some .boolean), [])
theorem pds_54 : (parseMethodDescriptor "(LLoopdefaults$Table;III)Z").map (fun d => d.parameters.length) = some 4 := by decide +kernel
theorem kX8_isCallLike : z_okm mX8_isCallLike 4 := ⟨rfl, (z_w 401 ((lwg_2 116).trans rfl) (by decide +kernel)), (z_w 46 ((lwg_1 1).trans rfl) (by decide +kernel)), ncl_X8, pds_54, by decide⟩
theorem inX8_isCallLike : Cond.instanceMethod yX8_isCallLike ∈ z_tbl := (z_w 400 ((lwg_2 115).trans rfl) (by decide +kernel))
theorem seX8_isCallLike : Cond.selects RX8 yX8_isCallLike yX8_isCallLike ∈ z_tbl := (z_w 5 (by decide +kernel) (by decide +kernel))
theorem lX8_346 : Cond.methodLink RX8 346 yX8_isCallLike ∈ z_tbl := (z_w 398 ((lwg_2 113).trans rfl) (by decide +kernel))
theorem lX8_352 : Cond.methodLink RX8 352 yX4_keyAt ∈ z_tbl := (z_w 548 ((lwg_3 23).trans rfl) (by decide +kernel))
abbrev mJ0_length_8abf5 : z_M := (yJ0_length_8abf5, cJ0_length_8abf5, 1, (some .int), [])
theorem ncl_J0 : RJ0 ≠ "java/lang/invoke/MethodHandle" ∧ RJ0 ≠ "java/lang/invoke/VarHandle" := ⟨by decide +kernel, by decide +kernel⟩
theorem kJ0_length_8abf5 : z_okm mJ0_length_8abf5 0 := ⟨rfl, (z_w 782 ((lwg_4 17).trans rfl) (by decide +kernel)), (z_w 76 ((lwg_1 31).trans rfl) (by decide +kernel)), ncl_J0, pds_17, by decide⟩
theorem inJ0_length_8abf5 : Cond.instanceMethod yJ0_length_8abf5 ∈ z_tbl := (z_w 780 ((lwg_4 15).trans rfl) (by decide +kernel))
theorem lX8_355 : Cond.methodLink RX8 355 yJ0_length_8abf5 ∈ z_tbl := (z_w 829 ((lwg_4 64).trans rfl) (by decide +kernel))
theorem nX8_360 : z_N RX8 360 1 [.null, .int 0, .int 0, .int 0] := ⟨(RJ4, TJ4, 4), tyJ4, rfl, iJ4, (z_w 564 ((lwg_3 39).trans rfl) (by decide +kernel)), (z_w 565 ((lwg_3 40).trans rfl) (by decide +kernel)), (z_w 75 ((lwg_1 30).trans rfl) (by decide +kernel)), tyJ4_ok, rfl, by decide, rfl⟩
theorem lX8_362 : Cond.methodLink RX8 362 yJ4_init_da8c8 ∈ z_tbl := (z_w 566 ((lwg_3 41).trans rfl) (by decide +kernel))
theorem lX8_363 : Cond.methodLink RX8 363 yJ4_append_cf468 ∈ z_tbl := (z_w 595 ((lwg_3 70).trans rfl) (by decide +kernel))
theorem lX8_366 : Cond.methodLink RX8 366 yJ4_append_bf812 ∈ z_tbl := (z_w 690 ((lwg_3 165).trans rfl) (by decide +kernel))
theorem lX8_369 : Cond.methodLink RX8 369 yJ4_toString_0e30d ∈ z_tbl := (z_w 724 ((lwg_3 199).trans rfl) (by decide +kernel))
end ZM0
section ZM1
section ZF2
variable {G : z_G} {l : Launch} {y : z_M} {S : z_S} {pc : Nat} {lo : List (Nat × Value)} {st : List Value} {w w' : z_W} {kc ks : Nat}
theorem j_objI {idx a : Nat} (hd : decode y.2.1 pc = .ok (.invokespecial idx, 3)) (hl : Cond.methodLink y.1.cls idx Lib.objectInit ∈ z_tbl) (hi : Cond.instanceMethod Lib.objectInit ∈ z_tbl) (hcd : Cond.code Lib.objectInit ⟨#[0xb1]⟩ 1 none ∈ z_tbl) (hrk : 1 ≤ S.1) (hW : z_cat st ≤ 8) (h : z_J G l y S (pc + 3) lo st w kc ks) : z_J G l y S pc lo (.ref a :: st) w kc ks := by
  intro p e s m args below meth c R0 hok R H locs ls cst hat hlo hst
  obtain ⟨c1, cs1, rfl, ⟨-, h1⟩, hst1⟩ := z_Lc hst
  subst h1
  have kk := h p e s m args below meth c R0 hok R H locs ls cs1 hat hlo hst1
  have hsz := hlo.choose_spec.1.1
  obtain ⟨hx, hb, -, -, -, hown, hts, henv, -⟩ := hok
  have h8 : 2 * (F0 m pc ls (.ref (R.1 a) :: cs1)).monitorRoom + (cs1.map fun v => v.category).sum ≤ 8 := lv_room (by rw [z_Lcs hst1]; exact hW)
  have h40 : 20 ≤ (z_rm S.1 S.2.1 S.2.2.1).locals := by show 20 ≤ 40 * S.1; omega
  exact W.objInit hx hb hown (hts _ hl) (hts _ hi) (hts _ hcd) rfl hsz rfl hd hrk (by omega) kk
def z_ui (f : Nat → Int32) (k : Nat) (x : Int32) : Nat → Int32 := fun j => cond (Nat.beq j k) x (f j)
theorem z_uie (f : Nat → Int32) (k : Nat) (x : Int32) : z_u (fun j => .int (f j)) k (.int x) = fun j => .int (z_ui f k x j) := by
  funext j
  unfold z_u z_ui
  cases Nat.beq j k <;> rfl
theorem z_ui_self {f : Nat → Int32} {k : Nat} {x : Int32} : z_ui f k x k = x := by unfold z_ui; rw [Nat.beq_refl]; rfl
theorem z_ui_ne {f : Nat → Int32} {k j : Nat} {x : Int32} (h : j ≠ k) : z_ui f k x j = f j := by unfold z_ui; rw [z_beq h]; rfl
theorem j_ld {a n : Nat} {f : Nat → Int32} {i : Int32} (hd : decode y.2.1 pc = .ok (.iaload, 1)) (hg : z_g w a = some (.inl (0, n, fun j => .int (f j)))) (hin : vp_in i n) (h : z_J G l y S (pc + 1) lo (.int (f i.toNatClampNeg) :: st) w kc ks) : z_J G l y S pc lo (.int i :: .ref a :: st) w kc ks := j_iald hd hg hin rfl h
theorem j_sto {a n : Nat} {f : Nat → Int32} {i x : Int32} (hd : decode y.2.1 pc = .ok (.iastore, 1)) (hg : z_g w a = some (.inl (0, n, fun j => .int (f j)))) (hin : vp_in i n) (hw : z_s w a (.inl (0, n, fun j => .int (z_ui f i.toNatClampNeg x j))) = w') (h : z_J G l y S (pc + 1) lo st w' kc ks) : z_J G l y S pc lo (.int x :: .int i :: .ref a :: st) w kc ks := j_iast hd hg hin (by rw [z_uie]; exact hw) h
theorem z_in {i : Int32} {n : Nat} (h0 : ¬ i < 0) (h1 : ¬ Int32.ofNat n ≤ i) (hn : n < 2147483648) : vp_in i n := by
  have h2 : ¬ (Int32.ofNat n).toInt ≤ i.toInt := fun z => h1 ((Int32.le_iff_toInt_le).mpr z)
  have h3 : ¬ i.toInt < 0 := fun z => h0 ((Int32.lt_iff_toInt_lt).mpr (by rw [Int32.toInt_zero]; exact z))
  have h4 : (Int32.ofNat n).toInt = n := nI_toInt (by omega)
  exact vp_in_iff.mpr ⟨by omega, by omega⟩
end ZF2
abbrev z_ia (n : Nat) (f : Nat → Int32) : z_E := .inl (0, n, fun j => .int (f j))
theorem z_inc (j : Nat) : nI j + Int32.ofInt 1 = nI (j + 1) := nI_1 j
theorem z_q0 {lo : List (Nat × Value)} : ∀ q ∈ ([] : List (Nat × Value)), z_find lo q.1 = some q.2 := fun _ h => by cases h
theorem z_q1 {lo t : List (Nat × Value)} {i : Nat} {v : Value} (h : z_find lo i = some v) (ht : ∀ q ∈ t, z_find lo q.1 = some q.2) : ∀ q ∈ (i, v) :: t, z_find lo q.1 = some q.2 := fun q hq => by
  rcases List.mem_cons.mp hq with rfl | hq
  · exact h
  · exact ht q hq
theorem j_lo2 {G : z_G} {l : Launch} {y : z_M} {S : z_S} {pc : Nat} {lo lo' : List (Nat × Value)} {st : List Value} {w : z_W} {kc ks : Nat} (h : z_J G l y S pc lo' st w kc ks) (hs : ∀ q ∈ lo', z_find lo q.1 = some q.2) : z_J G l y S pc lo st w kc ks := j_lo hs h
theorem z_dc {ci k idx : Nat} {own : String} {q0 : vw_C} (hq : z_cls[ci]? = some q0) (h1 : (q0.2.1 k).1 = own) (h2 : Cond.fieldLink own idx own (q0.2.1 k).2.1 (q0.2.1 k).2.2.1 ∈ z_tbl) : ∀ q : vw_C, z_cls[ci]? = some q → (q.2.1 k).1 = own ∧ Cond.fieldLink own idx own (q.2.1 k).2.1 (q.2.1 k).2.2.1 ∈ z_tbl := fun q h => by
  have e : q = q0 := Option.some.inj (h.symm.trans hq)
  subst e
  exact ⟨h1, h2⟩
def z_bi (b : Bool) : Int32 := cond b 1 0
theorem z_bn (b : Bool) : narrow .boolean (.int (z_bi b)) = .int (z_bi b) := by cases b <;> rfl
theorem z_bf (b : Bool) : fits .boolean (.int (z_bi b)) = true := by cases b <;> rfl
theorem z_bt {b : Bool} (h : ¬ z_bi b = 0) : b = true := by
  cases b with
  | true => rfl
  | false => exact absurd rfl h
theorem z_bF {b : Bool} (h : z_bi b = 0) : b = false := by
  cases b with
  | false => rfl
  | true => exact absurd h (by decide)
abbrev z_SF (rk mc ms : Nat) (L0 : List z_E) (Q : Option Value → List z_E → Prop) : z_S := (rk, mc, ms, (L0, z_no), (fun v w => w.2 = z_no ∧ w.1.length = L0.length ∧ Q v w.1), fun _ _ => False)
theorem z_ltI {j n : Nat} (h : ¬ Int32.ofNat n ≤ nI j) (hj : j < 2147483648) (hn : n < 2147483648) : j < n := Nat.not_le.mp (fun z => h ((nI_leI hn hj).mpr z))
theorem z_geI {j n : Nat} (h : Int32.ofNat n ≤ nI j) (hj : j < 2147483648) (hn : n < 2147483648) : n ≤ j := (nI_leI hn hj).mp h
section ZM
variable {G : z_G} {l : Launch} {y : z_M} {S : z_S} {pc : Nat} {lo : List (Nat × Value)} {st : List Value} {w w' : z_W} {kc ks : Nat}
theorem j_top {v v' : Value} (e : v = v') (h : z_J G l y S pc lo (v' :: st) w kc ks) : z_J G l y S pc lo (v :: st) w kc ks := e ▸ h
theorem j_tsIn {dflt lo9 hi : Int} {offs : Array Int} {len : Nat} {x : Int32} {off : Int} {tgt : Nat} (hd : decode y.2.1 pc = .ok (.tableswitch dflt lo9 hi offs, len)) (h1 : ¬ x.toInt < lo9) (h2 : ¬ hi < x.toInt) (ho : offs[(x.toInt - lo9).toNat]? = some off) (ht : (pc : Int) + off = (tgt : Int)) (h : z_J G l y S tgt lo st w kc ks) : z_J G l y S pc lo (.int x :: st) w kc ks := by
  intro p e s m args below meth c R0 hok R H locs ls cst hat hlo hst
  obtain ⟨c1, cs1, rfl, h9, hst1⟩ := z_Lc hst
  have h9 : c1 = .int x := h9
  subst h9
  exact lv_tableIn hok.1 hok.2.1 hd h1 h2 ho ht (h p e s m args below meth c R0 hok R H locs ls _ hat hlo hst1)
theorem j_tsOut {dflt lo9 hi : Int} {offs : Array Int} {len : Nat} {x : Int32} {tgt : Nat} (hd : decode y.2.1 pc = .ok (.tableswitch dflt lo9 hi offs, len)) (h1 : x.toInt < lo9 ∨ hi < x.toInt) (ht : (pc : Int) + dflt = (tgt : Int)) (h : z_J G l y S tgt lo st w kc ks) : z_J G l y S pc lo (.int x :: st) w kc ks := by
  intro p e s m args below meth c R0 hok R H locs ls cst hat hlo hst
  obtain ⟨c1, cs1, rfl, h9, hst1⟩ := z_Lc hst
  have h9 : c1 = .int x := h9
  subst h9
  exact lv_tableOut hok.1 hok.2.1 hd h1 ht (h p e s m args below meth c R0 hok R H locs ls _ hat hlo hst1)
theorem z_swE {x : Int32} {n : Nat} (h : x.toInt = n) (hn : n < 2147483648) : x = Int32.ofNat n := Int32.toInt_inj.mp (by rw [h]; exact (nI_toInt hn).symm)
theorem z_sw3 (x : Int32) : x = 0 ∨ x = 1 ∨ x = 2 ∨ (x.toInt < 0 ∨ 2 < x.toInt) := by
  by_cases h0 : x.toInt = (0 : Nat)
  · exact Or.inl (z_swE h0 (by decide))
  · by_cases h1 : x.toInt = (1 : Nat)
    · exact Or.inr (Or.inl (z_swE h1 (by decide)))
    · by_cases h2 : x.toInt = (2 : Nat)
      · exact Or.inr (Or.inr (Or.inl (z_swE h2 (by decide))))
      · exact Or.inr (Or.inr (Or.inr (by omega)))
end ZM
def z_m20 (m : Int32) : Prop := m.toInt ≤ 20
theorem z_decr (j : Nat) : nI (j + 1) + Int32.ofInt (-1) = nI j := pk_m1 j
end ZM1
section ZM2
section ZFN
def z_CN (G : z_G) (l : Launch) (y : z_M) (rk mc ms nm : Nat) (L0 : List z_E) (av : List Value) (Q : Option Value → List z_E → Prop) : Prop :=
  z_Con G l y rk mc ms (L0, z_no) av (fun v w => w.2 = z_no ∧ w.1.length ≤ L0.length + nm ∧ Q v w.1) (fun _ _ => False)
def z_thN (th : List Nat) (n k : Nat) : List Nat := th ++ (List.range k).map (fun j => n + j)
def z_wN (w : z_W) (th : List Nat) (L' : List z_E) (k0 : Nat) : z_W :=
  let th' := z_thN th w.1.length (L'.length - k0)
  let w2 := z_ss w th ((L'.take k0).map (z_re th'))
  (w2.1 ++ (L'.drop k0).map (z_re th'), w2.2)
theorem z_ss_len : ∀ {th : List Nat} {es : List z_E} {w : z_W}, (z_ss w th es).1.length = w.1.length
  | [], es, w => by unfold z_ss; rfl
  | k :: th, [], w => by unfold z_ss; rfl
  | k :: th, e :: es, w => by
    unfold z_ss
    rw [z_ss_len]
    cases hb : Nat.blt k 1000 <;> simp only [z_s, hb, cond]
    exact List.length_set
theorem z_blt {n : Nat} (h : n < 1000) : Nat.blt n 1000 = true := Nat.ble_eq_true_of_le (by omega)
theorem z_bltF {n : Nat} (h : 1000 ≤ n) : Nat.blt n 1000 = false := by
  cases hb : Nat.blt n 1000 with
  | false => rfl
  | true => exact absurd (Nat.le_of_ble_eq_true hb) (by omega)
theorem z_gap {w : z_W} {X : List z_E} {n : Nat} (h : n < w.1.length ∨ 1000 ≤ n) : z_g (w.1 ++ X, w.2) n = z_g w n := by
  by_cases hn : n < 1000
  · simp only [z_g, z_blt hn, cond]
    rcases h with h | h
    · exact List.getElem?_append_left h
    · omega
  · simp only [z_g, z_bltF (Nat.not_lt.mp hn), cond]
theorem z_gap2 {w : z_W} {X : List z_E} {n : Nat} (h : w.1.length ≤ n) (hn : n < 1000) : z_g (w.1 ++ X, w.2) n = X[n - w.1.length]? := by
  simp only [z_g, z_blt hn, cond]
  exact List.getElem?_append_right h
set_option maxHeartbeats 8000000 in
theorem z_frameN {G : z_G} {l : Launch} {y : z_M} {rk mc ms nm : Nat} {L0 : List z_E} {av : List Value} {Q : Option Value → List z_E → Prop} {w : z_W} (th : List Nat) (hth : th.map (z_g w) = L0.map (fun e => some (z_re th e))) (hnd : th.Nodup) (hl : L0.length + nm ≤ 1000) (hw : w.1.length + nm ≤ 1000) (h : z_CN G l y rk mc ms nm L0 av Q) :
    z_Con G l y rk mc ms w (av.map (z_rn th)) (fun v w' => ∃ (v0 : Option Value) (L' : List z_E), Q v0 L' ∧ v = v0.map (z_rn (z_thN th w.1.length (L'.length - L0.length))) ∧ w' = z_wN w th L' L0.length) (fun _ _ => False) := by
  intro R0
  have hM := h ((fun i => R0.1 (th.getD i 0)), R0.2)
  intro p e ha hc hk s m args below hf happ hPc hK
  obtain ⟨⟨cav, rfl, hav⟩, henv, hP, hb⟩ := hPc
  have hlen : th.length = L0.length := by have := congrArg List.length hth; simpa using this
  have hl1 : L0.length ≤ 1000 := by omega
  have hat : ∀ (i : Nat) (e : z_E), L0[i]? = some e → ∃ n, th[i]? = some n ∧ z_g w n = some (z_re th e) := by
    intro i e he
    have h1 : (th.map (z_g w))[i]? = (L0.map (fun e => some (z_re th e)))[i]? := by rw [hth]
    rw [List.getElem?_map, List.getElem?_map, he] at h1
    cases hi : th[i]? with
    | none => rw [hi] at h1; cases h1
    | some n => rw [hi] at h1; exact ⟨n, rfl, Option.some.inj h1⟩
  have hget : ∀ {i n : Nat}, th[i]? = some n → th.getD i 0 = n := by
    intro i n hi
    rw [List.getD_eq_getElem?_getD, hi]
    rfl
  have hdi : ∀ i, z_d (L0, z_no) i → ∃ n, th[i]? = some n ∧ z_d w n := by
    intro i ⟨e, he⟩
    obtain ⟨n, h1, h2⟩ := hat i e (z_gL he)
    exact ⟨n, h1, ⟨_, h2⟩⟩
  have hid : ∀ {i n : Nat}, th[i]? = some n → z_d (L0, z_no) i := by
    intro i n hi
    have h1 : i < L0.length := by rw [← hlen]; exact (List.getElem?_eq_some_iff.mp hi).1
    exact ⟨L0[i], z_Lg' hl1 (List.getElem?_eq_getElem h1)⟩
  have hbs : ∀ v c, z_V G R0 w (z_rn th v) c → z_V G ((fun i => R0.1 (th.getD i 0)), R0.2) (L0, z_no) v c := by
    intro v c hv
    cases v with
    | int x => exact hv
    | long x => exact hv
    | null => exact hv
    | float b => exact hv
    | retAddr k => exact hv
    | double b => exact hv
    | ref i =>
      cases hi : th[i]? with
      | none => simp only [z_rn, hi] at hv; exact hv.elim
      | some n =>
        simp only [z_rn, hi] at hv
        refine ⟨hid hi, ?_⟩
        show c = .ref (R0.1 (th.getD i 0))
        rw [hget hi]
        exact hv.2
  have hP0 : z_P G ((fun i => R0.1 (th.getD i 0)), R0.2) (L0, z_no) s.heap := by
    refine ⟨fun n e he => ?_, fun a b ha hb hab => ?_, fun q b hq => ⟨(hP.2.2 q b hq).1, fun n hn => ?_⟩⟩
    · obtain ⟨k, h1, h2⟩ := hat n e (z_gL he)
      obtain ⟨h3, h4⟩ := hP.1 k _ h2
      show z_X _ _ _ _ (R0.1 (th.getD n 0)) _ ∧ _ ≤ R0.1 (th.getD n 0)
      rw [hget h1]
      refine ⟨?_, h4⟩
      cases e with
      | inl x =>
        obtain ⟨z, z1, z2⟩ := h3
        exact ⟨z, z1, fun j hj => hbs _ _ (z2 j hj)⟩
      | inr o =>
        obtain ⟨q, gs, x1, x2, x3, x4⟩ := h3
        exact ⟨q, gs, x1, by rw [← x2]; exact (List.length_map _).symm, x3, z_Lmp hbs x4⟩
    · obtain ⟨k1, a1, a2⟩ := hdi a ha
      obtain ⟨k2, b1, b2⟩ := hdi b hb
      have hab : R0.1 (th.getD a 0) = R0.1 (th.getD b 0) := hab
      rw [hget a1, hget b1] at hab
      have := hP.2.1 k1 k2 a2 b2 hab
      subst this
      exact z_ndi hnd a1 b1
    · obtain ⟨k1, a1, a2⟩ := hdi n hn
      show R0.1 (th.getD n 0) ≠ q
      rw [hget a1]
      exact (hP.2.2 q b hq).2 k1 a2
  obtain ⟨nn, o, s1, s2, s3, hQ⟩ := hM p e ha hc hk s m cav.toArray below hf happ ⟨⟨cav, rfl, z_Lmp hbs hav⟩, henv, hP0, hb⟩ hK
  refine ⟨nn, o, s1, s2, s3, ?_⟩
  generalize stepsAlone p.tables e nn s = t at hQ
  rcases hQ with ⟨⟨v, cv, R', w', ho, hO, ⟨hw2, hwl, hq⟩, hP', hT, hF⟩, hfe⟩ | ⟨q, ho, E, ce, L, ⟨R', w', hx, -⟩, -⟩
  · obtain ⟨L', P'⟩ := w'
    have hw2 : P' = z_no := hw2
    subst hw2
    have hwl : L'.length ≤ L0.length + nm := hwl
    have hl' : L'.length ≤ 1000 := by omega
    have hge : L0.length ≤ L'.length := by
      rcases Nat.lt_or_ge L'.length L0.length with z | z
      · have h1 : z_d (L0, z_no) L'.length := ⟨_, z_Lg' hl1 (List.getElem?_eq_getElem z)⟩
        obtain ⟨e9, he9⟩ := (hT.1 _ h1).1
        have := (List.getElem?_eq_some_iff.mp (z_gL he9)).1
        omega
      · exact z
    generalize hK0 : L'.length - L0.length = kk
    generalize hTH : z_thN th w.1.length kk = th'
    have hwN : z_wN w th L' L0.length = ((z_ss w th ((L'.take L0.length).map (z_re th'))).1 ++ (L'.drop L0.length).map (z_re th'), (z_ss w th ((L'.take L0.length).map (z_re th'))).2) := by
      unfold z_wN
      rw [hK0, hTH]
    generalize hW2 : z_ss w th ((L'.take L0.length).map (z_re th')) = w2 at hwN
    have hR : ∀ {i n : Nat}, th[i]? = some n → R'.1 i = R0.1 n := by
      intro i n hi
      rw [(hT.1 i (hid hi)).2]
      show R0.1 (th.getD i 0) = _
      rw [hget hi]
    have hdth : ∀ k ∈ th, z_d w k := by
      intro k hk9
      obtain ⟨i, hi⟩ := List.getElem?_of_mem hk9
      obtain ⟨e9, he9⟩ := hid hi
      obtain ⟨n9, h9, h8⟩ := hat i e9 (z_gL he9)
      rw [hi] at h9
      cases h9
      exact ⟨_, h8⟩
    have hl2 : w2.1.length = w.1.length := by rw [← hW2]; exact z_ss_len
    have hdw2 : ∀ n, z_d w2 n ↔ z_d w n := by rw [← hW2]; exact z_ss_d hdth
    -- names: old ones, and the added
    have hold9 : ∀ {n : Nat}, z_d w n → n < w.1.length ∨ 1000 ≤ n := by
      intro n ⟨e9, he9⟩
      by_cases hn : n < 1000
      · simp only [z_g, z_blt hn, cond] at he9
        exact Or.inl (List.getElem?_eq_some_iff.mp he9).1
      · exact Or.inr (Nat.not_lt.mp hn)
    have hgO : ∀ {n : Nat}, (n < w.1.length ∨ 1000 ≤ n) → z_g (z_wN w th L' L0.length) n = z_g w2 n := by
      intro n hn
      rw [hwN]
      exact z_gap (by rw [hl2]; exact hn)
    have hgN : ∀ {j : Nat}, j < kk → z_g (z_wN w th L' L0.length) (w.1.length + j) = (L'[L0.length + j]?).map (z_re th') := by
      intro j hj
      rw [hwN, z_gap2 (by rw [hl2]; omega) (by omega), hl2, List.getElem?_map, List.getElem?_drop]
      congr 2
      omega
    have hdO : ∀ {n : Nat}, z_d w n → z_d (z_wN w th L' L0.length) n := by
      intro n hn
      obtain ⟨e9, he9⟩ := (hdw2 n).mpr hn
      exact ⟨e9, by rw [hgO (hold9 hn)]; exact he9⟩
    have hdN : ∀ {n : Nat}, z_d (z_wN w th L' L0.length) n → z_d w n ∨ ∃ j, j < kk ∧ n = w.1.length + j := by
      intro n ⟨e9, he9⟩
      by_cases h1 : n < w.1.length ∨ 1000 ≤ n
      · rw [hgO h1] at he9
        exact Or.inl ((hdw2 n).mp ⟨e9, he9⟩)
      · have h2 : n < 1000 := by omega
        rw [hwN, z_gap2 (by rw [hl2]; omega) h2, hl2, List.getElem?_map, List.getElem?_drop] at he9
        cases h3 : L'[L0.length + (n - w.1.length)]? with
        | none => rw [h3] at he9; cases he9
        | some e8 =>
          have h4 := (List.getElem?_eq_some_iff.mp h3).1
          exact Or.inr ⟨n - w.1.length, by omega, by omega⟩
    have hthO : ∀ {i n : Nat}, th[i]? = some n → th'[i]? = some n := by
      intro i n hi
      rw [← hTH]
      unfold z_thN
      rw [List.getElem?_append_left (List.getElem?_eq_some_iff.mp hi).1]
      exact hi
    have hthN : ∀ {j : Nat}, j < kk → th'[L0.length + j]? = some (w.1.length + j) := by
      intro j hj
      rw [← hTH]
      unfold z_thN
      rw [List.getElem?_append_right (by omega), List.getElem?_map, List.getElem?_range (by omega)]
      show some (w.1.length + (L0.length + j - th.length)) = _
      rw [hlen]
      congr 2
      omega
    -- the later addresses
    generalize hRR : ((fun n => if n < w.1.length ∨ 1000 ≤ n then R0.1 n else R'.1 (L0.length + (n - w.1.length)), R'.2) : z_R) = RR
    have hRO : ∀ {n : Nat}, z_d w n → RR.1 n = R0.1 n := by
      intro n hn
      rw [← hRR]
      show (if n < w.1.length ∨ 1000 ≤ n then R0.1 n else _) = _
      rw [if_pos (hold9 hn)]
    have hRN : ∀ {j : Nat}, j < kk → RR.1 (w.1.length + j) = R'.1 (L0.length + j) := by
      intro j hj
      rw [← hRR]
      show (if w.1.length + j < w.1.length ∨ 1000 ≤ w.1.length + j then _ else R'.1 (L0.length + (w.1.length + j - w.1.length))) = _
      rw [if_neg (by omega), Nat.add_sub_cancel_left]
    have hR2 : RR.2 = R'.2 := by rw [← hRR]
    have hdL : ∀ i, z_d (L', z_no) i → (∃ n, th[i]? = some n) ∨ ∃ j, j < kk ∧ i = L0.length + j := by
      intro i ⟨e9, he9⟩
      have h1 := (List.getElem?_eq_some_iff.mp (z_gL he9)).1
      by_cases h2 : i < L0.length
      · exact Or.inl ⟨_, List.getElem?_eq_getElem (by rw [hlen]; exact h2)⟩
      · exact Or.inr ⟨i - L0.length, by omega, by omega⟩
    have hdNn : ∀ {j : Nat}, j < kk → z_d (L', z_no) (L0.length + j) := fun {j} hj => ⟨_, z_Lg' hl' (List.getElem?_eq_getElem (by omega))⟩
    have hdNw : ∀ {j : Nat}, j < kk → z_d (z_wN w th L' L0.length) (w.1.length + j) := by
      intro j hj
      have h1 := hgN hj
      rw [List.getElem?_eq_getElem (by omega)] at h1
      exact ⟨_, h1⟩
    have hsb : ∀ v c, z_V G R' (L', z_no) v c → z_V G RR (z_wN w th L' L0.length) (z_rn th' v) c := by
      intro v c hv
      cases v with
      | int x => exact hv
      | long x => exact hv
      | null => exact hv
      | float b => obtain ⟨q, h1, h2⟩ := hv; exact ⟨q, h1, by rw [hR2]; exact h2⟩
      | retAddr k => exact hv
      | double b => exact hv
      | ref i =>
        obtain ⟨h1, h2⟩ := hv
        rcases hdL i h1 with ⟨n, hi⟩ | ⟨j, hj, rfl⟩
        · simp only [z_rn, hthO hi]
          have hn := hdth n (List.mem_of_getElem? hi)
          exact ⟨hdO hn, by rw [h2, hR hi, hRO hn]⟩
        · simp only [z_rn, hthN hj]
          exact ⟨hdNw hj, by rw [h2, hRN hj]⟩
    have hbb : ∀ v c, z_V G R0 w v c → z_V G RR (z_wN w th L' L0.length) v c := by
      intro v c hv
      cases v with
      | int x => exact hv
      | long x => exact hv
      | null => exact hv
      | float b => obtain ⟨q, h1, h2⟩ := hv; exact ⟨q, h1, by rw [hR2]; exact h2.imp (hT.2.1 q b) id⟩
      | retAddr k => exact hv
      | double b => exact hv
      | ref n => exact ⟨hdO hv.1, by rw [hRO hv.1]; exact hv.2⟩
    have hnew : ∀ {j : Nat}, j < kk → s.heap.size ≤ R'.1 (L0.length + j) := by
      intro j hj
      refine hT.2.2.1 _ (hdNn hj) ?_
      rintro ⟨e9, he9⟩
      have := (List.getElem?_eq_some_iff.mp (z_gL he9)).1
      omega
    have hA : ∀ q, z_A ((fun i => R0.1 (th.getD i 0)), R0.2) (L0, z_no) s.heap.size q → z_A R0 w s.heap.size q := by
      rintro q (⟨i, hi, rfl⟩ | hq9)
      · obtain ⟨n, h1, h2⟩ := hdi i hi
        refine Or.inl ⟨n, h2, ?_⟩
        show R0.1 n = R0.1 (th.getD i 0)
        rw [hget h1]
      · exact Or.inr hq9
    have hold : ∀ n, z_d w n → n ∉ th → t.heap[R0.1 n]? = s.heap[R0.1 n]? := by
      intro n ⟨e9, he9⟩ hn
      refine hF.2 _ (hP.1 n e9 he9).1.lt ?_
      rintro (⟨i, hi, h9⟩ | h9)
      · obtain ⟨k, h1, h2⟩ := hdi i hi
        have h9 : R0.1 (th.getD i 0) = R0.1 n := h9
        rw [hget h1] at h9
        have := hP.2.1 k n h2 ⟨e9, he9⟩ h9
        subst this
        exact hn (List.mem_of_getElem? h1)
      · have := (hP.1 n e9 he9).1.lt
        omega
    have hltO : ∀ {n : Nat}, z_d w n → R0.1 n < s.heap.size := fun {n} ⟨e9, he9⟩ => (hP.1 n e9 he9).1.lt
    have hcell : ∀ {i : Nat} {e8 : z_E} {a : Nat}, z_X G R' (L', z_no) e8 a t.heap → z_X G RR (z_wN w th L' L0.length) (z_re th' e8) a t.heap := by
      intro i e8 a h3
      cases e8 with
      | inl x =>
        obtain ⟨z, z1, z2⟩ := h3
        exact ⟨z, z1, fun j hj => hsb _ _ (z2 j hj)⟩
      | inr o =>
        obtain ⟨q, gs, x1, x2, x3, x4⟩ := h3
        exact ⟨q, gs, x1, by rw [← x2]; exact List.length_map _, x3, z_Lpm hsb x4⟩
    refine Or.inl ⟨⟨v.map (z_rn th'), cv, RR, z_wN w th L' L0.length, ho, ?_, ⟨v, L', hq, by rw [hK0, hTH], rfl⟩, ⟨fun n e9 hn => ?_, fun a b ha hb hab => ?_, fun q b hq9 => ?_⟩, ⟨fun n hn => ⟨hdO hn, hRO hn⟩, fun q b hq9 => by rw [hR2]; exact hT.2.1 q b hq9, fun n hn hno => ?_, fun q b hq9 => by rw [hR2] at hq9; exact hT.2.2.2 q b hq9⟩, hF.1, fun q h1 h2 => hF.2 q h1 (fun z => h2 (hA q z))⟩, hfe⟩
    · cases v with
      | none =>
        cases cv with
        | none => exact trivial
        | some cv => exact hO.elim
      | some v =>
        cases cv with
        | none => exact hO.elim
        | some cv => exact hsb _ _ hO
    · rcases hdN ⟨e9, hn⟩ with hn1 | ⟨j, hj, rfl⟩
      · rw [hRO hn1]
        rw [hgO (hold9 hn1)] at hn
        by_cases hn9 : n ∈ th
        · obtain ⟨i, hi⟩ := List.getElem?_of_mem hn9
          have hil0 : i < L0.length := by rw [← hlen]; exact (List.getElem?_eq_some_iff.mp hi).1
          have hil : i < L'.length := by omega
          have h1 : z_g (z_ss w th ((L'.take L0.length).map (z_re th'))) n = some (z_re th' L'[i]) := z_ss_at hnd hdth hi (by rw [List.getElem?_map, List.getElem?_take, if_pos hil0, List.getElem?_eq_getElem hil]; rfl)
          rw [hW2, hn] at h1
          have h1 := Option.some.inj h1
          obtain ⟨h3, h4⟩ := hP'.1 i L'[i] (z_Lg' hl' (List.getElem?_eq_getElem hil))
          rw [hR hi] at h3 h4
          refine ⟨?_, h4⟩
          rw [h1]
          exact hcell (i := i) h3
        · rw [← hW2, z_ss_ne hn9] at hn
          exact ⟨(hP.1 n e9 hn).1.kept hbb (hold n hn1 hn9), (hP.1 n e9 hn).2⟩
      · rw [hRN hj]
        rw [hgN hj, List.getElem?_eq_getElem (by omega)] at hn
        have h1 := Option.some.inj hn
        obtain ⟨h3, h4⟩ := hP'.1 (L0.length + j) _ (z_Lg' hl' (List.getElem?_eq_getElem (by omega)))
        refine ⟨?_, h4⟩
        rw [← h1]
        exact hcell (i := 0) h3
    · rcases hdN ha with h1 | ⟨i, hi, rfl⟩ <;> rcases hdN hb with h2 | ⟨j, hj, rfl⟩
      · rw [hRO h1, hRO h2] at hab
        exact hP.2.1 a b h1 h2 hab
      · rw [hRO h1, hRN hj] at hab
        have := hltO h1
        have := hnew hj
        omega
      · rw [hRN hi, hRO h2] at hab
        have := hltO h2
        have := hnew hi
        omega
      · rw [hRN hi, hRN hj] at hab
        have := hP'.2.1 _ _ (hdNn hi) (hdNn hj) hab
        omega
    · rw [hR2] at hq9
      refine ⟨(hP'.2.2 q b hq9).1, fun n hn => ?_⟩
      rcases hdN hn with hn2 | ⟨j, hj, rfl⟩
      · rw [hRO hn2]
        by_cases hn9 : n ∈ th
        · obtain ⟨i, hi⟩ := List.getElem?_of_mem hn9
          have h1 := (hP'.2.2 q b hq9).2 i (hT.1 i (hid hi)).1
          rw [hR hi] at h1
          exact h1
        · cases h8 : R0.2 q with
          | none =>
            have h7 := hT.2.2.2 q b hq9 h8
            have := hltO hn2
            omega
          | some b8 => exact (hP.2.2 q b8 h8).2 n hn2
      · rw [hRN hj]
        exact (hP'.2.2 q b hq9).2 _ (hdNn hj)
    · rcases hdN hn with hn2 | ⟨j, hj, rfl⟩
      · exact absurd hn2 hno
      · rw [hRN hj]
        exact hnew hj
  · exact hx.elim
abbrev z_SN (rk mc ms nm : Nat) (L0 : List z_E) (Q : Option Value → List z_E → Prop) : z_S := (rk, mc, ms, (L0, z_no), (fun v w => w.2 = z_no ∧ w.1.length ≤ L0.length + nm ∧ Q v w.1), fun _ _ => False)
end ZFN
end ZM2
section ZM3
section ZM2
variable {G : z_G} {l : Launch} {y : z_M} {S : z_S} {pc : Nat} {lo : List (Nat × Value)} {st : List Value} {w w' : z_W} {kc ks : Nat}
theorem j_idiv {a b : Int32} (hd : decode y.2.1 pc = .ok (.idiv, 1)) (hne : ¬ b = 0) (h : z_J G l y S (pc + 1) lo (.int (a / b) :: st) w kc ks) : z_J G l y S pc lo (.int b :: .int a :: st) w kc ks := by
  intro p e s m args below meth c R0 hok R H locs ls cst hat hlo hst
  obtain ⟨c1, cs1, rfl, h1, hst1⟩ := z_Lc hst
  obtain ⟨c2, cs2, rfl, h2, hst2⟩ := z_Lc hst1
  have h1 : c1 = .int b := h1
  have h2 : c2 = .int a := h2
  subst h1 h2
  exact lv_idiv hok.1 hok.2.1 hd hne (h p e s m args below meth c R0 hok R H locs ls _ hat hlo ⟨rfl, hst2⟩)
theorem j_irem {a b : Int32} (hd : decode y.2.1 pc = .ok (.irem, 1)) (hne : ¬ b = 0) (h : z_J G l y S (pc + 1) lo (.int (a - a / b * b) :: st) w kc ks) : z_J G l y S pc lo (.int b :: .int a :: st) w kc ks := by
  intro p e s m args below meth c R0 hok R H locs ls cst hat hlo hst
  obtain ⟨c1, cs1, rfl, h1, hst1⟩ := z_Lc hst
  obtain ⟨c2, cs2, rfl, h2, hst2⟩ := z_Lc hst1
  have h1 : c1 = .int b := h1
  have h2 : c2 = .int a := h2
  subst h1 h2
  exact lv_irem hok.1 hok.2.1 hd hne (h p e s m args below meth c R0 hok R H locs ls _ hat hlo ⟨rfl, hst2⟩)
theorem j_ldc {idx : Nat} {v : Int32} (hd : decode y.2.1 pc = .ok (.ldc idx, 2)) (hc : Cond.constant y.1.cls idx v ∈ z_tbl) (h : z_J G l y S (pc + 2) lo (.int v :: st) w kc ks) : z_J G l y S pc lo st w kc ks := by
  intro p e s m args below meth c R0 hok R H locs ls cst hat hlo hst
  exact lv_ldc hok.1 hok.2.1 hok.2.2.2.2.2.1 (hok.2.2.2.2.2.2.1 _ hc) hd (h p e s m args below meth c R0 hok R H locs ls _ hat hlo ⟨rfl, hst⟩)
theorem j_ldc2 {idx : Nat} {v : Int64} (hd : decode y.2.1 pc = .ok (.ldc2_w idx, 3)) (hc : Cond.constantLong y.1.cls idx v ∈ z_tbl) (h : z_J G l y S (pc + 3) lo (.long v :: st) w kc ks) : z_J G l y S pc lo st w kc ks := by
  intro p e s m args below meth c R0 hok R H locs ls cst hat hlo hst
  exact lv_ldc2 hok.1 hok.2.1 hok.2.2.2.2.2.1 (hok.2.2.2.2.2.2.1 _ hc) hd (h p e s m args below meth c R0 hok R H locs ls _ hat hlo ⟨rfl, hst⟩)
theorem j_acmp_ne {a b : Nat} {off : Int} {tgt : Nat} (hd : decode y.2.1 pc = .ok (.if_acmp .ne off, 3)) (ht : (pc : Int) + off = (tgt : Int)) (kt : ¬ a = b → z_J G l y S tgt lo st w kc ks) (kf : a = b → z_J G l y S (pc + 3) lo st w kc ks) : z_J G l y S pc lo (.ref b :: .ref a :: st) w kc ks := by
  intro p e s m args below meth c R0 hok R H locs ls cst hat hlo hst
  obtain ⟨c1, cs1, rfl, ⟨d1, h1⟩, hst1⟩ := z_Lc hst
  obtain ⟨c2, cs2, rfl, ⟨d2, h2⟩, hst2⟩ := z_Lc hst1
  subst h1 h2
  refine lv_acmp_ne (rx := some (R.1 a)) (ry := some (R.1 b)) hok.1 hok.2.1 hd ht (fun hne => ?_) (fun he => ?_)
  · exact kt (fun z => hne (by rw [z])) p e s m args below meth c R0 hok R H locs ls _ hat hlo hst2
  · exact kf (hat.1.2.1 a b d2 d1 (Option.some.inj he)) p e s m args below meth c R0 hok R H locs ls _ hat hlo hst2
theorem z_thrOf {own cls : String} {ik ic : Nat} {names : List String} (h1 : Bundle.fit cls = true) (h2 : names.all Bundle.fit = true) (h3 : Cond.classLink own ik cls ∈ z_tbl) (h4 : Cond.initialized cls ∈ z_tbl) (h5 : (vx_atS own ic cls names).all (fun w => decide (w ∈ lw_tbl) && (goodWord w || (z_isN w && w.onTables)) && vx_ot w) = true) : z_thr own ik ic cls names := by
  have h6 := List.all_eq_true.mp h5
  refine ⟨h1, List.all_eq_true.mp h2, h3, h4, fun w hw => ?_, fun w hw => ?_⟩
  · have h7 := h6 w hw
    simp only [Bool.and_eq_true, Bool.or_eq_true, decide_eq_true_eq] at h7
    rcases h7.1.2 with z | z
    · exact Or.inl (List.mem_filter.mpr ⟨h7.1.1, z⟩)
    · exact Or.inr ⟨List.mem_filter.mpr ⟨h7.1.1, z.1⟩, z.2⟩
  · have h7 := h6 w hw
    simp only [Bool.and_eq_true] at h7
    exact h7.2
end ZM2
end ZM3
section ZM4
section ZT
def ztq_s : List (Nat × Nat) → List Cond
  | [] => []
  | (a, b) :: t => (lw_tbl.drop a).take b ++ ztq_s t
theorem ztq_i {w : Cond} : ∀ {l : List (Nat × Nat)}, w ∈ ztq_s l → w ∈ lw_tbl
  | [], h => nomatch h
  | (_, _) :: _, h => (List.mem_append.mp h).elim (fun g => List.mem_of_mem_drop (List.mem_of_mem_take g)) ztq_i
abbrev ztq_sl : List Cond := ztq_s [(458, 67), (847, 50), (87, 16), (1986, 10), (61, 6), (1436, 3), (8, 1), (132, 1), (162, 1), (247, 1), (572, 1), (736, 1), (760, 1), (804, 1), (836, 1), (1340, 1), (1352, 1), (1378, 1), (1534, 1), (1676, 1), (1688, 1), (1750, 1), (1965, 1)]
theorem ztq_of {own cls : String} {ic : Nat} {names : List String} (h5 : (vx_atS own ic cls names).all (fun w => decide (w ∈ ztq_sl) && (goodWord w || (z_isN w && w.onTables)) && vx_ot w) = true) : (vx_atS own ic cls names).all (fun w => decide (w ∈ lw_tbl) && (goodWord w || (z_isN w && w.onTables)) && vx_ot w) = true := by
  rw [List.all_eq_true] at h5 ⊢
  intro w hw
  have h := h5 w hw
  simp only [Bool.and_eq_true, decide_eq_true_eq] at h ⊢
  exact ⟨⟨ztq_i h.1.1, h.1.2⟩, h.2⟩
set_option maxRecDepth 100000 in
set_option maxHeartbeats 4000000 in
theorem th_A : z_thr RX8 302 306 "java/lang/IllegalArgumentException" ["java/lang/RuntimeException", "java/lang/Exception"] := z_thrOf (by decide +kernel) (by decide +kernel) (z_w 458 ((lwg_2 173).trans rfl) (by decide +kernel)) (z_w 65 ((lwg_1 20).trans rfl) (by decide +kernel)) (ztq_of (by decide +kernel))
set_option maxRecDepth 100000 in
set_option maxHeartbeats 4000000 in
theorem th_I : z_thr RX8 198 202 "java/lang/IndexOutOfBoundsException" ["java/lang/RuntimeException", "java/lang/Exception"] := z_thrOf (by decide +kernel) (by decide +kernel) (z_w 858 ((lwg_4 93).trans rfl) (by decide +kernel)) (z_w 64 ((lwg_1 19).trans rfl) (by decide +kernel)) (ztq_of (by decide +kernel))
set_option maxRecDepth 100000 in
set_option maxHeartbeats 4000000 in
theorem th_S : z_thr RX8 58 62 "java/lang/IllegalStateException" ["java/lang/RuntimeException", "java/lang/Exception"] := z_thrOf (by decide +kernel) (by decide +kernel) (z_w 881 ((lwg_4 116).trans rfl) (by decide +kernel)) (z_w 66 ((lwg_1 21).trans rfl) (by decide +kernel)) (ztq_of (by decide +kernel))
theorem kcX8_272 : Cond.constantLong RX8 272 7774 ∈ z_tbl := (z_w 450 ((lwg_2 165).trans rfl) (by decide +kernel))
theorem kcX8_350 : Cond.constantLong RX8 350 31 ∈ z_tbl := (z_w 541 ((lwg_3 16).trans rfl) (by decide +kernel))
theorem kcJ8_200 : Cond.constant RJ8 200 2147483639 ∈ z_tbl := (z_w 616 ((lwg_3 91).trans rfl) (by decide +kernel))
theorem kcJ5_39 : Cond.constant RJ5 39 2147483647 ∈ z_tbl := (z_w 620 ((lwg_3 95).trans rfl) (by decide +kernel))
theorem kcX8_179 : Cond.constant RX8 179 99999 ∈ z_tbl := (z_w 1195 ((lwg_5 190).trans rfl) (by decide +kernel))
theorem kcX11_67 : Cond.constant RX11 67 100000 ∈ z_tbl := (z_w 1595 ((lwg_7 110).trans rfl) (by decide +kernel))
theorem kcX11_189 : Cond.constant RX11 189 99999 ∈ z_tbl := (z_w 1825 ((lwg_8 100).trans rfl) (by decide +kernel))
theorem kcX11_245 : Cond.constantLong RX11 245 7774 ∈ z_tbl := (z_w 1959 ((lwg_8 234).trans rfl) (by decide +kernel))
theorem kcX11_243 : Cond.constantLong RX11 243 31 ∈ z_tbl := (z_w 1963 ((lwg_8 238).trans rfl) (by decide +kernel))
end ZT
end ZM4
section ZM5
section ZFX
def z_CX (G : z_G) (l : Launch) (y : z_M) (rk mc ms : Nat) (L0 : List z_E) (av : List Value) (Q : Option Value → List z_E → Prop) (X : String → List z_E → Prop) : Prop :=
  z_Con G l y rk mc ms (L0, z_no) av (fun v w => w.2 = z_no ∧ w.1.length = L0.length ∧ Q v w.1) (fun E w => w.2 = z_no ∧ w.1.length = L0.length ∧ X E w.1)
set_option maxHeartbeats 4000000 in
theorem z_frameX {G : z_G} {l : Launch} {y : z_M} {rk mc ms : Nat} {L0 : List z_E} {av : List Value} {Q : Option Value → List z_E → Prop} {X : String → List z_E → Prop} {w : z_W} (th : List Nat) (hth : th.map (z_g w) = L0.map (fun e => some (z_re th e))) (hnd : th.Nodup) (hl : L0.length ≤ 1000) (h : z_CX G l y rk mc ms L0 av Q X) :
    z_Con G l y rk mc ms w (av.map (z_rn th)) (fun v w' => ∃ (v0 : Option Value) (L' : List z_E), Q v0 L' ∧ v = v0.map (z_rn th) ∧ w' = z_ss w th (L'.map (z_re th))) (fun E w' => ∃ L' : List z_E, X E L' ∧ w' = z_ss w th (L'.map (z_re th))) := by
  intro R0
  have hM := h ((fun i => R0.1 (th.getD i 0)), R0.2)
  intro p e ha hc hk s m args below hf happ hPc hK
  obtain ⟨⟨cav, rfl, hav⟩, henv, hP, hb⟩ := hPc
  have hlen : th.length = L0.length := by have := congrArg List.length hth; simpa using this
  have hat : ∀ (i : Nat) (e : z_E), L0[i]? = some e → ∃ n, th[i]? = some n ∧ z_g w n = some (z_re th e) := by
    intro i e he
    have h1 : (th.map (z_g w))[i]? = (L0.map (fun e => some (z_re th e)))[i]? := by rw [hth]
    rw [List.getElem?_map, List.getElem?_map, he] at h1
    cases hi : th[i]? with
    | none => rw [hi] at h1; cases h1
    | some n => rw [hi] at h1; exact ⟨n, rfl, Option.some.inj h1⟩
  have hget : ∀ {i n : Nat}, th[i]? = some n → th.getD i 0 = n := by
    intro i n hi
    rw [List.getD_eq_getElem?_getD, hi]
    rfl
  have hdi : ∀ i, z_d (L0, z_no) i → ∃ n, th[i]? = some n ∧ z_d w n := by
    intro i ⟨e, he⟩
    obtain ⟨n, h1, h2⟩ := hat i e (z_gL he)
    exact ⟨n, h1, ⟨_, h2⟩⟩
  have hid : ∀ {i n : Nat}, th[i]? = some n → z_d (L0, z_no) i := by
    intro i n hi
    have h1 : i < L0.length := by rw [← hlen]; exact (List.getElem?_eq_some_iff.mp hi).1
    exact ⟨L0[i], z_Lg' hl (List.getElem?_eq_getElem h1)⟩
  have hbs : ∀ v c, z_V G R0 w (z_rn th v) c → z_V G ((fun i => R0.1 (th.getD i 0)), R0.2) (L0, z_no) v c := by
    intro v c hv
    cases v with
    | int x => exact hv
    | long x => exact hv
    | null => exact hv
    | float b => exact hv
    | retAddr k => exact hv
    | double b => exact hv
    | ref i =>
      cases hi : th[i]? with
      | none => simp only [z_rn, hi] at hv; exact hv.elim
      | some n =>
        simp only [z_rn, hi] at hv
        refine ⟨hid hi, ?_⟩
        show c = .ref (R0.1 (th.getD i 0))
        rw [hget hi]
        exact hv.2
  have hP0 : z_P G ((fun i => R0.1 (th.getD i 0)), R0.2) (L0, z_no) s.heap := by
    refine ⟨fun n e he => ?_, fun a b ha hb hab => ?_, fun q b hq => ⟨(hP.2.2 q b hq).1, fun n hn => ?_⟩⟩
    · obtain ⟨k, h1, h2⟩ := hat n e (z_gL he)
      obtain ⟨h3, h4⟩ := hP.1 k _ h2
      show z_X _ _ _ _ (R0.1 (th.getD n 0)) _ ∧ _ ≤ R0.1 (th.getD n 0)
      rw [hget h1]
      refine ⟨?_, h4⟩
      cases e with
      | inl x =>
        obtain ⟨z, z1, z2⟩ := h3
        exact ⟨z, z1, fun j hj => hbs _ _ (z2 j hj)⟩
      | inr o =>
        obtain ⟨q, gs, x1, x2, x3, x4⟩ := h3
        exact ⟨q, gs, x1, by rw [← x2]; exact (List.length_map _).symm, x3, z_Lmp hbs x4⟩
    · obtain ⟨k1, a1, a2⟩ := hdi a ha
      obtain ⟨k2, b1, b2⟩ := hdi b hb
      have hab : R0.1 (th.getD a 0) = R0.1 (th.getD b 0) := hab
      rw [hget a1, hget b1] at hab
      have := hP.2.1 k1 k2 a2 b2 hab
      subst this
      exact z_ndi hnd a1 b1
    · obtain ⟨k1, a1, a2⟩ := hdi n hn
      show R0.1 (th.getD n 0) ≠ q
      rw [hget a1]
      exact (hP.2.2 q b hq).2 k1 a2
  obtain ⟨nn, o, s1, s2, s3, hQ⟩ := hM p e ha hc hk s m cav.toArray below hf happ ⟨⟨cav, rfl, z_Lmp hbs hav⟩, henv, hP0, hb⟩ hK
  refine ⟨nn, o, s1, s2, s3, ?_⟩
  generalize stepsAlone p.tables e nn s = t at hQ
  have key : ∀ (R' : z_R) (L' : List z_E) (P' : Nat → Option z_E), P' = z_no → L'.length = L0.length → z_P G R' (L', P') t.heap → z_T ((fun i => R0.1 (th.getD i 0)), R0.2) (L0, z_no) s.heap.size R' (L', P') → va_F (z_A ((fun i => R0.1 (th.getD i 0)), R0.2) (L0, z_no) s.heap.size) s t →
      (∀ v c, z_V G R' (L', P') v c → z_V G (R0.1, R'.2) (z_ss w th (L'.map (z_re th))) (z_rn th v) c) ∧ z_P G (R0.1, R'.2) (z_ss w th (L'.map (z_re th))) t.heap ∧ z_T R0 w s.heap.size (R0.1, R'.2) (z_ss w th (L'.map (z_re th))) ∧ va_F (z_A R0 w s.heap.size) s t := by
    intro R' L' P' hw2 hwl hP' hT hF
    subst hw2
    have hl' : L'.length ≤ 1000 := by rw [hwl]; exact hl
    have hR : ∀ {i n : Nat}, th[i]? = some n → R'.1 i = R0.1 n := by
      intro i n hi
      rw [(hT.1 i (hid hi)).2]
      show R0.1 (th.getD i 0) = _
      rw [hget hi]
    have hdth : ∀ k ∈ th, z_d w k := by
      intro k hk9
      obtain ⟨i, hi⟩ := List.getElem?_of_mem hk9
      obtain ⟨e9, he9⟩ := hid hi
      obtain ⟨n9, h9, h8⟩ := hat i e9 (z_gL he9)
      rw [hi] at h9
      cases h9
      exact ⟨_, h8⟩
    have hdw : ∀ n, z_d (z_ss w th (L'.map (z_re th))) n ↔ z_d w n := z_ss_d hdth
    have hdL : ∀ i, z_d (L', z_no) i → ∃ n, th[i]? = some n := by
      intro i ⟨e9, he9⟩
      have h1 := (List.getElem?_eq_some_iff.mp (z_gL he9)).1
      exact ⟨_, List.getElem?_eq_getElem (by rw [hlen, ← hwl]; exact h1)⟩
    have hsb : ∀ v c, z_V G R' (L', z_no) v c → z_V G (R0.1, R'.2) (z_ss w th (L'.map (z_re th))) (z_rn th v) c := by
      intro v c hv
      cases v with
      | int x => exact hv
      | long x => exact hv
      | null => exact hv
      | float b => exact hv
      | retAddr k => exact hv
      | double b => exact hv
      | ref i =>
        obtain ⟨h1, h2⟩ := hv
        obtain ⟨n, hi⟩ := hdL i h1
        simp only [z_rn, hi]
        exact ⟨(hdw n).mpr (hdth n (List.mem_of_getElem? hi)), by rw [h2, hR hi]⟩
    have hbb : ∀ v c, z_V G R0 w v c → z_V G (R0.1, R'.2) (z_ss w th (L'.map (z_re th))) v c := by
      intro v c hv
      cases v with
      | int x => exact hv
      | long x => exact hv
      | null => exact hv
      | float b => obtain ⟨q, h1, h2⟩ := hv; exact ⟨q, h1, h2.imp (hT.2.1 q b) id⟩
      | retAddr k => exact hv
      | double b => exact hv
      | ref n => exact ⟨(hdw n).mpr hv.1, hv.2⟩
    have hA : ∀ q, z_A ((fun i => R0.1 (th.getD i 0)), R0.2) (L0, z_no) s.heap.size q → z_A R0 w s.heap.size q := by
      rintro q (⟨i, hi, rfl⟩ | hq9)
      · obtain ⟨n, h1, h2⟩ := hdi i hi
        refine Or.inl ⟨n, h2, ?_⟩
        show R0.1 n = R0.1 (th.getD i 0)
        rw [hget h1]
      · exact Or.inr hq9
    have hold : ∀ n, z_d w n → n ∉ th → t.heap[R0.1 n]? = s.heap[R0.1 n]? := by
      intro n ⟨e9, he9⟩ hn
      refine hF.2 _ (hP.1 n e9 he9).1.lt ?_
      rintro (⟨i, hi, h9⟩ | h9)
      · obtain ⟨k, h1, h2⟩ := hdi i hi
        have h9 : R0.1 (th.getD i 0) = R0.1 n := h9
        rw [hget h1] at h9
        have := hP.2.1 k n h2 ⟨e9, he9⟩ h9
        subst this
        exact hn (List.mem_of_getElem? h1)
      · have := (hP.1 n e9 he9).1.lt
        omega
    refine ⟨hsb, ⟨fun n e9 hn => ?_, fun a b ha hb hab => hP.2.1 a b ((hdw a).mp ha) ((hdw b).mp hb) hab, fun q b hq9 => ⟨(hP'.2.2 q b hq9).1, fun n hn => ?_⟩⟩, ⟨fun n hn => ⟨(hdw n).mpr hn, rfl⟩, hT.2.1, fun n hn hno => absurd ((hdw n).mp hn) hno, hT.2.2.2⟩, hF.1, fun q h1 h2 => hF.2 q h1 (fun z => h2 (hA q z))⟩
    · by_cases hn9 : n ∈ th
      · obtain ⟨i, hi⟩ := List.getElem?_of_mem hn9
        have hil : i < L'.length := by rw [hwl, ← hlen]; exact (List.getElem?_eq_some_iff.mp hi).1
        have h1 : z_g (z_ss w th (L'.map (z_re th))) n = some (z_re th L'[i]) := z_ss_at hnd hdth hi (by rw [List.getElem?_map, List.getElem?_eq_getElem hil]; rfl)
        rw [hn] at h1
        have h1 := Option.some.inj h1
        obtain ⟨h3, h4⟩ := hP'.1 i L'[i] (z_Lg' hl' (List.getElem?_eq_getElem hil))
        rw [hR hi] at h3 h4
        refine ⟨?_, h4⟩
        rw [h1]
        generalize L'[i] = e8 at h3
        cases e8 with
        | inl x =>
          obtain ⟨z, z1, z2⟩ := h3
          exact ⟨z, z1, fun j hj => hsb _ _ (z2 j hj)⟩
        | inr o =>
          obtain ⟨q, gs, x1, x2, x3, x4⟩ := h3
          exact ⟨q, gs, x1, by rw [← x2]; exact List.length_map _, x3, z_Lpm hsb x4⟩
      · rw [z_ss_ne hn9] at hn
        exact ⟨(hP.1 n e9 hn).1.kept hbb (hold n ⟨_, hn⟩ hn9), (hP.1 n e9 hn).2⟩
    · have hn2 := (hdw n).mp hn
      by_cases hn9 : n ∈ th
      · obtain ⟨i, hi⟩ := List.getElem?_of_mem hn9
        have h1 := (hP'.2.2 q b hq9).2 i (hT.1 i (hid hi)).1
        rw [hR hi] at h1
        exact h1
      · cases h8 : R0.2 q with
        | none =>
          have h7 := hT.2.2.2 q b hq9 h8
          obtain ⟨e8, he8⟩ := hn2
          have := (hP.1 n e8 he8).1.lt
          show R0.1 n ≠ q
          omega
        | some b8 => exact (hP.2.2 q b8 h8).2 n hn2
  rcases hQ with ⟨⟨v, cv, R', w', ho, hO, ⟨hw2, hwl, hq⟩, hP', hT, hF⟩, hfe⟩ | ⟨q, ho, E, ce, L, ⟨R', w', ⟨hw2, hwl, hx⟩, hP', hT, hF⟩, r2⟩
  · obtain ⟨L', P'⟩ := w'
    obtain ⟨hsb, k2, k3, k4⟩ := key R' L' P' hw2 hwl hP' hT hF
    refine Or.inl ⟨⟨v.map (z_rn th), cv, (R0.1, R'.2), z_ss w th (L'.map (z_re th)), ho, ?_, ⟨v, L', hq, rfl, rfl⟩, k2, k3, k4⟩, hfe⟩
    cases v with
    | none =>
      cases cv with
      | none => exact trivial
      | some cv => exact hO.elim
    | some v =>
      cases cv with
      | none => exact hO.elim
      | some cv => exact hsb _ _ hO
  · obtain ⟨L', P'⟩ := w'
    obtain ⟨hsb, k2, k3, k4⟩ := key R' L' P' hw2 hwl hP' hT hF
    exact Or.inr ⟨q, ho, E, ce, L, ⟨(R0.1, R'.2), z_ss w th (L'.map (z_re th)), ⟨L', hx, rfl⟩, k2, k3, k4⟩, r2⟩
theorem z_CFX {G : z_G} {l : Launch} {y : z_M} {rk mc ms : Nat} {L0 : List z_E} {av : List Value} {Q : Option Value → List z_E → Prop} {X : String → List z_E → Prop} (h : z_CF G l y rk mc ms L0 av Q) : z_CX G l y rk mc ms L0 av Q X := z_weak h (fun _ _ h => h) (fun _ _ h => h.elim)
abbrev z_SX (rk mc ms : Nat) (L0 : List z_E) (Q : Option Value → List z_E → Prop) (X : String → List z_E → Prop) : z_S := (rk, mc, ms, (L0, z_no), (fun v w => w.2 = z_no ∧ w.1.length = L0.length ∧ Q v w.1), fun E w => w.2 = z_no ∧ w.1.length = L0.length ∧ X E w.1)
def z_cV (n : Nat) (v : Value) : Prop := match v with
  | .ref a => a < n
  | _ => True
def z_cE (n : Nat) (e : z_E) : Prop := match e with
  | .inl x => ∀ j, j < x.2.1 → z_cV n (x.2.2 j)
  | .inr o => ∀ v ∈ o.2, z_cV n v
theorem z_cia {n k : Nat} {f : Nat → Int32} : z_cE n (z_ia k f) := fun _ _ => trivial
theorem z_cE0 {n k : Nat} : z_cE n (.inr (k, [])) := fun _ h => by cases h
theorem z_cEc {n k : Nat} {v : Value} {t : List Value} (h : z_cV n v) (ht : z_cE n (.inr (k, t))) : z_cE n (.inr (k, v :: t)) := fun x hx => by
  rcases List.mem_cons.mp hx with rfl | hx
  · exact h
  · exact ht x hx
def z_cL (n : Nat) : List z_E → Prop
  | [] => True
  | e :: t => z_cE n e ∧ z_cL n t
theorem z_cLm {n : Nat} : ∀ {L : List z_E}, z_cL n L → ∀ e ∈ L, z_cE n e
  | [], _, _, h => by cases h
  | a :: t, h, e, he => by
    rcases List.mem_cons.mp he with rfl | he
    · exact h.1
    · exact z_cLm h.2 e he
end ZFX
end ZM5
section ZM6
section ZW9
theorem z_sw4 (x : Int32) : x = (0 : Int32) ∨ x = (1 : Int32) ∨ x = (2 : Int32) ∨ x = (3 : Int32) ∨ (x.toInt < 0 ∨ 3 < x.toInt) := by
  by_cases h0 : x.toInt = (0 : Nat)
  · exact Or.inl (z_swE h0 (by decide))
  by_cases h1 : x.toInt = (1 : Nat)
  · exact Or.inr (Or.inl (z_swE h1 (by decide)))
  by_cases h2 : x.toInt = (2 : Nat)
  · exact Or.inr (Or.inr (Or.inl (z_swE h2 (by decide))))
  by_cases h3 : x.toInt = (3 : Nat)
  · exact Or.inr (Or.inr (Or.inr (Or.inl (z_swE h3 (by decide)))))
  exact Or.inr (Or.inr (Or.inr (Or.inr (by omega))))
theorem z_sw5 (x : Int32) : x = (0 : Int32) ∨ x = (1 : Int32) ∨ x = (2 : Int32) ∨ x = (3 : Int32) ∨ x = (4 : Int32) ∨ (x.toInt < 0 ∨ 4 < x.toInt) := by
  by_cases h0 : x.toInt = (0 : Nat)
  · exact Or.inl (z_swE h0 (by decide))
  by_cases h1 : x.toInt = (1 : Nat)
  · exact Or.inr (Or.inl (z_swE h1 (by decide)))
  by_cases h2 : x.toInt = (2 : Nat)
  · exact Or.inr (Or.inr (Or.inl (z_swE h2 (by decide))))
  by_cases h3 : x.toInt = (3 : Nat)
  · exact Or.inr (Or.inr (Or.inr (Or.inl (z_swE h3 (by decide)))))
  by_cases h4 : x.toInt = (4 : Nat)
  · exact Or.inr (Or.inr (Or.inr (Or.inr (Or.inl (z_swE h4 (by decide))))))
  exact Or.inr (Or.inr (Or.inr (Or.inr (Or.inr (by omega)))))
def z_xA (E : String) : Prop := E = "java/lang/IllegalArgumentException"
def z_xI (E : String) : Prop := E = "java/lang/IndexOutOfBoundsException"
def z_xS (E : String) : Prop := E = "java/lang/IllegalStateException"
theorem z_lt1 {p m : Int32} (h : ¬ m ≤ p) : (p + Int32.ofInt 1).toInt = p.toInt + 1 := by
  have h1 : p.toInt < m.toInt := Int.not_le.mp (fun z => h ((Int32.le_iff_toInt_le).mpr z))
  have h2 := Int32.toInt_lt m
  have h3 := Int32.le_toInt p
  rw [Int32.toInt_add, show (Int32.ofInt 1).toInt = 1 from rfl]
  exact Int.bmod_eq_of_le (by omega) (by omega)
theorem z_ms {p m : Int32} {n : Nat} (h : ¬ m ≤ p) (hn : (m.toInt - p.toInt).toNat < n + 1) : (m.toInt - (p + Int32.ofInt 1).toInt).toNat < n := by
  have h1 : p.toInt < m.toInt := Int.not_le.mp (fun z => h ((Int32.le_iff_toInt_le).mpr z))
  rw [z_lt1 h]
  omega
theorem z_dirX {G : z_G} {l : Launch} {y : z_M} {rk mc ms : Nat} {L0 : List z_E} {av : List Value} {Q : Option Value → List z_E → Prop} {X : String → List z_E → Prop} (h : z_CX G l y rk mc ms L0 av Q X) : z_Con G l y rk mc ms (L0, z_no) av (fun v w => ∃ L' : List z_E, Q v L' ∧ w = (L', z_no)) (fun E w => ∃ L' : List z_E, X E L' ∧ w = (L', z_no)) :=
  z_weak h (fun _ w h => ⟨w.1, h.2.2, by rw [← h.1]⟩) (fun _ w h => ⟨w.1, h.2.2, by rw [← h.1]⟩)
theorem z_dirF {G : z_G} {l : Launch} {y : z_M} {rk mc ms : Nat} {L0 : List z_E} {av : List Value} {Q : Option Value → List z_E → Prop} (h : z_CF G l y rk mc ms L0 av Q) : z_Con G l y rk mc ms (L0, z_no) av (fun v w => ∃ L' : List z_E, Q v L' ∧ w = (L', z_no)) (fun _ _ => False) :=
  z_weak h (fun _ w h => ⟨w.1, h.2.2, by rw [← h.1]⟩) (fun _ _ h => h)
theorem arc_int : Cond.arrayClass .int ∈ z_tbl := (z_w 107 ((lwg_1 62).trans rfl) (by decide +kernel))
theorem arc_byte : Cond.arrayClass .byte ∈ z_tbl := (z_w 525 ((lwg_3 0).trans rfl) (by decide +kernel))
theorem arc_boolean : Cond.arrayClass .boolean ∈ z_tbl := (z_w 1401 ((lwg_6 156).trans rfl) (by decide +kernel))
theorem z_leZ {j : Nat} {z : Int32} (n : Nat) (hz : z = Int32.ofNat n) (h : ¬ z < nI j) (hj : j < 2147483648) (hn : n < 2147483648) : j ≤ n := by
  rw [hz] at h
  refine Nat.not_lt.mp (fun h2 => h ((Int32.lt_iff_toInt_lt).mpr ?_))
  rw [show Int32.ofNat n = nI n from rfl, nI_toInt (by omega), nI_toInt (by omega)]
  omega
end ZW9
end ZM6
