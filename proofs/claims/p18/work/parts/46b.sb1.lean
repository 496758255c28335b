section ZSb1
variable {G : z_G} {l : Launch} {y : z_M} {S : z_S} {pc : Nat} {lo : List (Nat × Value)} {st : List Value} {w w' : z_W} {kc ks : Nat}
theorem z_selP {C : String} {x y : MethodName} {s : State} {args : Array Value} (hx : (Cond.selects C x x).before args s = true) (hxy : x.cls = y.cls) (hpriv : (Cond.privateMethod y).before args s = true) (hy : y.cls ≠ "java/lang/invoke/MethodHandle" ∧ y.cls ≠ "java/lang/invoke/VarHandle") (hinst : (Cond.instanceMethod y).before args s = true) : (Cond.selects C y y).before args s = true := by
  obtain ⟨mk, methM, hnamed, hmethM, -, -⟩ := Cond.instanceMethod_spec hinst
  have hfound : s.methodFound? y.cls y.name y.desc = some mk := State.methodFound?_of_named hnamed hy
  simp only [Cond.before, Cond.holds, Cond.value] at hx
  cases h1 : s.vm.findClass C with
  | none => rw [h1] at hx; simp at hx
  | some c =>
    cases h2 : s.methodFound? x.cls x.name x.desc with
    | none => rw [h1, h2] at hx; simp at hx
    | some r =>
      cases h3 : s.methodNamed? x with
      | none => rw [h1, h2, h3] at hx; simp at hx
      | some m =>
        have hcl : m.cls = mk.cls := by
          have e1 := findClass_of_methodNamed h3
          have e2 := findClass_of_methodNamed hnamed
          rw [hxy] at e1
          exact Option.some.inj (e1.symm.trans e2)
        have hsel : selectMethod {} s.vm c mk = .method mk := selectMethod_private hmethM (Cond.privateMethod_at hpriv mk methM hnamed hmethM)
        simp only [h1, h2, h3, hcl] at hx
        simp only [Cond.before, Cond.holds, Cond.value, h1, hfound, hnamed, hsel]
        cases h4 : selectMethod {} s.vm c r with
        | method m' => rw [h4] at hx; simp at hx; simpa using hx.2
        | _ => rw [h4] at hx; simp at hx
theorem j_callP {idx np rk' mc' ms' : Nat} {y' : z_M} {as rest : List Value} {Q' : Option Value → z_W → Prop} {X' : String → z_W → Prop} {x : MethodName} {a ci : Nat} {fs : List Value} {q : vw_C} (hd : decode y.2.1 pc = .ok (.invokevirtual idx, 3)) (hm : z_okm y' np) (hl : Cond.methodLink y.1.cls idx y'.1 ∈ z_tbl) (hi : Cond.instanceMethod y'.1 ∈ z_tbl) (hse : Cond.selects q.1 x x ∈ z_tbl ∧ x.cls = y'.1.cls ∧ Cond.privateMethod y'.1 ∈ z_nst) (hg : z_g w a = some (.inr (ci, fs))) (hq : z_cls[ci]? = some q) (hc : z_Con G l y' rk' mc' ms' w (.ref a :: as) Q' X') (hrk : rk' + 1 ≤ S.1) (hcs : kc + mc' ≤ S.2.1 ∧ ks + ms' ≤ S.2.2.1) (hstk : st = as.reverse ++ .ref a :: rest) (hW : z_cat rest ≤ 8) (hn : as.length = np) (ht : y.2.2.2.2 = []) (hx : ∀ E w', X' E w' → S.2.2.2.2.2 E w') (kk : ∀ v w', Q' v w' → z_J G l y S (pc + 3) lo (v.toList ++ rest) w' (kc + mc') (ks + ms')) : z_J G l y S pc lo st w kc ks := by
  intro p e s m args below meth c R0 hok R H locs ls cst hat hlo hst
  subst hstk
  obtain ⟨b1, c2, rfl, hb1, hst⟩ := z_Lapp hst
  obtain ⟨c1, crest, rfl, h1, hrest⟩ := z_Lc hst
  have h1' := h1.2
  subst h1'
  have hAs := z_Lrev hb1
  rw [List.reverse_reverse] at hAs
  have hts := hok.2.2.2.2.2.2.1
  have hy := hm.2.2.2.1
  exact z_run hok hat hlo hrest ht (vx_runV (C := q.1) (As := b1.reverse) ⟨hok.1, hok.2.1, rfl, hok.2.2.2.2.2.1, hok.2.2.2.2.2.2.1⟩ (hc R) ⟨z_CB hts hm hrk hl, hts _ hi, z_selP (hts _ hse.1) hse.2.1 (va_Nw.use rfl (hok.2.2.2.2.2.2.2.1.2.2.1 _ hse.2.2)) hy (hts _ hi)⟩ ⟨z_Pc_blind, z_recv hok hat hg hq, fun U hU hW9 => z_pre hok hat (av := .ref a :: as) (cav := .ref (R.1 a) :: b1.reverse) ⟨h1, hAs⟩ U hU hW9⟩ rfl (by rw [z_Ll hAs]; exact hn) hlo.choose_spec.1.1 (by rw [List.reverse_reverse]) (lv_room (by rw [z_Lcs hrest]; exact hW)) hd hcs) hcs hx kk
theorem j_callUd {y0 : z_M} {idx np rk' mc' ms' : Nat} {y' : z_M} {as rest : List Value} {Q' : Option Value → z_W → Prop} {X' : String → z_W → Prop} {x : MethodName} {a ci : Nat} {fs : List Value} {q : vw_C} (hd : decode y.2.1 pc = .ok (.invokevirtual idx, 3)) (hm : z_okm y' np) (hl : Cond.methodLink y.1.cls idx x ∈ z_tbl) (hsm : Cond.sameMethod x.cls x.cls x.name x.desc ∈ z_tbl) (h0 : y0.1 = x ∧ y0.2.2.2.2 = [] ∧ z_code y0 ∈ z_tbl ∧ Cond.instanceMethod y0.1 ∈ z_tbl) (hse : Cond.selects q.1 x y'.1 ∈ z_tbl) (hi : Cond.instanceMethod y'.1 ∈ z_tbl) (ho : x.cls ≠ "java/lang/invoke/MethodHandle" ∧ x.cls ≠ "java/lang/invoke/VarHandle") (hde : x.desc = y'.1.desc) (hg : z_g w a = some (.inr (ci, fs))) (hq : z_cls[ci]? = some q) (hc : z_Con G l y' rk' mc' ms' w (.ref a :: as) Q' X') (hrk : rk' + 1 ≤ S.1) (hcs : kc + mc' ≤ S.2.1 ∧ ks + ms' ≤ S.2.2.1) (hstk : st = as.reverse ++ .ref a :: rest) (hW : z_cat rest ≤ 8) (hn : as.length = np) (ht : y.2.2.2.2 = []) (hx : ∀ E w', X' E w' → S.2.2.2.2.2 E w') (kk : ∀ v w', Q' v w' → z_J G l y S (pc + 3) lo (v.toList ++ rest) w' (kc + mc') (ks + ms')) : z_J G l y S pc lo st w kc ks := by
  intro p e s m args below meth c R0 hok R H locs ls cst hat hlo hst
  subst hstk
  obtain ⟨b1, c2, rfl, hb1, hst⟩ := z_Lapp hst
  obtain ⟨c1, crest, rfl, h1, hrest⟩ := z_Lc hst
  have h1' := h1.2
  subst h1'
  have hAs := z_Lrev hb1
  rw [List.reverse_reverse] at hAs
  have hts := hok.2.2.2.2.2.2.1
  obtain ⟨m1, m2, m3, m4, m5, m6⟩ := hm
  have ecd := z_cd m1
  obtain ⟨z1, z2, z3, z4⟩ := h0
  have ec0 := z_cd z2
  have cw : va_CU (z_rm S.1 S.2.1 S.2.2.1) s args y.1.cls q.1 x.cls idx x y'.1 y'.2.1 y'.2.2.1 y'.2.2.2.1 (z_ws y') (z_rm rk' mc' ms') mc' ms' np := by
    refine ⟨⟨rfl, rfl, (z_rmle hrk m6).1, (z_rmle hrk m6).2, z_pay hts m2, by rw [← ecd]; exact List.mem_cons_self⟩, by rw [← ecd]; exact hts _ m2, hts _ m3, ho, ?_, hts _ hl, hts _ hsm, ?_, hts _ hse, hts _ hi⟩
    · rw [hde]; exact z_np m5
    · show va_Decl s x
      rw [← z1]; exact va_Decl.of (hts _ z4) (by rw [← ec0]; exact hts _ z3)
  exact z_run hok hat hlo hrest ht (vx_runU (C := q.1) (As := b1.reverse) ⟨hok.1, hok.2.1, rfl, hok.2.2.2.2.2.1, hok.2.2.2.2.2.2.1⟩ (hc R) cw ⟨z_Pc_blind, z_recv hok hat hg hq, fun U hU hW9 => z_pre hok hat (av := .ref a :: as) (cav := .ref (R.1 a) :: b1.reverse) ⟨h1, hAs⟩ U hU hW9⟩ rfl (by rw [z_Ll hAs]; exact hn) hlo.choose_spec.1.1 (by rw [List.reverse_reverse]) (lv_room (by rw [z_Lcs hrest]; exact hW)) hd hcs) hcs hx kk
theorem z_fB (x : Int32) : fits .byte (.int x.toInt8.toInt32) = true := by
  have h1 : (-128 : Int32) ≤ x.toInt8.toInt32 := by
    rw [Int32.le_iff_toInt_le, Int8.toInt_toInt32]
    have := Int8.le_toInt x.toInt8
    show (-128 : Int) ≤ _
    omega
  have h2 : x.toInt8.toInt32 ≤ (127 : Int32) := by
    rw [Int32.le_iff_toInt_le, Int8.toInt_toInt32]
    have := Int8.toInt_lt x.toInt8
    show _ ≤ (127 : Int)
    omega
  simp [fits, h1, h2]
theorem z_dcI {p : Nat} (h : 1 ≤ p) : nI p + Int32.ofInt (-1) = nI (p - 1) := z_decr1 h
theorem z_sble {q N : Nat} (hq : q < 2 ^ 30) (hN : N < 2 ^ 30) : nI q - nI N ≤ 0 ↔ q ≤ N := by
  rw [Int32.le_iff_toInt_le, pk_sub_toInt hq hN, Int32.toInt_zero]
  omega
theorem nI_mxle {k p : Nat} (h : k ≤ p) (hp : p < 2147483648) : (if nI k < nI p then nI p else nI k) = nI p := by
  by_cases e : k = p
  · subst e
    split <;> rfl
  · rw [if_pos (nI_lt (by omega) hp)]
theorem z_grT {N q : Nat} (h : q ≤ N) : z_gr N q = N := by unfold z_gr; rw [if_pos h]
theorem z_grF {N q : Nat} (h : ¬ q ≤ N) : z_gr N q = 2 * N + 2 := by unfold z_gr; rw [if_neg h]
set_option maxRecDepth 100000 in
set_option maxHeartbeats 8000000 in
theorem sb_lat (hl : l.stackTraces = false) (w : z_W) (a : Nat) (v0 : Value) (ml c : Int32) (ga : z_g w a = some (.inr (1, [v0, .int 0, .int ml, .int c]))) : z_Con G l mJ5_isLatin1_aae02 10 0 0 w [.ref a] (fun v w9 => v = some (.int 1) ∧ w9 = w) (fun _ _ => False) := by
  refine z_body hl (by decide) rfl (Nat.le_of_ble_eq_true rfl) ?_
  show z_J G l mJ5_isLatin1_aae02 _ 0 [(0, _)] [] _ 0 0
  refine j_gets dJ5_isLatin1_aae02_0 (List.mem_of_getElem? (i := 0) rfl) rfl (z_w 573 ((lwt_3_1 18).trans rfl) (by decide +kernel)) ?_
  refine j_if_eq (tgt := 17) dJ5_isLatin1_aae02_3 (by decide) (fun c_3_3 => ?_) (fun c_3_3 => ?_)
  · exact absurd c_3_3 (by decide)
  · refine j_aload_n dJ5_isLatin1_aae02_6 rfl rfl ?_
    refine j_getf dJ5_isLatin1_aae02_7 fJ5_22 ga rfl ?_
    refine j_if_ne (tgt := 17) dJ5_isLatin1_aae02_10 (by decide) (fun c_10_7 => ?_) (fun c_10_7 => ?_)
    · exact absurd rfl c_10_7
    · refine j_iconst (v := 1) dJ5_isLatin1_aae02_13 (by decide) ?_
      refine j_goto (tgt := 18) dJ5_isLatin1_aae02_14 (by decide) ?_
      refine j_iret dJ5_isLatin1_aae02_18 rfl rfl ?_ (Nat.le_of_ble_eq_true rfl) (Nat.le_of_ble_eq_true rfl)
      exact ⟨rfl, rfl⟩
set_option maxRecDepth 100000 in
set_option maxHeartbeats 8000000 in
theorem sb_can (hl : l.stackTraces = false) (w : z_W) (c : Int32) (hc : ¬ (255 : Int32) < c) : z_Con G l mJ1_canEncode_fc78d 10 0 0 w [.int c] (fun v w9 => v = some (.int 1) ∧ w9 = w) (fun _ _ => False) := by
  refine z_body hl (by decide) rfl (Nat.le_of_ble_eq_true rfl) ?_
  show z_J G l mJ1_canEncode_fc78d _ 0 [(0, _)] [] _ 0 0
  refine j_iload_n dJ1_canEncode_fc78d_0 rfl ?_
  refine j_sipush (v := 255) dJ1_canEncode_fc78d_1 (by decide) ?_
  refine j_icmp_gt (tgt := 11) dJ1_canEncode_fc78d_4 (by decide) (fun c_4_4 => ?_) (fun c_4_4 => ?_)
  · exact absurd c_4_4 hc
  · refine j_iconst (v := 1) dJ1_canEncode_fc78d_7 (by decide) ?_
    refine j_goto (tgt := 12) dJ1_canEncode_fc78d_8 (by decide) ?_
    refine j_iret dJ1_canEncode_fc78d_12 rfl rfl ?_ (Nat.le_of_ble_eq_true rfl) (Nat.le_of_ble_eq_true rfl)
    exact ⟨rfl, rfl⟩
set_option maxRecDepth 100000 in
set_option maxHeartbeats 8000000 in
theorem sb_newL (hl : l.stackTraces = false) (w : z_W) (N k p : Nat) (hk : k ≤ p) (hp : N + p ≤ 20000) (h0 : 0 < N + p) : z_Con G l mJ8_newLength_cabcc 11 0 0 w [.int (nI N), .int (nI k), .int (nI p)] (fun v w9 => v = some (.int (nI (N + p))) ∧ w9 = w) (fun _ _ => False) := by
  refine z_body hl (by decide) rfl (Nat.le_of_ble_eq_true rfl) ?_
  show z_J G l mJ8_newLength_cabcc _ 0 [(0, _), (1, _), (2, _)] [] _ 0 0
  refine j_iload_n dJ8_newLength_cabcc_0 rfl ?_
  refine j_iload_n dJ8_newLength_cabcc_1 rfl ?_
  refine j_iload_n dJ8_newLength_cabcc_2 rfl ?_
  refine j_mmax dJ8_newLength_cabcc_3 lJ8_194 (Nat.le_of_ble_eq_true rfl) (Nat.le_of_ble_eq_true rfl) (Nat.le_of_ble_eq_true rfl) (Nat.le_of_ble_eq_true rfl) ?_
  refine j_top (congrArg Value.int (nI_mxle hk (by omega))) ?_
  refine j_iadd dJ8_newLength_cabcc_6 ?_
  refine j_top (congrArg Value.int (nI_add N p)) ?_
  refine j_istore_n (lo' := [(3, _), (0, _), (1, _), (2, _)]) dJ8_newLength_cabcc_7 (by decide) rfl ?_
  refine j_iconst (v := 0) dJ8_newLength_cabcc_8 (by decide) ?_
  refine j_iload_n dJ8_newLength_cabcc_9 rfl ?_
  refine j_icmp_ge (tgt := 21) dJ8_newLength_cabcc_10 (by decide) (fun c_10_12 => ?_) (fun c_10_12 => ?_)
  · exact absurd ((nI_leI (a := N + p) (b := 0) (by omega) (by omega)).mp (nI_o0 ▸ c_10_12)) (by omega)
  · refine j_iload_n dJ8_newLength_cabcc_13 rfl ?_
    refine j_ldc dJ8_newLength_cabcc_14 kcJ8_200 ?_
    refine j_icmp_gt (tgt := 21) dJ8_newLength_cabcc_16 (by decide) (fun c_16_16 => ?_) (fun c_16_16 => ?_)
    · exact absurd c_16_16 (Int32.not_lt.mpr (Int32.le_trans ((nI_leI (a := N + p) (b := 20000) (by omega) (by omega)).mpr hp) (by decide)))
    · refine j_iload_n dJ8_newLength_cabcc_19 rfl ?_
      refine j_iret dJ8_newLength_cabcc_20 rfl rfl ?_ (Nat.le_of_ble_eq_true rfl) (Nat.le_of_ble_eq_true rfl)
      exact ⟨rfl, rfl⟩
set_option maxRecDepth 100000 in
set_option maxHeartbeats 8000000 in
theorem sb_newC (hl : l.stackTraces = false) (w : z_W) (ρ a n N q : Nat) (h : z_sb w ρ a n N) (hq : N < q) (hq2 : q ≤ 2 * N + 2) : z_Con G l mJ5_newCapacity_0f7a4 12 0 0 w [.ref a, .int (nI q)] (fun v w9 => v = some (.int (nI (2 * N + 2))) ∧ w9 = w) (fun _ _ => False) := by
  obtain ⟨h1, h2, h3, h4, h5, m, f, ml, a1, a2, a3, ga, gm, a6⟩ := id h
  refine z_body hl (by decide) rfl (Nat.le_of_ble_eq_true rfl) ?_
  show z_J G l mJ5_newCapacity_0f7a4 _ 0 [(0, _), (1, _)] [] _ 0 0
  refine j_aload_n dJ5_newCapacity_0f7a4_0 rfl rfl ?_
  refine j_getf dJ5_newCapacity_0f7a4_1 fJ5_15 ga rfl ?_
  refine j_alen dJ5_newCapacity_0f7a4_4 gm rfl rfl ?_
  refine j_istore_n (lo' := [(2, _), (0, _), (1, _)]) dJ5_newCapacity_0f7a4_5 (by decide) rfl ?_
  refine j_iload_n dJ5_newCapacity_0f7a4_6 rfl ?_
  refine j_aload_n dJ5_newCapacity_0f7a4_7 rfl rfl ?_
  refine j_getf dJ5_newCapacity_0f7a4_8 fJ5_22 ga rfl ?_
  refine j_ishl dJ5_newCapacity_0f7a4_11 ?_
  refine j_top (congrArg Value.int (sb_shl0 (nI q))) ?_
  refine j_istore_n (lo' := [(3, _), (2, _), (0, _), (1, _)]) dJ5_newCapacity_0f7a4_12 (by decide) rfl ?_
  refine j_iload_n dJ5_newCapacity_0f7a4_13 rfl ?_
  refine j_iload_n dJ5_newCapacity_0f7a4_14 rfl ?_
  refine j_isub dJ5_newCapacity_0f7a4_15 ?_
  refine j_top (congrArg Value.int (show nI q - nI N = nI (q - N) from pk_sub (by omega))) ?_
  refine j_istore (lo' := [(4, _), (3, _), (2, _), (0, _), (1, _)]) dJ5_newCapacity_0f7a4_16 (by decide) rfl ?_
  refine j_iload_n dJ5_newCapacity_0f7a4_18 rfl ?_
  refine j_iload dJ5_newCapacity_0f7a4_19 rfl ?_
  refine j_iload_n dJ5_newCapacity_0f7a4_21 rfl ?_
  refine j_iconst (v := 2) dJ5_newCapacity_0f7a4_22 (by decide) ?_
  refine j_aload_n dJ5_newCapacity_0f7a4_23 rfl rfl ?_
  refine j_getf dJ5_newCapacity_0f7a4_24 fJ5_22 ga rfl ?_
  refine j_ishl dJ5_newCapacity_0f7a4_27 ?_
  refine j_top (congrArg Value.int (sb_shl0 2)) ?_
  refine j_iadd dJ5_newCapacity_0f7a4_28 ?_
  refine j_top (congrArg Value.int (show nI N + (2 : Int32) = nI (N + 2) from nI_add N 2)) ?_
  refine j_callS dJ5_newCapacity_0f7a4_29 kJ8_newLength_cabcc lJ5_114 stJ8_newLength_cabcc (sb_newL hl w N (q - N) (N + 2) (by omega) (by omega) (by omega)) (Nat.le_of_ble_eq_true rfl) ⟨(Nat.le_of_ble_eq_true rfl), (Nat.le_of_ble_eq_true rfl)⟩ rfl (Nat.le_of_ble_eq_true rfl) rfl rfl (fun _ _ h => h.elim) ?_
  rintro _ _ ⟨rfl, hw1⟩
  refine j_w w hw1 ?_
  refine j_istore (lo' := [(5, _), (4, _), (3, _), (2, _), (0, _), (1, _)]) dJ5_newCapacity_0f7a4_32 (by decide) rfl ?_
  refine j_iload dJ5_newCapacity_0f7a4_34 rfl ?_
  refine j_ldc dJ5_newCapacity_0f7a4_36 kcJ5_39 ?_
  refine j_icmp_ne (tgt := 51) dJ5_newCapacity_0f7a4_38 (by decide) (fun c_38_33 => ?_) (fun c_38_33 => ?_)
  · refine j_iload dJ5_newCapacity_0f7a4_51 rfl ?_
    refine j_aload_n dJ5_newCapacity_0f7a4_53 rfl rfl ?_
    refine j_getf dJ5_newCapacity_0f7a4_54 fJ5_22 ga rfl ?_
    refine j_ishr dJ5_newCapacity_0f7a4_57 ?_
    refine j_top (congrArg Value.int (sb_shr0 _)) ?_
    refine j_iret dJ5_newCapacity_0f7a4_58 rfl rfl ?_ (Nat.le_of_ble_eq_true rfl) (Nat.le_of_ble_eq_true rfl)
    exact ⟨congrArg (fun z => some (Value.int (nI z))) (by omega), rfl⟩
  · exact absurd c_38_33 (z_nmx (by omega))
set_option maxRecDepth 100000 in
set_option maxHeartbeats 8000000 in
theorem sb_cpO (hl : l.stackTraces = false) (w : z_W) (ρ m N q : Nat) (f : Nat → Value) (hρ : ρ < 64) (hf : z_fn w) (gm : z_g w m = some (.inl (2, N, f))) (hby : z_by f) (hq : N < q) (hq2 : q ≤ 20000) : z_Con G l mJ7_copyOf_9075b 12 1 q w [.ref m, .int (nI q)] (fun v w9 => ∃ (m9 : Nat) (g : Nat → Value), v = some (.ref m9) ∧ z_fw ρ w w9 ∧ 1000 ≤ m9 ∧ m9 % 64 = ρ ∧ (∀ k e, z_g w k = some e → k ≠ m9) ∧ z_g w9 m9 = some (.inl (2, q, g)) ∧ (∀ k e, z_g w k = some e → z_g w9 k = some e) ∧ z_by g) (fun _ _ => False) := by
  refine z_body hl (by decide) rfl (Nat.le_of_ble_eq_true rfl) ?_
  show z_J G l mJ7_copyOf_9075b _ 0 [(0, _), (1, _)] [] _ 0 0
  refine j_iload_n dJ7_copyOf_9075b_0 rfl ?_
  refine j_aload_n dJ7_copyOf_9075b_1 rfl rfl ?_
  refine j_alen dJ7_copyOf_9075b_2 gm rfl rfl ?_
  refine j_icmp_ne (tgt := 14) dJ7_copyOf_9075b_3 (by decide) (fun c_3_5 => ?_) (fun c_3_5 => ?_)
  · refine j_iload_n dJ7_copyOf_9075b_14 rfl ?_
    obtain ⟨x1, hx1a, hx1b, hx1c⟩ := z_fresh (ρ) hρ hf
    have n_m_x1 := z_neF hx1c gm
    refine j_newa (kd := 2) (N := q) (w' := _) (n := x1) dJ7_copyOf_9075b_15 rfl rfl arc_byte ⟨rfl, fun _ _ h => h⟩ (nI_pos (by omega)) (z_cla (by omega)) (by show q * 1 ≤ _; omega) rfl (z_alW hx1c hx1a) (Nat.le_of_ble_eq_true rfl) (by show _ ≤ q; omega) ?_
    refine j_seal hx1a ?_
    intro w1 u1
    have g1_m := (u1.2.1 _ n_m_x1).trans gm
    have g1_x1 := u1.1
    have hf1 := u1.2.2.2 hf
    refine j_astore_n (lo' := [(2, _), (0, _), (1, _)]) dJ7_copyOf_9075b_17 rfl (by decide) rfl ?_
    refine j_aload_n dJ7_copyOf_9075b_18 rfl rfl ?_
    refine j_iconst (v := 0) dJ7_copyOf_9075b_19 (by decide) ?_
    refine j_aload_n dJ7_copyOf_9075b_20 rfl rfl ?_
    refine j_iconst (v := 0) dJ7_copyOf_9075b_21 (by decide) ?_
    refine j_aload_n dJ7_copyOf_9075b_22 rfl rfl ?_
    refine j_alen dJ7_copyOf_9075b_23 g1_m rfl rfl ?_
    refine j_iload_n dJ7_copyOf_9075b_24 rfl ?_
    refine j_mmin dJ7_copyOf_9075b_25 lJ7_304 (Nat.le_of_ble_eq_true rfl) (Nat.le_of_ble_eq_true rfl) (Nat.le_of_ble_eq_true rfl) (by show _ ≤ q; omega) ?_
    refine j_top (congrArg Value.int (nI_mn (a := N) (b := q) (by omega) (by omega))) ?_
    refine j_acopy (w' := _) dJ7_copyOf_9075b_28 lJ7_150 ac_n ac_s ac_i g1_m g1_x1 rfl (by decide) (by decide) (nI_pos (by omega)) (by rw [z_cla (by omega)]; show 0 + _ ≤ N; omega) (by rw [z_cla (by omega)]; show 0 + _ ≤ q; omega) (fun i _ => Or.inl (hby _)) (Nat.le_of_ble_eq_true rfl) (Nat.le_of_ble_eq_true rfl) rfl ?_
    refine j_seal hx1a ?_
    intro w2 u2
    have g2_m := (u2.2.1 _ n_m_x1).trans g1_m
    have g2_x1 := u2.1
    have hf2 := u2.2.2.2 hf1
    refine j_aload_n dJ7_copyOf_9075b_31 rfl rfl ?_
    refine j_aret dJ7_copyOf_9075b_32 rfl (Or.inr ⟨_, rfl⟩) rfl ?_ (Nat.le_of_ble_eq_true rfl) (by show _ ≤ q; omega)
    exact ⟨x1, _, rfl, ((u1.fw hx1a hx1b).tr (u2.fw hx1a hx1b)), hx1a, hx1b, fun k e hk => z_neF hx1c hk, g2_x1, fun k e hk => (u2.2.1 k (z_neF hx1c hk)).trans ((u1.2.1 k (z_neF hx1c hk)).trans hk), z_byC (fun j _ _ => hby j) z_by0⟩
  · exact absurd (nI_inj c_3_5 (by omega) (by omega)) (by omega)
set_option maxRecDepth 100000 in
set_option maxHeartbeats 8000000 in
theorem sb_ens (hl : l.stackTraces = false) (w : z_W) (ρ a n N q : Nat) (h : z_sb w ρ a n N) (hq : q ≤ 2 * N + 2) (hN : z_gr N q ≤ 5000) (hρ : ρ < 64) (hf : z_fn w) : z_Con G l mJ5_ensureCapacityInternal_d00df 14 (z_gr N q / 16 - N / 16) (2 * (z_gr N q - N)) w [.ref a, .int (nI q)] (fun v w9 => v = none ∧ z_fw ρ w w9 ∧ z_sb w9 ρ a n (z_gr N q)) (fun _ _ => False) := by
  obtain ⟨h1, h2, h3, h4, h5, m, f, ml, a1, a2, a3, ga, gm, a6⟩ := id h
  refine z_body hl (by decide) rfl (Nat.le_of_ble_eq_true rfl) ?_
  show z_J G l mJ5_ensureCapacityInternal_d00df _ 0 [(0, _), (1, _)] [] _ 0 0
  refine j_aload_n dJ5_ensureCapacityInternal_d00df_0 rfl rfl ?_
  refine j_getf dJ5_ensureCapacityInternal_d00df_1 fJ5_15 ga rfl ?_
  refine j_alen dJ5_ensureCapacityInternal_d00df_4 gm rfl rfl ?_
  refine j_aload_n dJ5_ensureCapacityInternal_d00df_5 rfl rfl ?_
  refine j_getf dJ5_ensureCapacityInternal_d00df_6 fJ5_22 ga rfl ?_
  refine j_ishr dJ5_ensureCapacityInternal_d00df_9 ?_
  refine j_top (congrArg Value.int (sb_shr0 (nI N))) ?_
  refine j_istore_n (lo' := [(2, _), (0, _), (1, _)]) dJ5_ensureCapacityInternal_d00df_10 (by decide) rfl ?_
  refine j_iload_n dJ5_ensureCapacityInternal_d00df_11 rfl ?_
  refine j_iload_n dJ5_ensureCapacityInternal_d00df_12 rfl ?_
  refine j_isub dJ5_ensureCapacityInternal_d00df_13 ?_
  refine j_if_le (tgt := 38) dJ5_ensureCapacityInternal_d00df_14 (by decide) (fun c_14_13 => ?_) (fun c_14_13 => ?_)
  · have hgr := z_grT ((z_sble (q := q) (N := N) (by omega) (by omega)).mp c_14_13)
    refine j_vret dJ5_ensureCapacityInternal_d00df_38 rfl ?_ (by show _ ≤ z_gr N q / 16 - N / 16; omega) (by show _ ≤ 2 * (z_gr N q - N); omega)
    rw [hgr]
    exact ⟨rfl, z_fw.rf, h⟩
  · have hqN : ¬ q ≤ N := fun z => c_14_13 ((z_sble (q := q) (N := N) (by omega) (by omega)).mpr z)
    have hgr := z_grF hqN
    refine j_aload_n dJ5_ensureCapacityInternal_d00df_17 rfl rfl ?_
    refine j_aload_n dJ5_ensureCapacityInternal_d00df_18 rfl rfl ?_
    refine j_getf dJ5_ensureCapacityInternal_d00df_19 fJ5_15 ga rfl ?_
    refine j_aload_n dJ5_ensureCapacityInternal_d00df_22 rfl rfl ?_
    refine j_iload_n dJ5_ensureCapacityInternal_d00df_23 rfl ?_
    refine j_callP (x := yJ5_isLatin1_aae02) (q := (RJ4, TJ4, 4)) dJ5_ensureCapacityInternal_d00df_24 kJ5_newCapacity_0f7a4 lJ5_104 inJ5_newCapacity_0f7a4 ⟨(z_w 640 ((lwt_3_3 25).trans rfl) (by decide +kernel)), rfl, (z_wn 607 ((lwt_3_2 22).trans rfl) (by decide +kernel))⟩ ga rfl (sb_newC hl w ρ a n N q h (by omega) hq) (Nat.le_of_ble_eq_true rfl) ⟨(by show _ ≤ z_gr N q / 16 - N / 16; omega), (by show _ ≤ 2 * (z_gr N q - N); omega)⟩ rfl (Nat.le_of_ble_eq_true rfl) rfl rfl (fun _ _ h => h.elim) ?_
    rintro _ _ ⟨rfl, hw2⟩
    refine j_w w hw2 ?_
    refine j_aload_n dJ5_ensureCapacityInternal_d00df_27 rfl rfl ?_
    refine j_getf dJ5_ensureCapacityInternal_d00df_28 fJ5_22 ga rfl ?_
    refine j_ishl dJ5_ensureCapacityInternal_d00df_31 ?_
    refine j_top (congrArg Value.int (sb_shl0 _)) ?_
    refine j_callS dJ5_ensureCapacityInternal_d00df_32 kJ7_copyOf_9075b lJ5_108 stJ7_copyOf_9075b (sb_cpO hl w ρ m N (2 * N + 2) f hρ hf gm a6 (by omega) (by omega)) (Nat.le_of_ble_eq_true rfl) ⟨(by show _ ≤ z_gr N q / 16 - N / 16; omega), (by show _ ≤ 2 * (z_gr N q - N); omega)⟩ rfl (Nat.le_of_ble_eq_true rfl) rfl rfl (fun _ _ h => h.elim) ?_
    rintro _ w1 ⟨m9, g9, rfl, fw1, c1, c2, c3, c4, c5, c6⟩
    have hf1 := fw1.2.1 hf
    have g1_a := c5 a _ ga
    refine j_put (w' := _) dJ5_ensureCapacityInternal_d00df_35 fJ5_15 tJ4_0 g1_a (Or.inr ⟨_, rfl⟩) rfl ?_
    refine j_seal h1 ?_
    intro w2 u2
    have g2_m2 := (u2.2.1 _ (Ne.symm (c3 a _ ga))).trans c4
    have g2_a := u2.1
    have hf2 := u2.2.2.2 hf1
    refine j_vret dJ5_ensureCapacityInternal_d00df_38 rfl ?_ (by show _ ≤ z_gr N q / 16 - N / 16; omega) (by show _ ≤ 2 * (z_gr N q - N); omega)
    rw [hgr]
    exact ⟨rfl, (fw1.tr (u2.fw h1 h2)), h1, h2, by omega, by omega, by omega, m9, _, ml, c1, c2, (Ne.symm (c3 a _ ga)), g2_a, g2_m2, c6⟩
set_option maxRecDepth 100000 in
set_option maxHeartbeats 8000000 in
theorem sb_ini0 (hl : l.stackTraces = false) (w : z_W) (ρ a : Nat) (h1 : 1000 ≤ a) (h2 : a % 64 = ρ) (hρ : ρ < 64) (hf : z_fn w) (ga : z_g w a = some (.inr (1, [.null, .int 0, .int 0, .int 0]))) : z_Con G l mJ5_init_d00df 12 1 16 w [.ref a, .int 16] (fun v w9 => v = none ∧ z_fw ρ w w9 ∧ z_sb w9 ρ a 0 16) (fun _ _ => False) := by
  refine z_body hl (by decide) rfl (Nat.le_of_ble_eq_true rfl) ?_
  show z_J G l mJ5_init_d00df _ 0 [(0, _), (1, _)] [] _ 0 0
  refine j_aload_n dJ5_init_d00df_0 rfl rfl ?_
  refine j_objI dJ5_init_d00df_1 oJ5_3 z_oi1 z_oi2 (Nat.le_of_ble_eq_true rfl) (Nat.le_of_ble_eq_true rfl) ?_
  refine j_gets dJ5_init_d00df_4 (List.mem_of_getElem? (i := 0) rfl) rfl (z_w 573 ((lwt_3_1 18).trans rfl) (by decide +kernel)) ?_
  refine j_if_eq (tgt := 25) dJ5_init_d00df_7 (by decide) (fun c_7_5 => ?_) (fun c_7_5 => ?_)
  · exact absurd c_7_5 (by decide)
  · refine j_aload_n dJ5_init_d00df_10 rfl rfl ?_
    refine j_iload_n dJ5_init_d00df_11 rfl ?_
    obtain ⟨x1, hx1a, hx1b, hx1c⟩ := z_fresh (ρ) hρ hf
    have n_a_x1 := z_neF hx1c ga
    refine j_newa (kd := 2) (N := 16) (w' := _) (n := x1) dJ5_init_d00df_12 rfl rfl arc_byte ⟨rfl, fun _ _ h => h⟩ (by decide) rfl (by decide) rfl (z_alW hx1c hx1a) (Nat.le_of_ble_eq_true rfl) (Nat.le_of_ble_eq_true rfl) ?_
    refine j_seal hx1a ?_
    intro w1 u1
    have g1_a := (u1.2.1 _ n_a_x1).trans ga
    have g1_x1 := u1.1
    have hf1 := u1.2.2.2 hf
    refine j_put (w' := _) dJ5_init_d00df_14 fJ5_15 tJ4_0 g1_a (Or.inr ⟨_, rfl⟩) rfl ?_
    refine j_seal h1 ?_
    intro w2 u2
    have g2_x1 := (u2.2.1 _ (Ne.symm n_a_x1)).trans g1_x1
    have g2_a := u2.1
    have hf2 := u2.2.2.2 hf1
    refine j_aload_n dJ5_init_d00df_17 rfl rfl ?_
    refine j_iconst (v := 0) dJ5_init_d00df_18 (by decide) ?_
    refine j_put (w' := _) dJ5_init_d00df_19 fJ5_22 tJ4_1 g2_a ⟨rfl, rfl⟩ rfl ?_
    refine j_seal h1 ?_
    intro w3 u3
    have g3_x1 := (u3.2.1 _ (Ne.symm n_a_x1)).trans g2_x1
    have g3_a := u3.1
    have hf3 := u3.2.2.2 hf2
    refine j_goto (tgt := 38) dJ5_init_d00df_22 (by decide) ?_
    refine j_vret dJ5_init_d00df_38 rfl ?_ (Nat.le_of_ble_eq_true rfl) (Nat.le_of_ble_eq_true rfl)
    exact ⟨rfl, (((u1.fw hx1a hx1b).tr (u2.fw h1 h2)).tr (u3.fw h1 h2)), h1, h2, by omega, by omega, by omega, x1, _, 0, hx1a, hx1b, Ne.symm n_a_x1, g3_a, g3_x1, z_by0⟩
set_option maxRecDepth 100000 in
set_option maxHeartbeats 8000000 in
theorem sb_ini (hl : l.stackTraces = false) (w : z_W) (ρ a : Nat) (h1 : 1000 ≤ a) (h2 : a % 64 = ρ) (hρ : ρ < 64) (hf : z_fn w) (ga : z_g w a = some (.inr (1, [.null, .int 0, .int 0, .int 0]))) : z_Con G l mJ4_init_da8c8 13 1 16 w [.ref a] (fun v w9 => v = none ∧ z_fw ρ w w9 ∧ z_sb w9 ρ a 0 16) (fun _ _ => False) := by
  refine z_body hl (by decide) rfl (Nat.le_of_ble_eq_true rfl) ?_
  show z_J G l mJ4_init_da8c8 _ 0 [(0, _)] [] _ 0 0
  refine j_aload_n dJ4_init_da8c8_0 rfl rfl ?_
  refine j_bipush (v := 16) dJ4_init_da8c8_1 (by decide) ?_
  refine j_callI dJ4_init_da8c8_3 kJ5_init_d00df rfl lJ4_1 inJ5_init_d00df rfl (sb_ini0 hl w ρ a h1 h2 hρ hf ga) (Nat.le_of_ble_eq_true rfl) ⟨(Nat.le_of_ble_eq_true rfl), (Nat.le_of_ble_eq_true rfl)⟩ rfl (Nat.le_of_ble_eq_true rfl) rfl rfl (fun _ _ h => h.elim) ?_
  rintro _ w1 ⟨rfl, fw1, hs1⟩
  have hf1 := fw1.2.1 hf
  refine j_vret dJ4_init_da8c8_6 rfl ?_ (Nat.le_of_ble_eq_true rfl) (Nat.le_of_ble_eq_true rfl)
  exact ⟨rfl, fw1, hs1⟩
set_option maxRecDepth 100000 in
set_option maxHeartbeats 8000000 in
theorem sb_apC0 (hl : l.stackTraces = false) (w : z_W) (ρ a n N : Nat) (c : Int32) (h : z_sb w ρ a n N) (hq : n + 1 ≤ 2 * N + 2) (hN : z_gr N (n + 1) ≤ 5000) (hρ : ρ < 64) (hf : z_fn w) (hc : ¬ (255 : Int32) < c) : z_Con G l mJ5_append_3fe6f 15 (z_gr N (n + 1) / 16 - N / 16) (2 * (z_gr N (n + 1) - N)) w [.ref a, .int c] (fun v w9 => v = some (.ref a) ∧ z_fw ρ w w9 ∧ z_sb w9 ρ a (n + 1) (z_gr N (n + 1))) (fun _ _ => False) := by
  obtain ⟨h1, h2, h3, h4, h5, m, f, ml, a1, a2, a3, ga, gm, a6⟩ := id h
  have hge := z_gr_ge hq
  have hle := z_gr_le (N := N) (m := n + 1)
  refine z_body hl (by decide) rfl (Nat.le_of_ble_eq_true rfl) ?_
  show z_J G l mJ5_append_3fe6f _ 0 [(0, _), (1, _)] [] _ 0 0
  refine j_aload_n dJ5_append_3fe6f_0 rfl rfl ?_
  refine j_aload_n dJ5_append_3fe6f_1 rfl rfl ?_
  refine j_getf dJ5_append_3fe6f_2 fJ5_79 ga rfl ?_
  refine j_iconst (v := 1) dJ5_append_3fe6f_5 (by decide) ?_
  refine j_iadd dJ5_append_3fe6f_6 ?_
  refine j_top (congrArg Value.int (nI_1 n)) ?_
  refine j_callP (x := yJ5_isLatin1_aae02) (q := (RJ4, TJ4, 4)) dJ5_append_3fe6f_7 kJ5_ensureCapacityInternal_d00df lJ5_100 inJ5_ensureCapacityInternal_d00df ⟨(z_w 640 ((lwt_3_3 25).trans rfl) (by decide +kernel)), rfl, (z_wn 603 ((lwt_3_2 18).trans rfl) (by decide +kernel))⟩ ga rfl (sb_ens hl w ρ a n N (n + 1) h (by omega) (by omega) hρ hf) (Nat.le_of_ble_eq_true rfl) ⟨(by show _ ≤ z_gr N (n + 1) / 16 - N / 16; omega), (by show _ ≤ 2 * (z_gr N (n + 1) - N); omega)⟩ rfl (Nat.le_of_ble_eq_true rfl) rfl rfl (fun _ _ h => h.elim) ?_
  rintro _ w1 ⟨rfl, fw1, hs1⟩
  have hf1 := fw1.2.1 hf
  obtain ⟨-, -, h3_1, h4_1, h5_1, m_1, f_1, ml_1, a1_1, a2_1, a3_1, ga_1, gm_1, a6_1⟩ := id hs1
  refine j_aload_n dJ5_append_3fe6f_10 rfl rfl ?_
  refine j_callU (q := (RJ4, TJ4, 4)) dJ5_append_3fe6f_11 kJ5_isLatin1_aae02 cuJ5_83_J4 ga_1 rfl (sb_lat hl w1 _ _ _ _ ga_1) (Nat.le_of_ble_eq_true rfl) ⟨(by show _ ≤ z_gr N (n + 1) / 16 - N / 16; omega), (by show _ ≤ 2 * (z_gr N (n + 1) - N); omega)⟩ rfl (Nat.le_of_ble_eq_true rfl) rfl rfl (fun _ _ h => h.elim) ?_
  rintro _ _ ⟨rfl, hw3⟩
  refine j_w w1 hw3 ?_
  refine j_if_eq (tgt := 45) dJ5_append_3fe6f_14 (by decide) (fun c_14_16 => ?_) (fun c_14_16 => ?_)
  · exact absurd c_14_16 (by decide)
  · refine j_iload_n dJ5_append_3fe6f_17 rfl ?_
    refine j_callS dJ5_append_3fe6f_18 kJ1_canEncode_fc78d lJ5_191 stJ1_canEncode_fc78d (sb_can hl w1 c hc) (Nat.le_of_ble_eq_true rfl) ⟨(by show _ ≤ z_gr N (n + 1) / 16 - N / 16; omega), (by show _ ≤ 2 * (z_gr N (n + 1) - N); omega)⟩ rfl (Nat.le_of_ble_eq_true rfl) rfl rfl (fun _ _ h => h.elim) ?_
    rintro _ _ ⟨rfl, hw4⟩
    refine j_w w1 hw4 ?_
    refine j_if_eq (tgt := 45) dJ5_append_3fe6f_21 (by decide) (fun c_21_22 => ?_) (fun c_21_22 => ?_)
    · exact absurd c_21_22 (by decide)
    · refine j_aload_n dJ5_append_3fe6f_24 rfl rfl ?_
      refine j_getf dJ5_append_3fe6f_25 fJ5_15 ga_1 rfl ?_
      refine j_aload_n dJ5_append_3fe6f_28 rfl rfl ?_
      refine j_dup dJ5_append_3fe6f_29 rfl ?_
      refine j_getf dJ5_append_3fe6f_30 fJ5_79 ga_1 rfl ?_
      refine j_dup_x1 dJ5_append_3fe6f_33 rfl rfl ?_
      refine j_iconst (v := 1) dJ5_append_3fe6f_34 (by decide) ?_
      refine j_iadd dJ5_append_3fe6f_35 ?_
      refine j_top (congrArg Value.int (nI_1 n)) ?_
      refine j_put (w' := _) dJ5_append_3fe6f_36 fJ5_79 tJ4_3 ga_1 ⟨rfl, rfl⟩ rfl ?_
      refine j_seal h1 ?_
      intro w2 u2
      have g2_m := (u2.2.1 _ a3_1).trans gm_1
      have g2_a := u2.1
      have hf2 := u2.2.2.2 hf1
      refine j_iload_n dJ5_append_3fe6f_39 rfl ?_
      refine j_i2b dJ5_append_3fe6f_40 ?_
      refine j_bastW (w' := _) dJ5_append_3fe6f_41 g2_m (vp_in_nI (by omega) (by omega)) rfl ?_
      refine j_seal a1_1 ?_
      intro w3 u3
      have g3_a := (u3.2.1 _ (Ne.symm a3_1)).trans g2_a
      have g3_m := u3.1
      have hf3 := u3.2.2.2 hf2
      refine j_goto (tgt := 75) dJ5_append_3fe6f_42 (by decide) ?_
      refine j_aload_n dJ5_append_3fe6f_75 rfl rfl ?_
      refine j_aret dJ5_append_3fe6f_76 rfl (Or.inl ⟨_, rfl⟩) rfl ?_ (by show _ ≤ z_gr N (n + 1) / 16 - N / 16; omega) (by show _ ≤ 2 * (z_gr N (n + 1) - N); omega)
      exact ⟨rfl, ((fw1.tr (u2.fw h1 h2)).tr (u3.fw a1_1 a2_1)), h1, h2, hge, by omega, hN, m_1, _, ml_1, a1_1, a2_1, a3_1, g3_a, g3_m, z_byU a6_1 (z_fB _)⟩
set_option maxRecDepth 100000 in
set_option maxHeartbeats 8000000 in
theorem sb_apC (hl : l.stackTraces = false) (w : z_W) (ρ a n N : Nat) (c : Int32) (h : z_sb w ρ a n N) (hq : n + 1 ≤ 2 * N + 2) (hN : z_gr N (n + 1) ≤ 5000) (hρ : ρ < 64) (hf : z_fn w) (hc : ¬ (255 : Int32) < c) : z_Con G l mJ4_append_cf468 16 (z_gr N (n + 1) / 16 - N / 16) (2 * (z_gr N (n + 1) - N)) w [.ref a, .int c] (fun v w9 => v = some (.ref a) ∧ z_fw ρ w w9 ∧ z_sb w9 ρ a (n + 1) (z_gr N (n + 1))) (fun _ _ => False) := by
  obtain ⟨h1, h2, h3, h4, h5, m, f, ml, a1, a2, a3, ga, gm, a6⟩ := id h
  refine z_body hl (by decide) rfl (Nat.le_of_ble_eq_true rfl) ?_
  show z_J G l mJ4_append_cf468 _ 0 [(0, _), (1, _)] [] _ 0 0
  refine j_aload_n dJ4_append_cf468_0 rfl rfl ?_
  refine j_iload_n dJ4_append_cf468_1 rfl ?_
  refine j_callSu (q := (RJ4, TJ4, 4)) dJ4_append_cf468_2 kJ5_append_3fe6f ⟨lJ4_50, (z_w 1966 ((lwg_9 1).trans rfl) (by decide +kernel)), (z_w 594 ((lwt_3_2 9).trans rfl) (by decide +kernel)), inJ5_append_3fe6f, (by decide)⟩ ga rfl (sb_apC0 hl w ρ a n N c h hq hN hρ hf hc) (Nat.le_of_ble_eq_true rfl) ⟨(by show _ ≤ z_gr N (n + 1) / 16 - N / 16; omega), (by show _ ≤ 2 * (z_gr N (n + 1) - N); omega)⟩ rfl (Nat.le_of_ble_eq_true rfl) rfl rfl (fun _ _ h => h.elim) ?_
  rintro _ w1 ⟨rfl, fw1, hs1⟩
  have hf1 := fw1.2.1 hf
  refine j_pop dJ4_append_cf468_5 rfl ?_
  refine j_aload_n dJ4_append_cf468_6 rfl rfl ?_
  refine j_aret dJ4_append_cf468_7 rfl (Or.inl ⟨_, rfl⟩) rfl ?_ (by show _ ≤ z_gr N (n + 1) / 16 - N / 16; omega) (by show _ ≤ 2 * (z_gr N (n + 1) - N); omega)
  exact ⟨rfl, fw1, hs1⟩
set_option maxRecDepth 100000 in
set_option maxHeartbeats 8000000 in
theorem sb_len0 (hl : l.stackTraces = false) (w : z_W) (ρ a n N : Nat) (h : z_sb w ρ a n N) : z_Con G l mJ5_length_8abf5 10 0 0 w [.ref a] (fun v w9 => v = some (.int (nI n)) ∧ w9 = w) (fun _ _ => False) := by
  obtain ⟨h1, h2, h3, h4, h5, m, f, ml, a1, a2, a3, ga, gm, a6⟩ := id h
  refine z_body hl (by decide) rfl (Nat.le_of_ble_eq_true rfl) ?_
  show z_J G l mJ5_length_8abf5 _ 0 [(0, _)] [] _ 0 0
  refine j_aload_n dJ5_length_8abf5_0 rfl rfl ?_
  refine j_getf dJ5_length_8abf5_1 fJ5_79 ga rfl ?_
  refine j_iret dJ5_length_8abf5_4 rfl rfl ?_ (Nat.le_of_ble_eq_true rfl) (Nat.le_of_ble_eq_true rfl)
  exact ⟨rfl, rfl⟩
set_option maxRecDepth 100000 in
set_option maxHeartbeats 8000000 in
theorem sb_len (hl : l.stackTraces = false) (w : z_W) (ρ a n N : Nat) (h : z_sb w ρ a n N) : z_Con G l mJ4_length_8abf5 11 0 0 w [.ref a] (fun v w9 => v = some (.int (nI n)) ∧ w9 = w) (fun _ _ => False) := by
  obtain ⟨h1, h2, h3, h4, h5, m, f, ml, a1, a2, a3, ga, gm, a6⟩ := id h
  refine z_body hl (by decide) rfl (Nat.le_of_ble_eq_true rfl) ?_
  show z_J G l mJ4_length_8abf5 _ 0 [(0, _)] [] _ 0 0
  refine j_aload_n dJ4_length_8abf5_0 rfl rfl ?_
  refine j_callSu (q := (RJ4, TJ4, 4)) dJ4_length_8abf5_1 kJ5_length_8abf5 ⟨lJ4_343, (z_w 744 ((lwt_3_7 9).trans rfl) (by decide +kernel)), (z_w 594 ((lwt_3_2 9).trans rfl) (by decide +kernel)), inJ5_length_8abf5, (by decide)⟩ ga rfl (sb_len0 hl w ρ a n N h) (Nat.le_of_ble_eq_true rfl) ⟨(Nat.le_of_ble_eq_true rfl), (Nat.le_of_ble_eq_true rfl)⟩ rfl (Nat.le_of_ble_eq_true rfl) rfl rfl (fun _ _ h => h.elim) ?_
  rintro _ _ ⟨rfl, hw5⟩
  refine j_w w hw5 ?_
  refine j_iret dJ4_length_8abf5_4 rfl rfl ?_ (Nat.le_of_ble_eq_true rfl) (Nat.le_of_ble_eq_true rfl)
  exact ⟨rfl, rfl⟩
end ZSb1
