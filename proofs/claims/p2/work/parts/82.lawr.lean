section ZLawR
variable {G : z_G} {l : Launch} {y : z_M} {S : z_S} {pc : Nat} {lo : List (Nat × Value)} {st : List Value} {w w' : z_W} {kc ks : Nat}
theorem z_cdw {y : z_M} (h : y.2.2.2.2 ≠ []) : z_code y = Cond.codeWith y.1 y.2.1 y.2.2.1 y.2.2.2.1 y.2.2.2.2 := by
  obtain ⟨yn, yb, yl, yr, yt⟩ := y
  cases yt with
  | nil => exact absurd rfl h
  | cons a t => rfl
/-- a static method with a table of handlers, called from a method that has none -/
theorem j_callSW {idx np rk' mc' ms' : Nat} {y' : z_M} {as rest : List Value} {Q' : Option Value → z_W → Prop} {X' : String → z_W → Prop} (hd : decode y.2.1 pc = .ok (.invokestatic idx, 3)) (hm : z_okw y' np) (hl : Cond.methodLink y.1.cls idx y'.1 ∈ z_tbl) (hsx : Cond.static y'.1 ∈ z_tbl) (hc : z_Con G l y' rk' mc' ms' w as Q' X') (hrk : rk' + 1 ≤ S.1) (hcs : kc + mc' ≤ S.2.1 ∧ ks + ms' ≤ S.2.2.1) (hstk : st = as.reverse ++ rest) (hW : z_cat rest ≤ 8) (hn : as.length = np) (ht : y.2.2.2.2 = []) (hx : ∀ E w', X' E w' → S.2.2.2.2.2 E w') (kk : ∀ v w', Q' v w' → z_J G l y S (pc + 3) lo (v.toList ++ rest) w' (kc + mc') (ks + ms')) : z_J G l y S pc lo st w kc ks := by
  intro p e s m args below meth c R0 hok R H locs ls cst hat hlo hst
  subst hstk
  obtain ⟨b1, crest, rfl, hb1, hrest⟩ := z_Lapp hst
  have hAs := z_Lrev hb1
  rw [List.reverse_reverse] at hAs
  have hts := hok.2.2.2.2.2.2.1
  obtain ⟨m1, m2, m3, m4, m5, m6⟩ := hm
  have ecd := z_cdw m1
  have cw : vx_CSW (z_rm S.1 S.2.1 S.2.2.1) s args y.1.cls idx y'.1 y'.2.1 y'.2.2.1 y'.2.2.2.1 y'.2.2.2.2 (z_ws y') (z_rm rk' mc' ms') mc' ms' np :=
    ⟨⟨rfl, rfl, (z_rmle hrk m6).1, (z_rmle hrk m6).2, z_pay hts m2, by rw [← ecd]; exact List.mem_cons_self⟩, by rw [← ecd]; exact hts _ m2, hts _ m3, m4, z_np m5, hts _ hl, hts _ hsx⟩
  exact z_run hok hat hlo hrest ht (vx_runSX (As := b1.reverse) ⟨hok.1, hok.2.1, rfl, hok.2.2.2.2.2.1, hok.2.2.2.2.2.2.1⟩ (hc R) cw ⟨z_Pc_blind, fun U hU hW9 => z_pre hok hat hAs U hU hW9⟩ rfl (by rw [z_Ll hAs]; exact hn) hlo.choose_spec.1.1 (by rw [List.reverse_reverse]) (lv_room (by rw [z_Lcs hrest]; exact hW)) hd hcs) hcs hx kk
/-- the handler of y's table that an E thrown at pc goes to -/
def z_hd (y : z_M) (pc : Nat) (E : String) (tgt : Nat) : Prop := ∃ (pre : List ExceptionTableEntry) (x : ExceptionTableEntry) (suf : List ExceptionTableEntry) (name : String), tableOf y.2.2.2.2 = pre ++ x :: suf ∧ (∀ z ∈ pre, covers z pc = false ∨ (z.catchType ≠ 0 ∧ ∃ nm : String, Cond.classLink y.1.cls z.catchType nm ∈ z_tbl ∧ (E, nm) ∈ z_ncs)) ∧ covers x pc = true ∧ x.catchType ≠ 0 ∧ Cond.classLink y.1.cls x.catchType name ∈ z_tbl ∧ Cond.castable E name ∈ z_nst ∧ x.handlerPc = tgt
/-- the exception is forgotten: 'astore' -/
def z_as (y : z_M) (tgt nx : Nat) : Prop := (∃ i : Nat, decode y.2.1 tgt = .ok (.astore i, 2) ∧ i < y.2.2.1 ∧ nx = tgt + 2) ∨ ∃ k : Fin 4, decode y.2.1 tgt = .ok (.astore_n k, 1) ∧ (k : Nat) < y.2.2.1 ∧ nx = tgt + 1
theorem z_runT {S : z_S} {p : Program} {e : Env} {s : State} {m : MethodId} {args : Array Value} {below : List Frame} {meth : Method} {c : Code} {R0 R : z_R} {H : Heap} {locs : List Loc} {ls : Array Slot} {cst crest rest : List Value} {a9 : Array Value} {mc' ms' : Nat} {Q' : Option Value → z_W → Prop} {X' : String → z_W → Prop} (hok : z_ok G l y S p s m args meth c R0) (hat : z_at G S R0 s R w H locs) (hlo : z_lo G R w lo ls c.maxLocals) (hrest : z_L (z_V G R w) rest crest)
    (hr : vx_Run p l e (z_rm S.1 S.2.1 S.2.2.1) s m args below meth c H locs kc ks mc' ms' (F0 m pc ls cst) crest (z_Qc G R w Q' a9) (z_Xc G R w X') (fun q => z_b G ≤ q))
    (hx : ∀ E w', X' E w' → ∃ tgt nx : Nat, z_hd y pc E tgt ∧ z_as y tgt nx ∧ z_J G l y S nx [] [] w' (kc + mc') (ks + ms'))
    (kk : ∀ v w', Q' v w' → z_J G l y S (pc + 3) lo (v.toList ++ rest) w' (kc + mc') (ks + ms')) : W p l e (z_rm S.1 S.2.1 S.2.2.1) s m args below meth c H locs kc ks (vx_MQ below (z_Qc G R0 S.2.2.2.1 S.2.2.2.2.1) (z_Xc G R0 S.2.2.2.1 S.2.2.2.2.2) args s S.2.1 S.2.2.1 (fun q => z_b G ≤ q)) (F0 m pc ls cst) := by
  intro T hT X
  rcases hr T hT X with ⟨v, st₀, t, T', L, h0, X9, hL, e1, e2, ⟨v', cv, R', w', ho, hO, hQ, hP, hTT, hF⟩, go⟩ | ⟨q9, st₀, t, T', L, E, ce, h0, X9, hL, e1, e2, ⟨R', w', hXE, hP, hTT, hF⟩, hce, hcv, hcl, go⟩
  · cases ho
    have hat' := z_after hat h0 e1 hL hP hTT hF
    obtain ⟨t2, a1, b1⟩ := kk v' w' hQ p e s m args below meth c R0 hok R' T'.heap (locs ++ L) ls (v.toList ++ crest) hat' (z_lom hTT.V hlo) (z_Oc hO (z_Lm hTT.V hrest)) T' rfl X9
    exact ⟨t2, go t2 a1, b1⟩
  · have hat' := z_after hat h0 e1 hL hP hTT hF
    obtain ⟨tgt, nx, ⟨pre, x, suf, name, t1, t2, t3, t4, t5, t6, t7⟩, da, hJ⟩ := hx E w' hXE
    have hts := hok.2.2.2.2.2.2.1
    have henv := hok.2.2.2.2.2.2.2.1
    subst t7
    have hk : W p l e (z_rm S.1 S.2.1 S.2.2.1) s m args below meth c T'.heap (locs ++ L) (kc + mc') (ks + ms') (vx_MQ below (z_Qc G R0 S.2.2.2.1 S.2.2.2.2.1) (z_Xc G R0 S.2.2.2.1 S.2.2.2.2.2) args s S.2.1 S.2.2.1 (fun q => z_b G ≤ q)) (F0 m x.handlerPc ls [.ref q9]) := by
      obtain ⟨clo, hlv, -⟩ := hlo
      rcases da with ⟨i, da, hin, rfl⟩ | ⟨k, da, hin, rfl⟩
      · refine lv_astore hok.1 hok.2.1 da hlv (by rw [hok.2.2.1]; exact hin) rfl (fun ls' hls => ?_)
        exact hJ p e s m args below meth c R0 hok R' T'.heap (locs ++ L) ls' [] hat' ⟨[], ⟨hls.1, hls.2.1, fun q hq => by cases hq⟩, trivial⟩ trivial
      · refine lv_astore_n hok.1 hok.2.1 da rfl hlv (by rw [hok.2.2.1]; exact hin) rfl (fun ls' hls => ?_)
        exact hJ p e s m args below meth c R0 hok R' T'.heap (locs ++ L) ls' [] hat' ⟨[], ⟨hls.1, hls.2.1, fun q hq => by cases hq⟩, trivial⟩ trivial
    have h9 := vx_catch (p := p) (l := l) (e := e) (R := z_rm S.1 S.2.1 S.2.2.1) (s := s) (m := m) (args := args) (below := below) (meth := meth) (c := c) (H := T'.heap) (locs := locs ++ L) (cells := kc + mc') (slots := ks + ms') (ls := ls) (rest := crest) (pc := pc) (own := y.1.cls) (name := name) (E := E) (ce := ce) (q := q9) hok.2.2.2.2.2.1 pre x suf (hok.2.2.2.2.2.2.2.2.2.2.1.trans t1)
      (fun z hz => (t2 z hz).imp id (fun ⟨z0, nm, z1, z2⟩ => ⟨z0, nm, hts _ z1, henv.2.2.2.2.1.1 _ z2⟩)) t3 t4 (hts _ t5) (va_Nw.use rfl (henv.2.2.1 _ t6)) (by rw [e1]; exact hce) hcv hcl hk
    obtain ⟨t9, a1, b1⟩ := h9 T' rfl X9
    exact ⟨t9, go.trans a1, b1⟩
/-- a call that may throw, in the range of a handler that forgets the exception: 'astore i' -/
theorem j_tryV {idx np rk' mc' ms' : Nat} {y' : z_M} {as rest : List Value} {Q' : Option Value → z_W → Prop} {X' : String → z_W → Prop} {a ci : Nat} {fs : List Value} {q : vw_C} (hd : decode y.2.1 pc = .ok (.invokevirtual idx, 3)) (hm : z_okm y' np) (hl : Cond.methodLink y.1.cls idx y'.1 ∈ z_tbl) (hi : Cond.instanceMethod y'.1 ∈ z_tbl) (hse : Cond.selects q.1 y'.1 y'.1 ∈ z_tbl) (hg : z_g w a = some (.inr (ci, fs))) (hq : z_cls[ci]? = some q) (hc : z_Con G l y' rk' mc' ms' w (.ref a :: as) Q' X') (hrk : rk' + 1 ≤ S.1) (hcs : kc + mc' ≤ S.2.1 ∧ ks + ms' ≤ S.2.2.1) (hstk : st = as.reverse ++ .ref a :: rest) (hW : z_cat rest ≤ 8) (hn : as.length = np)
    (hx : ∀ E w', X' E w' → ∃ tgt nx : Nat, z_hd y pc E tgt ∧ z_as y tgt nx ∧ z_J G l y S nx [] [] w' (kc + mc') (ks + ms')) (kk : ∀ v w', Q' v w' → z_J G l y S (pc + 3) lo (v.toList ++ rest) w' (kc + mc') (ks + ms')) : z_J G l y S pc lo st w kc ks := by
  intro p e s m args below meth c R0 hok R H locs ls cst hat hlo hst
  subst hstk
  obtain ⟨b1, c2, rfl, hb1, hst⟩ := z_Lapp hst
  obtain ⟨c1, crest, rfl, h1, hrest⟩ := z_Lc hst
  have h1' := h1.2
  subst h1'
  have hAs := z_Lrev hb1
  rw [List.reverse_reverse] at hAs
  exact z_runT hok hat hlo hrest (vx_runV (C := q.1) (As := b1.reverse) ⟨hok.1, hok.2.1, rfl, hok.2.2.2.2.2.1, hok.2.2.2.2.2.2.1⟩ (hc R) ⟨z_CB hok.2.2.2.2.2.2.1 hm hrk hl, hok.2.2.2.2.2.2.1 _ hi, hok.2.2.2.2.2.2.1 _ hse⟩ ⟨z_Pc_blind, z_recv hok hat hg hq, fun U hU hW9 => z_pre hok hat (av := .ref a :: as) (cav := .ref (R.1 a) :: b1.reverse) ⟨h1, hAs⟩ U hU hW9⟩ rfl (by rw [z_Ll hAs]; exact hn) hlo.choose_spec.1.1 (by rw [List.reverse_reverse]) (lv_room (by rw [z_Lcs hrest]; exact hW)) hd hcs) hx kk
/-- the script -/
theorem j_slen (hd : decode y.2.1 pc = .ok (.arraylength, 1)) (h : z_J G l y S (pc + 1) lo (.int (nI (z_sn G)) :: st) w kc ks) : z_J G l y S pc lo (.retAddr 8 :: st) w kc ks := by
  intro p e s m args below meth c R0 hok R H locs ls cst hat hlo hst
  obtain ⟨c1, cs1, rfl, ⟨q, h1, hk⟩, hst1⟩ := z_Lc hst
  subst h1
  obtain ⟨f, hf, -⟩ := hok.2.2.2.2.2.2.2.1.2.2.2.2.1.2 q hk
  obtain ⟨cell, a1, a2, a3, a4, a5, -⟩ := hf.kept (z_fS hok hat).2.1
  exact W.alen (n := Int32.ofNat (z_sn G)) hok.1 hok.2.1 a1 a2 a5 rfl rfl hd (h p e s m args below meth c R0 hok R H locs ls _ hat hlo ⟨rfl, hst1⟩)
theorem j_sld {k : Nat} (hd : decode y.2.1 pc = .ok (.iaload, 1)) (hk : k < z_sn G) (hN : z_sn G < 2147483648) (h : z_J G l y S (pc + 1) lo (.int (z_sc G k) :: st) w kc ks) : z_J G l y S pc lo (.int (nI k) :: .retAddr 8 :: st) w kc ks := by
  intro p e9 s m args below meth c R0 hok R H locs ls cst hat hlo hst
  obtain ⟨c0, cs0, rfl, h0, hst0⟩ := z_Lc hst
  have h0 : c0 = .int (nI k) := h0
  subst h0
  obtain ⟨c1, cs1, rfl, ⟨q, h1, hk0⟩, hst1⟩ := z_Lc hst0
  subst h1
  obtain ⟨f, hf, hx⟩ := hok.2.2.2.2.2.2.2.1.2.2.2.2.1.2 q hk0
  obtain ⟨cell, a1, a2, a3, a4, a5, a6, -⟩ := hf.kept (z_fS hok hat).2.1
  have e0 : (nI k).toNatClampNeg = k := z_cla (by omega)
  have hlt : (nI k).toNatClampNeg < z_sn G := by rw [e0]; exact hk
  have e : f (nI k).toNatClampNeg = .int (z_sc G k) := by rw [e0]; exact hx k hk
  exact W.iald hok.1 hok.2.1 a1 a2 a3 (z_clt (vp_in_nI hk hN) a4) (by rw [a6 _ hlt, e]) rfl rfl hd (h p e9 s m args below meth c R0 hok R H locs ls _ hat hlo ⟨rfl, hst1⟩)
theorem z_sw47 (x : Int32) : x = (0 : Int32) ∨ x = (1 : Int32) ∨ x = (2 : Int32) ∨ x = (3 : Int32) ∨ x = (4 : Int32) ∨ x = (5 : Int32) ∨ x = (6 : Int32) ∨ x = (7 : Int32) ∨ x = (8 : Int32) ∨ x = (9 : Int32) ∨ x = (10 : Int32) ∨ x = (11 : Int32) ∨ x = (12 : Int32) ∨ x = (13 : Int32) ∨ x = (14 : Int32) ∨ x = (15 : Int32) ∨ x = (16 : Int32) ∨ x = (17 : Int32) ∨ x = (18 : Int32) ∨ x = (19 : Int32) ∨ x = (20 : Int32) ∨ x = (21 : Int32) ∨ x = (22 : Int32) ∨ x = (23 : Int32) ∨ x = (24 : Int32) ∨ x = (25 : Int32) ∨ x = (26 : Int32) ∨ x = (27 : Int32) ∨ x = (28 : Int32) ∨ x = (29 : Int32) ∨ x = (30 : Int32) ∨ x = (31 : Int32) ∨ x = (32 : Int32) ∨ x = (33 : Int32) ∨ x = (34 : Int32) ∨ x = (35 : Int32) ∨ x = (36 : Int32) ∨ x = (37 : Int32) ∨ x = (38 : Int32) ∨ x = (39 : Int32) ∨ x = (40 : Int32) ∨ x = (41 : Int32) ∨ x = (42 : Int32) ∨ x = (43 : Int32) ∨ x = (44 : Int32) ∨ x = (45 : Int32) ∨ x = (46 : Int32) ∨ (x.toInt < 0 ∨ 46 < x.toInt) := by
  by_cases h0 : x.toInt = (0 : Nat)
  · exact Or.inl (z_swE h0 (by decide))
  by_cases h1 : x.toInt = (1 : Nat)
  · exact Or.inr (Or.inl (z_swE h1 (by decide)))
  by_cases h2 : x.toInt = (2 : Nat)
  · exact Or.inr (Or.inr (Or.inl (z_swE h2 (by decide))))
  by_cases h3 : x.toInt = (3 : Nat)
  · exact Or.inr (Or.inr (Or.inr (Or.inl (z_swE h3 (by decide)))))
  by_cases h4 : x.toInt = (4 : Nat)
  · exact Or.inr (Or.inr (Or.inr (Or.inr (Or.inl (z_swE h4 (by decide))))))
  by_cases h5 : x.toInt = (5 : Nat)
  · exact Or.inr (Or.inr (Or.inr (Or.inr (Or.inr (Or.inl (z_swE h5 (by decide)))))))
  by_cases h6 : x.toInt = (6 : Nat)
  · exact Or.inr (Or.inr (Or.inr (Or.inr (Or.inr (Or.inr (Or.inl (z_swE h6 (by decide))))))))
  by_cases h7 : x.toInt = (7 : Nat)
  · exact Or.inr (Or.inr (Or.inr (Or.inr (Or.inr (Or.inr (Or.inr (Or.inl (z_swE h7 (by decide)))))))))
  by_cases h8 : x.toInt = (8 : Nat)
  · exact Or.inr (Or.inr (Or.inr (Or.inr (Or.inr (Or.inr (Or.inr (Or.inr (Or.inl (z_swE h8 (by decide))))))))))
  by_cases h9 : x.toInt = (9 : Nat)
  · exact Or.inr (Or.inr (Or.inr (Or.inr (Or.inr (Or.inr (Or.inr (Or.inr (Or.inr (Or.inl (z_swE h9 (by decide)))))))))))
  by_cases h10 : x.toInt = (10 : Nat)
  · exact Or.inr (Or.inr (Or.inr (Or.inr (Or.inr (Or.inr (Or.inr (Or.inr (Or.inr (Or.inr (Or.inl (z_swE h10 (by decide))))))))))))
  by_cases h11 : x.toInt = (11 : Nat)
  · exact Or.inr (Or.inr (Or.inr (Or.inr (Or.inr (Or.inr (Or.inr (Or.inr (Or.inr (Or.inr (Or.inr (Or.inl (z_swE h11 (by decide)))))))))))))
  by_cases h12 : x.toInt = (12 : Nat)
  · exact Or.inr (Or.inr (Or.inr (Or.inr (Or.inr (Or.inr (Or.inr (Or.inr (Or.inr (Or.inr (Or.inr (Or.inr (Or.inl (z_swE h12 (by decide))))))))))))))
  by_cases h13 : x.toInt = (13 : Nat)
  · exact Or.inr (Or.inr (Or.inr (Or.inr (Or.inr (Or.inr (Or.inr (Or.inr (Or.inr (Or.inr (Or.inr (Or.inr (Or.inr (Or.inl (z_swE h13 (by decide)))))))))))))))
  by_cases h14 : x.toInt = (14 : Nat)
  · exact Or.inr (Or.inr (Or.inr (Or.inr (Or.inr (Or.inr (Or.inr (Or.inr (Or.inr (Or.inr (Or.inr (Or.inr (Or.inr (Or.inr (Or.inl (z_swE h14 (by decide))))))))))))))))
  by_cases h15 : x.toInt = (15 : Nat)
  · exact Or.inr (Or.inr (Or.inr (Or.inr (Or.inr (Or.inr (Or.inr (Or.inr (Or.inr (Or.inr (Or.inr (Or.inr (Or.inr (Or.inr (Or.inr (Or.inl (z_swE h15 (by decide)))))))))))))))))
  by_cases h16 : x.toInt = (16 : Nat)
  · exact Or.inr (Or.inr (Or.inr (Or.inr (Or.inr (Or.inr (Or.inr (Or.inr (Or.inr (Or.inr (Or.inr (Or.inr (Or.inr (Or.inr (Or.inr (Or.inr (Or.inl (z_swE h16 (by decide))))))))))))))))))
  by_cases h17 : x.toInt = (17 : Nat)
  · exact Or.inr (Or.inr (Or.inr (Or.inr (Or.inr (Or.inr (Or.inr (Or.inr (Or.inr (Or.inr (Or.inr (Or.inr (Or.inr (Or.inr (Or.inr (Or.inr (Or.inr (Or.inl (z_swE h17 (by decide)))))))))))))))))))
  by_cases h18 : x.toInt = (18 : Nat)
  · exact Or.inr (Or.inr (Or.inr (Or.inr (Or.inr (Or.inr (Or.inr (Or.inr (Or.inr (Or.inr (Or.inr (Or.inr (Or.inr (Or.inr (Or.inr (Or.inr (Or.inr (Or.inr (Or.inl (z_swE h18 (by decide))))))))))))))))))))
  by_cases h19 : x.toInt = (19 : Nat)
  · exact Or.inr (Or.inr (Or.inr (Or.inr (Or.inr (Or.inr (Or.inr (Or.inr (Or.inr (Or.inr (Or.inr (Or.inr (Or.inr (Or.inr (Or.inr (Or.inr (Or.inr (Or.inr (Or.inr (Or.inl (z_swE h19 (by decide)))))))))))))))))))))
  by_cases h20 : x.toInt = (20 : Nat)
  · exact Or.inr (Or.inr (Or.inr (Or.inr (Or.inr (Or.inr (Or.inr (Or.inr (Or.inr (Or.inr (Or.inr (Or.inr (Or.inr (Or.inr (Or.inr (Or.inr (Or.inr (Or.inr (Or.inr (Or.inr (Or.inl (z_swE h20 (by decide))))))))))))))))))))))
  by_cases h21 : x.toInt = (21 : Nat)
  · exact Or.inr (Or.inr (Or.inr (Or.inr (Or.inr (Or.inr (Or.inr (Or.inr (Or.inr (Or.inr (Or.inr (Or.inr (Or.inr (Or.inr (Or.inr (Or.inr (Or.inr (Or.inr (Or.inr (Or.inr (Or.inr (Or.inl (z_swE h21 (by decide)))))))))))))))))))))))
  by_cases h22 : x.toInt = (22 : Nat)
  · exact Or.inr (Or.inr (Or.inr (Or.inr (Or.inr (Or.inr (Or.inr (Or.inr (Or.inr (Or.inr (Or.inr (Or.inr (Or.inr (Or.inr (Or.inr (Or.inr (Or.inr (Or.inr (Or.inr (Or.inr (Or.inr (Or.inr (Or.inl (z_swE h22 (by decide))))))))))))))))))))))))
  by_cases h23 : x.toInt = (23 : Nat)
  · exact Or.inr (Or.inr (Or.inr (Or.inr (Or.inr (Or.inr (Or.inr (Or.inr (Or.inr (Or.inr (Or.inr (Or.inr (Or.inr (Or.inr (Or.inr (Or.inr (Or.inr (Or.inr (Or.inr (Or.inr (Or.inr (Or.inr (Or.inr (Or.inl (z_swE h23 (by decide)))))))))))))))))))))))))
  by_cases h24 : x.toInt = (24 : Nat)
  · exact Or.inr (Or.inr (Or.inr (Or.inr (Or.inr (Or.inr (Or.inr (Or.inr (Or.inr (Or.inr (Or.inr (Or.inr (Or.inr (Or.inr (Or.inr (Or.inr (Or.inr (Or.inr (Or.inr (Or.inr (Or.inr (Or.inr (Or.inr (Or.inr (Or.inl (z_swE h24 (by decide))))))))))))))))))))))))))
  by_cases h25 : x.toInt = (25 : Nat)
  · exact Or.inr (Or.inr (Or.inr (Or.inr (Or.inr (Or.inr (Or.inr (Or.inr (Or.inr (Or.inr (Or.inr (Or.inr (Or.inr (Or.inr (Or.inr (Or.inr (Or.inr (Or.inr (Or.inr (Or.inr (Or.inr (Or.inr (Or.inr (Or.inr (Or.inr (Or.inl (z_swE h25 (by decide)))))))))))))))))))))))))))
  by_cases h26 : x.toInt = (26 : Nat)
  · exact Or.inr (Or.inr (Or.inr (Or.inr (Or.inr (Or.inr (Or.inr (Or.inr (Or.inr (Or.inr (Or.inr (Or.inr (Or.inr (Or.inr (Or.inr (Or.inr (Or.inr (Or.inr (Or.inr (Or.inr (Or.inr (Or.inr (Or.inr (Or.inr (Or.inr (Or.inr (Or.inl (z_swE h26 (by decide))))))))))))))))))))))))))))
  by_cases h27 : x.toInt = (27 : Nat)
  · exact Or.inr (Or.inr (Or.inr (Or.inr (Or.inr (Or.inr (Or.inr (Or.inr (Or.inr (Or.inr (Or.inr (Or.inr (Or.inr (Or.inr (Or.inr (Or.inr (Or.inr (Or.inr (Or.inr (Or.inr (Or.inr (Or.inr (Or.inr (Or.inr (Or.inr (Or.inr (Or.inr (Or.inl (z_swE h27 (by decide)))))))))))))))))))))))))))))
  by_cases h28 : x.toInt = (28 : Nat)
  · exact Or.inr (Or.inr (Or.inr (Or.inr (Or.inr (Or.inr (Or.inr (Or.inr (Or.inr (Or.inr (Or.inr (Or.inr (Or.inr (Or.inr (Or.inr (Or.inr (Or.inr (Or.inr (Or.inr (Or.inr (Or.inr (Or.inr (Or.inr (Or.inr (Or.inr (Or.inr (Or.inr (Or.inr (Or.inl (z_swE h28 (by decide))))))))))))))))))))))))))))))
  by_cases h29 : x.toInt = (29 : Nat)
  · exact Or.inr (Or.inr (Or.inr (Or.inr (Or.inr (Or.inr (Or.inr (Or.inr (Or.inr (Or.inr (Or.inr (Or.inr (Or.inr (Or.inr (Or.inr (Or.inr (Or.inr (Or.inr (Or.inr (Or.inr (Or.inr (Or.inr (Or.inr (Or.inr (Or.inr (Or.inr (Or.inr (Or.inr (Or.inr (Or.inl (z_swE h29 (by decide)))))))))))))))))))))))))))))))
  by_cases h30 : x.toInt = (30 : Nat)
  · exact Or.inr (Or.inr (Or.inr (Or.inr (Or.inr (Or.inr (Or.inr (Or.inr (Or.inr (Or.inr (Or.inr (Or.inr (Or.inr (Or.inr (Or.inr (Or.inr (Or.inr (Or.inr (Or.inr (Or.inr (Or.inr (Or.inr (Or.inr (Or.inr (Or.inr (Or.inr (Or.inr (Or.inr (Or.inr (Or.inr (Or.inl (z_swE h30 (by decide))))))))))))))))))))))))))))))))
  by_cases h31 : x.toInt = (31 : Nat)
  · exact Or.inr (Or.inr (Or.inr (Or.inr (Or.inr (Or.inr (Or.inr (Or.inr (Or.inr (Or.inr (Or.inr (Or.inr (Or.inr (Or.inr (Or.inr (Or.inr (Or.inr (Or.inr (Or.inr (Or.inr (Or.inr (Or.inr (Or.inr (Or.inr (Or.inr (Or.inr (Or.inr (Or.inr (Or.inr (Or.inr (Or.inr (Or.inl (z_swE h31 (by decide)))))))))))))))))))))))))))))))))
  by_cases h32 : x.toInt = (32 : Nat)
  · exact Or.inr (Or.inr (Or.inr (Or.inr (Or.inr (Or.inr (Or.inr (Or.inr (Or.inr (Or.inr (Or.inr (Or.inr (Or.inr (Or.inr (Or.inr (Or.inr (Or.inr (Or.inr (Or.inr (Or.inr (Or.inr (Or.inr (Or.inr (Or.inr (Or.inr (Or.inr (Or.inr (Or.inr (Or.inr (Or.inr (Or.inr (Or.inr (Or.inl (z_swE h32 (by decide))))))))))))))))))))))))))))))))))
  by_cases h33 : x.toInt = (33 : Nat)
  · exact Or.inr (Or.inr (Or.inr (Or.inr (Or.inr (Or.inr (Or.inr (Or.inr (Or.inr (Or.inr (Or.inr (Or.inr (Or.inr (Or.inr (Or.inr (Or.inr (Or.inr (Or.inr (Or.inr (Or.inr (Or.inr (Or.inr (Or.inr (Or.inr (Or.inr (Or.inr (Or.inr (Or.inr (Or.inr (Or.inr (Or.inr (Or.inr (Or.inr (Or.inl (z_swE h33 (by decide)))))))))))))))))))))))))))))))))))
  by_cases h34 : x.toInt = (34 : Nat)
  · exact Or.inr (Or.inr (Or.inr (Or.inr (Or.inr (Or.inr (Or.inr (Or.inr (Or.inr (Or.inr (Or.inr (Or.inr (Or.inr (Or.inr (Or.inr (Or.inr (Or.inr (Or.inr (Or.inr (Or.inr (Or.inr (Or.inr (Or.inr (Or.inr (Or.inr (Or.inr (Or.inr (Or.inr (Or.inr (Or.inr (Or.inr (Or.inr (Or.inr (Or.inr (Or.inl (z_swE h34 (by decide))))))))))))))))))))))))))))))))))))
  by_cases h35 : x.toInt = (35 : Nat)
  · exact Or.inr (Or.inr (Or.inr (Or.inr (Or.inr (Or.inr (Or.inr (Or.inr (Or.inr (Or.inr (Or.inr (Or.inr (Or.inr (Or.inr (Or.inr (Or.inr (Or.inr (Or.inr (Or.inr (Or.inr (Or.inr (Or.inr (Or.inr (Or.inr (Or.inr (Or.inr (Or.inr (Or.inr (Or.inr (Or.inr (Or.inr (Or.inr (Or.inr (Or.inr (Or.inr (Or.inl (z_swE h35 (by decide)))))))))))))))))))))))))))))))))))))
  by_cases h36 : x.toInt = (36 : Nat)
  · exact Or.inr (Or.inr (Or.inr (Or.inr (Or.inr (Or.inr (Or.inr (Or.inr (Or.inr (Or.inr (Or.inr (Or.inr (Or.inr (Or.inr (Or.inr (Or.inr (Or.inr (Or.inr (Or.inr (Or.inr (Or.inr (Or.inr (Or.inr (Or.inr (Or.inr (Or.inr (Or.inr (Or.inr (Or.inr (Or.inr (Or.inr (Or.inr (Or.inr (Or.inr (Or.inr (Or.inr (Or.inl (z_swE h36 (by decide))))))))))))))))))))))))))))))))))))))
  by_cases h37 : x.toInt = (37 : Nat)
  · exact Or.inr (Or.inr (Or.inr (Or.inr (Or.inr (Or.inr (Or.inr (Or.inr (Or.inr (Or.inr (Or.inr (Or.inr (Or.inr (Or.inr (Or.inr (Or.inr (Or.inr (Or.inr (Or.inr (Or.inr (Or.inr (Or.inr (Or.inr (Or.inr (Or.inr (Or.inr (Or.inr (Or.inr (Or.inr (Or.inr (Or.inr (Or.inr (Or.inr (Or.inr (Or.inr (Or.inr (Or.inr (Or.inl (z_swE h37 (by decide)))))))))))))))))))))))))))))))))))))))
  by_cases h38 : x.toInt = (38 : Nat)
  · exact Or.inr (Or.inr (Or.inr (Or.inr (Or.inr (Or.inr (Or.inr (Or.inr (Or.inr (Or.inr (Or.inr (Or.inr (Or.inr (Or.inr (Or.inr (Or.inr (Or.inr (Or.inr (Or.inr (Or.inr (Or.inr (Or.inr (Or.inr (Or.inr (Or.inr (Or.inr (Or.inr (Or.inr (Or.inr (Or.inr (Or.inr (Or.inr (Or.inr (Or.inr (Or.inr (Or.inr (Or.inr (Or.inr (Or.inl (z_swE h38 (by decide))))))))))))))))))))))))))))))))))))))))
  by_cases h39 : x.toInt = (39 : Nat)
  · exact Or.inr (Or.inr (Or.inr (Or.inr (Or.inr (Or.inr (Or.inr (Or.inr (Or.inr (Or.inr (Or.inr (Or.inr (Or.inr (Or.inr (Or.inr (Or.inr (Or.inr (Or.inr (Or.inr (Or.inr (Or.inr (Or.inr (Or.inr (Or.inr (Or.inr (Or.inr (Or.inr (Or.inr (Or.inr (Or.inr (Or.inr (Or.inr (Or.inr (Or.inr (Or.inr (Or.inr (Or.inr (Or.inr (Or.inr (Or.inl (z_swE h39 (by decide)))))))))))))))))))))))))))))))))))))))))
  by_cases h40 : x.toInt = (40 : Nat)
  · exact Or.inr (Or.inr (Or.inr (Or.inr (Or.inr (Or.inr (Or.inr (Or.inr (Or.inr (Or.inr (Or.inr (Or.inr (Or.inr (Or.inr (Or.inr (Or.inr (Or.inr (Or.inr (Or.inr (Or.inr (Or.inr (Or.inr (Or.inr (Or.inr (Or.inr (Or.inr (Or.inr (Or.inr (Or.inr (Or.inr (Or.inr (Or.inr (Or.inr (Or.inr (Or.inr (Or.inr (Or.inr (Or.inr (Or.inr (Or.inr (Or.inl (z_swE h40 (by decide))))))))))))))))))))))))))))))))))))))))))
  by_cases h41 : x.toInt = (41 : Nat)
  · exact Or.inr (Or.inr (Or.inr (Or.inr (Or.inr (Or.inr (Or.inr (Or.inr (Or.inr (Or.inr (Or.inr (Or.inr (Or.inr (Or.inr (Or.inr (Or.inr (Or.inr (Or.inr (Or.inr (Or.inr (Or.inr (Or.inr (Or.inr (Or.inr (Or.inr (Or.inr (Or.inr (Or.inr (Or.inr (Or.inr (Or.inr (Or.inr (Or.inr (Or.inr (Or.inr (Or.inr (Or.inr (Or.inr (Or.inr (Or.inr (Or.inr (Or.inl (z_swE h41 (by decide)))))))))))))))))))))))))))))))))))))))))))
  by_cases h42 : x.toInt = (42 : Nat)
  · exact Or.inr (Or.inr (Or.inr (Or.inr (Or.inr (Or.inr (Or.inr (Or.inr (Or.inr (Or.inr (Or.inr (Or.inr (Or.inr (Or.inr (Or.inr (Or.inr (Or.inr (Or.inr (Or.inr (Or.inr (Or.inr (Or.inr (Or.inr (Or.inr (Or.inr (Or.inr (Or.inr (Or.inr (Or.inr (Or.inr (Or.inr (Or.inr (Or.inr (Or.inr (Or.inr (Or.inr (Or.inr (Or.inr (Or.inr (Or.inr (Or.inr (Or.inr (Or.inl (z_swE h42 (by decide))))))))))))))))))))))))))))))))))))))))))))
  by_cases h43 : x.toInt = (43 : Nat)
  · exact Or.inr (Or.inr (Or.inr (Or.inr (Or.inr (Or.inr (Or.inr (Or.inr (Or.inr (Or.inr (Or.inr (Or.inr (Or.inr (Or.inr (Or.inr (Or.inr (Or.inr (Or.inr (Or.inr (Or.inr (Or.inr (Or.inr (Or.inr (Or.inr (Or.inr (Or.inr (Or.inr (Or.inr (Or.inr (Or.inr (Or.inr (Or.inr (Or.inr (Or.inr (Or.inr (Or.inr (Or.inr (Or.inr (Or.inr (Or.inr (Or.inr (Or.inr (Or.inr (Or.inl (z_swE h43 (by decide)))))))))))))))))))))))))))))))))))))))))))))
  by_cases h44 : x.toInt = (44 : Nat)
  · exact Or.inr (Or.inr (Or.inr (Or.inr (Or.inr (Or.inr (Or.inr (Or.inr (Or.inr (Or.inr (Or.inr (Or.inr (Or.inr (Or.inr (Or.inr (Or.inr (Or.inr (Or.inr (Or.inr (Or.inr (Or.inr (Or.inr (Or.inr (Or.inr (Or.inr (Or.inr (Or.inr (Or.inr (Or.inr (Or.inr (Or.inr (Or.inr (Or.inr (Or.inr (Or.inr (Or.inr (Or.inr (Or.inr (Or.inr (Or.inr (Or.inr (Or.inr (Or.inr (Or.inr (Or.inl (z_swE h44 (by decide))))))))))))))))))))))))))))))))))))))))))))))
  by_cases h45 : x.toInt = (45 : Nat)
  · exact Or.inr (Or.inr (Or.inr (Or.inr (Or.inr (Or.inr (Or.inr (Or.inr (Or.inr (Or.inr (Or.inr (Or.inr (Or.inr (Or.inr (Or.inr (Or.inr (Or.inr (Or.inr (Or.inr (Or.inr (Or.inr (Or.inr (Or.inr (Or.inr (Or.inr (Or.inr (Or.inr (Or.inr (Or.inr (Or.inr (Or.inr (Or.inr (Or.inr (Or.inr (Or.inr (Or.inr (Or.inr (Or.inr (Or.inr (Or.inr (Or.inr (Or.inr (Or.inr (Or.inr (Or.inr (Or.inl (z_swE h45 (by decide)))))))))))))))))))))))))))))))))))))))))))))))
  by_cases h46 : x.toInt = (46 : Nat)
  · exact Or.inr (Or.inr (Or.inr (Or.inr (Or.inr (Or.inr (Or.inr (Or.inr (Or.inr (Or.inr (Or.inr (Or.inr (Or.inr (Or.inr (Or.inr (Or.inr (Or.inr (Or.inr (Or.inr (Or.inr (Or.inr (Or.inr (Or.inr (Or.inr (Or.inr (Or.inr (Or.inr (Or.inr (Or.inr (Or.inr (Or.inr (Or.inr (Or.inr (Or.inr (Or.inr (Or.inr (Or.inr (Or.inr (Or.inr (Or.inr (Or.inr (Or.inr (Or.inr (Or.inr (Or.inr (Or.inr (Or.inl (z_swE h46 (by decide))))))))))))))))))))))))))))))))))))))))))))))))
  exact Or.inr (Or.inr (Or.inr (Or.inr (Or.inr (Or.inr (Or.inr (Or.inr (Or.inr (Or.inr (Or.inr (Or.inr (Or.inr (Or.inr (Or.inr (Or.inr (Or.inr (Or.inr (Or.inr (Or.inr (Or.inr (Or.inr (Or.inr (Or.inr (Or.inr (Or.inr (Or.inr (Or.inr (Or.inr (Or.inr (Or.inr (Or.inr (Or.inr (Or.inr (Or.inr (Or.inr (Or.inr (Or.inr (Or.inr (Or.inr (Or.inr (Or.inr (Or.inr (Or.inr (Or.inr (Or.inr (Or.inr ((by omega))))))))))))))))))))))))))))))))))))))))))))))))
theorem z_genV {x : Int32} (h : ∀ z : Int32, z_J G l y S pc lo (.int z :: st) w kc ks) : z_J G l y S pc lo (.int x :: st) w kc ks := h x
/-- what a call of a wrapper, of the class or of the model leaves of the law's state -/
def z_hm (w w9 : z_W) : Prop := (∀ n, 1000 ≤ n → n % 64 < 56 → z_g w9 n = z_g w n) ∧ (z_fn w → z_fn w9)
theorem z_mst.hm {s : z_Z} (h : z_mst w s) (hw : z_hm w w') : z_mst w' s := by
  obtain ⟨h0, h1, h2, h3, ⟨f4, h4, h4'⟩, h5, h6, ⟨f7, h7, h7'⟩, h8, h9, h10, h11, h12⟩ := h
  have k : ∀ r, r < 56 → ∀ n, 1000 ≤ n → n % 64 = r → z_g w' n = z_g w n := fun r hr n h9 hn => hw.1 n h9 (by omega)
  exact ⟨hw.2 h0, (k 40 (by omega) 1000 (by omega) (by omega)).trans h1, z_li.m (k 41 (by omega)) h2, (k 42 (by omega) 1002 (by omega) (by omega)).trans h3, ⟨f4, (k 43 (by omega) 1003 (by omega) (by omega)).trans h4, h4'⟩, fun i hi => (k (44 + i) (by omega) (1004 + i) (by omega) (by omega)).trans (h5 i hi), z_li.m (k 47 (by omega)) h6, ⟨f7, (k 48 (by omega) 1008 (by omega) (by omega)).trans h7, h7'⟩, fun i hi => (k (49 + i) (by omega) (1009 + i) (by omega) (by omega)).trans (h8 i hi), fun t ht => z_li.m (k (51 + t) (by omega)) (h9 t ht), fun i hi => ⟨z_li.m (k (54 + i) (by omega)) (h10 i hi).1, (h10 i hi).2⟩, fun i hi => ⟨z_li.m (k (11 + i) (by omega)) (h11 i hi).1, (h11 i hi).2⟩, fun t ht => z_pr.m (k (14 + t) (by omega)) (h12 t ht)⟩
/-- between two calls of the law: the class, the model, the same knocks, the answer's place x -/
def z_LS (x : Nat) (kn : Int32) (w : z_W) : Prop := z_Wn kn w.1 ∧ (∃ s, z_mst w s ∧ s.1.2.2 = kn) ∧ (∃ (n : Int64) (v : Value), z_g w x = some (.inr (13, [.long n, v]))) ∧ 1000 ≤ x ∧ x % 64 = 60
theorem z_LS.cls {x : Nat} {kn : Int32} {w w9 : z_W} (h : z_LS x kn w) (h1 : z_Wn kn w9.1) (h2 : z_hi w w9) : z_LS x kn w9 := by
  obtain ⟨-, ⟨s, hs, hk⟩, ⟨n, v, hg⟩, hx, hx2⟩ := h
  exact ⟨h1, ⟨s, hs.hi h2, hk⟩, ⟨n, v, (h2.1 x hx (Or.inr (by omega))).trans hg⟩, hx, hx2⟩
theorem z_LS.out {x : Nat} {kn : Int32} {w w9 : z_W} {n : Int64} {v : Value} (h : z_LS x kn w) (u : z_up w x (.inr (13, [.long n, v])) w9) : z_LS x kn w9 := by
  obtain ⟨hW, ⟨s, hs, hk⟩, -, hx, hx2⟩ := h
  exact ⟨by rw [u.2.2.1]; exact hW, ⟨s, hs.hm ⟨fun m h1 h2 => u.2.1 m (fun z => by omega), u.2.2.2⟩, hk⟩, ⟨n, v, u.1⟩, hx, hx2⟩
theorem z_LS.x1 {x : Nat} {kn : Int32} {w : z_W} (h : z_LS x kn w) : 1000 ≤ x := h.2.2.2.1
theorem z_LS.fn {x : Nat} {kn : Int32} {w : z_W} (h : z_LS x kn w) : z_fn w := by
  obtain ⟨-, ⟨s, hs, -⟩, -⟩ := h
  exact hs.fn
theorem z_LS.rc {x : Nat} {kn : Int32} {w : z_W} (h : z_LS x kn w) : ∃ fs, z_g w 0 = some (.inr (12, fs)) := by
  obtain ⟨⟨xa, xb, b0, b1, rf, ma, fa, ca, mb, fb, cb, mt, xt, ft, ct, f0, g0, c0, m0, s0, f1, g1, c1, m1, s1, f2, g2, c2, m2, s2, f3, g3, c3, m3, s3, f4, g4, c4, m4, s4, f5, g5, c5, m5, s5, ek0, em0, es0, el0, ef0, ek1, em1, es1, el1, ef1, -, -, -, -, -, -, hL⟩, -⟩ := h
  exact ⟨_, z_g1 hL (by decide) rfl⟩
end ZLawR
