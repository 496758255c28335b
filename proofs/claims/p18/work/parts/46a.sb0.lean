section ZSb0
variable {G : z_G} {l : Launch} {y : z_M} {S : z_S} {pc : Nat} {lo : List (Nat × Value)} {st : List Value} {w w' : z_W} {kc ks : Nat}
def z_by (f : Nat → Value) : Prop := ∀ j, ∃ x, f j = .int x ∧ fits .byte (.int x) = true
theorem j_clone {idx a n N : Nat} {f : Nat → Value} (hd : decode y.2.1 pc = .ok (.invokevirtual idx, 3)) (hl : Cond.methodLink y.1.cls idx ⟨"[B", "clone", "()Ljava/lang/Object;"⟩ ∈ z_tbl) (hsm : Cond.sameMethod "[B" "java/lang/Object" "clone" "()Ljava/lang/Object;" ∈ z_tbl)
    (hnat : Cond.native ⟨"java/lang/Object", "clone", "()Ljava/lang/Object;"⟩ ∈ z_tbl) (hinst : Cond.instanceMethod ⟨"java/lang/Object", "clone", "()Ljava/lang/Object;"⟩ ∈ z_tbl) (hsel : Cond.selects "[B" ⟨"[B", "clone", "()Ljava/lang/Object;"⟩ ⟨"java/lang/Object", "clone", "()Ljava/lang/Object;"⟩ ∈ z_tbl) (hcl : Cond.castable "[B" "java/lang/Cloneable" ∈ z_nst)
    (hg : z_g w a = some (.inl (2, N, f))) (hf : z_by f) (hw : z_g w n = none ∧ z_al w n (.inl (2, N, f)) w') (hrk : 1 ≤ S.1) (hW : z_cat st ≤ 8) (hc : kc + 1 ≤ S.2.1) (hs : ks + N ≤ S.2.2.1)
    (h : z_J G l y S (pc + 3) lo (.ref n :: st) w' (kc + 1) (ks + N)) : z_J G l y S pc lo (.ref a :: st) w kc ks := by
  intro p e s m args below meth c R0 hok R H locs ls cst hat hlo hst
  obtain ⟨c0, cs0, rfl, ⟨-, h0⟩, hst1⟩ := z_Lc hst
  subst h0
  obtain ⟨z, z1, z2⟩ := (hat.1.1 a _ hg).1
  have hz : ∀ j, j < N → ∃ x, z j = .int x ∧ f j = .int x ∧ fits .byte (.int x) = true := fun j hj => by
    obtain ⟨x, ex, hx⟩ := hf j
    have h9 : z_V G R w (f j) (z j) := z2 j hj
    rw [ex] at h9
    exact ⟨x, h9, ex, hx⟩
  have hok2 := hok
  obtain ⟨hx, hb, -, -, -, hown, hts, henv, -, hbs, -⟩ := hok2
  obtain ⟨hA, hRA⟩ := henv.2.1 2 _ rfl
  have hnm : s.vm.findClass "[B" = some (z_dA G 2) := va_nm_byte hRA
  obtain ⟨c9, t9, f1, f2, f3⟩ := Cond.castable_spec (va_Nw.use (A := args) rfl (henv.2.2.1 _ hcl))
  cases hnm.symm.trans f1
  have hsz := hlo.choose_spec.1.1
  have h8 : (cs0.map fun v => v.category).sum ≤ 8 := by rw [z_Lcs hst1]; exact hW
  have h40 : 40 ≤ (z_rm S.1 S.2.1 S.2.2.1).locals := by show 40 ≤ 40 * S.1; omega
  have hX : z_X G ((fun m => if m = n then H.size else R.1 m), R.2) w' (.inl (2, N, f)) H.size (H.push (arrV (z_dA G 2) N z)) := ⟨z, Array.getElem?_push_size, fun j hj => by
    obtain ⟨x, e1, e2, -⟩ := hz j hj
    show z_V G _ w' (f j) (z j)
    rw [e1, e2]
    exact rfl⟩
  have hV := z_Va (G := G) (R := R) (q := H.size) hw.1 hw.2
  have hat' := z_alloc hbs hat hw.1 hw.2 (H' := H.push (arrV (z_dA G 2) N z)) (Array.size_push _) (fun q hq => by rw [Array.getElem?_push, if_neg (Nat.ne_of_lt hq)]) hX
  have hr : z_V G ((fun m => if m = n then H.size else R.1 m), R.2) w' (.ref n) (.ref H.size) := ⟨⟨_, hw.2.1⟩, by show Value.ref H.size = .ref (if n = n then H.size else R.1 n); rw [if_pos rfl]⟩
  have kk := h p e s m args below meth c R0 hok _ _ locs ls (.ref H.size :: cs0) hat' (z_lom hV hlo) ⟨hr, z_Lm hV hst1⟩
  intro T hT X
  obtain ⟨-, kA, hkA, comp, hkind⟩ := State.isArrayOf_alike X.warmed.alike (hA 0 (fun _ => .null))
  obtain ⟨-, kS, hkS, compS, hkindS⟩ := hA 0 (fun _ => .null)
  obtain ⟨vm', X', st9⟩ := X.cloneArray hx hown (hts _ hl) (hts _ hsm) (hts _ hnat) (hts _ hinst) (hts _ hsel) (a := R.1 a) (cell := arrV (z_dA G 2) N z) (by rw [hT]; exact z1) (fun k h => by cases h) (fun h => by cases h) hnm f2 f3
    (fun i v hv => by
      have hk' : T.vm.classes[z_dA G 2]? = some kA := hkA
      have h7 : fits .byte v = true := va_fit (F := z) (n := N) (cA := z_dA G 2) (fun i hi => by obtain ⟨x, e1, -, e3⟩ := hz i hi; rw [e1]; exact e3) i v hv
      have h6 : (arrV (z_dA G 2) N z).cls = z_dA G 2 := rfl
      rw [h6]
      simpa [State.fitsSlot, State.slotType?, hk', hkind] using h7)
    (g := F0 m pc ls (.ref (R.1 a) :: cs0)) rfl (by rw [← hsz]) (rest := cs0) rfl (by rw [hb]; exact hd) hrk (by show 2 * 0 + _ + 14 ≤ _; omega) hc (by rw [arrV_size]; exact hs) (hloader := Vm.clonesLoader_of_array hkS hkindS)
  rw [arrV_size] at X'
  obtain ⟨t, b1, b2⟩ := kk ((T.setVm vm').pushCell (arrV (z_dA G 2) N z)) (by rw [← hT]; rfl) X'
  refine ⟨t, st9 t ?_, b2⟩
  rw [hT]
  exact b1
theorem j_callVK {i idx np rk' mc' ms' : Nat} {y' : z_M} {as rest : List Value} {Q' : Option Value → z_W → Prop} {X' : String → z_W → Prop} {t : String × Nat × String} (hd : decode y.2.1 pc = .ok (.invokevirtual idx, 3)) (hm : z_okm y' np) (hl : Cond.methodLink y.1.cls idx y'.1 ∈ z_tbl) (hi : Cond.instanceMethod y'.1 ∈ z_tbl) (hse : Cond.selects "java/lang/String" y'.1 y'.1 ∈ z_tbl) (hi9 : z_strs[i]? = some t) (ht9 : t.1 = "LoopdefaultsModel" ∨ t.1 = "LoopdefaultsModel$Hearer") (hc : z_Con G l y' rk' mc' ms' w (.retAddr (10 + i) :: as) Q' X') (hrk : rk' + 1 ≤ S.1) (hcs : kc + mc' ≤ S.2.1 ∧ ks + ms' ≤ S.2.2.1) (hstk : st = as.reverse ++ .retAddr (10 + i) :: rest) (hW : z_cat rest ≤ 8) (hn : as.length = np) (ht : y.2.2.2.2 = []) (hx : ∀ E w', X' E w' → S.2.2.2.2.2 E w') (kk : ∀ v w', Q' v w' → z_J G l y S (pc + 3) lo (v.toList ++ rest) w' (kc + mc') (ks + ms')) : z_J G l y S pc lo st w kc ks := by
  intro p e s m args below meth c R0 hok R H locs ls cst hat hlo hst
  subst hstk
  obtain ⟨b1, c2, rfl, hb1, hst⟩ := z_Lapp hst
  obtain ⟨c1, crest, rfl, h1, hrest⟩ := z_Lc hst
  have h1' := h1
  obtain ⟨a, h2, hq1⟩ := h1'
  subst h2
  obtain ⟨a2, bq, ha, hbq, -, hO⟩ := (z_okc hok).2.2.2.2.2.2.2.2.1 i t hi9 ht9
  have e9 := (z_okc hok).1 _ _ _ hq1 ha
  subst e9
  obtain ⟨cell, o1, o2, o3, o4⟩ := hO
  have o1' : H[a]? = some cell := by rw [(z_fS hok hat).2.1 a (Array.getElem?_eq_some_iff.mp o1).1 ((z_okc hok).2.1 _ _ (Or.inr (by omega)) hq1)]; exact o1
  have hcell : ∃ cell : Cell, H[a]? = some cell ∧ cell.vm.isStatics = false ∧ s.vm.findClass "java/lang/String" = some cell.cls := ⟨cell, o1', o3.1, by rw [o2]; exact (hok.2.2.2.2.2.2.2.1.1 0 _ rfl).2.1⟩
  have hAs := z_Lrev hb1
  rw [List.reverse_reverse] at hAs
  exact z_run hok hat hlo hrest ht (vx_runV (C := "java/lang/String") (As := b1.reverse) ⟨hok.1, hok.2.1, rfl, hok.2.2.2.2.2.1, hok.2.2.2.2.2.2.1⟩ (hc R) ⟨z_CB hok.2.2.2.2.2.2.1 hm hrk hl, hok.2.2.2.2.2.2.1 _ hi, hok.2.2.2.2.2.2.1 _ hse⟩ ⟨z_Pc_blind, hcell, fun U hU hW9 => z_pre hok hat (av := .retAddr (10 + i) :: as) (cav := .ref a :: b1.reverse) ⟨h1, hAs⟩ U hU hW9⟩ rfl (by rw [z_Ll hAs]; exact hn) hlo.choose_spec.1.1 (by rw [List.reverse_reverse]) (lv_room (by rw [z_Lcs hrest]; exact hW)) hd hcs) hcs hx kk
theorem z_up.tr {n : Nat} {e e' : z_E} {w1 : z_W} (h : z_up w n e w1) (h2 : z_up w1 n e' w') : z_up w n e' w' := ⟨h2.1, fun m hm => (h2.2.1 m hm).trans (h.2.1 m hm), h2.2.2.1.trans h.2.2.1, fun z => h2.2.2.2 (h.2.2.2 z)⟩
theorem z_by0 : z_by (fun _ => .int 0) := fun _ => ⟨0, rfl, by decide⟩
theorem z_byU {f : Nat → Value} {k : Nat} {x : Int32} (h : z_by f) (hx : fits .byte (.int x) = true) : z_by (z_u f k (.int x)) := fun j => by
  by_cases hj : j = k
  · subst hj; rw [z_u_self]; exact ⟨x, rfl, hx⟩
  · rw [z_u_ne hj]; exact h j
theorem z_byC {f g : Nat → Value} {a b n : Nat} (h : ∀ j, a ≤ j → j < a + n → ∃ x, f j = .int x ∧ fits .byte (.int x) = true) (hg : z_by g) : z_by (va_cpy f g a b n) := fun j => by
  unfold va_cpy
  by_cases hj : b ≤ j ∧ j < b + n
  · rw [if_pos hj]; exact h _ (by omega) (by omega)
  · rw [if_neg hj]; exact hg j
def z_gr (N m : Nat) : Nat := if m ≤ N then N else 2 * N + 2
def z_sbA (w : z_W) (ρ a n N m : Nat) (f : Nat → Value) (ml : Int32) : Prop := 1000 ≤ m ∧ m % 64 = ρ ∧ m ≠ a ∧ z_g w a = some (.inr (1, [.ref m, .int 0, .int ml, .int (nI n)])) ∧ z_g w m = some (.inl (2, N, f)) ∧ z_by f
def z_sb (w : z_W) (ρ a n N : Nat) : Prop := 1000 ≤ a ∧ a % 64 = ρ ∧ n ≤ N ∧ 16 ≤ N ∧ N ≤ 5000 ∧ ∃ m f ml, z_sbA w ρ a n N m f ml
theorem z_gr_le {N m : Nat} : N ≤ z_gr N m := by unfold z_gr; split <;> omega
theorem z_gr_ge {N m : Nat} (h : m ≤ 2 * N + 2) : m ≤ z_gr N m := by unfold z_gr; split <;> omega
theorem z_gr_mx {N m M : Nat} (hN : N ≤ 2 * M + 16) (hm : m ≤ M) : z_gr N m ≤ 2 * M + 16 := by unfold z_gr; split <;> omega
theorem z_sb.fw {ρ σ a n N : Nat} (h : z_sb w ρ a n N) (hw : z_fw σ w w') (hne : ρ ≠ σ) : z_sb w' ρ a n N := by
  obtain ⟨h1, h2, h3, h4, h5, m, f, ml, a1, a2, a3, a4, a5, a6⟩ := h
  exact ⟨h1, h2, h3, h4, h5, m, f, ml, a1, a2, a3, hw.g (Or.inr (by omega)) a4, hw.g (Or.inr (by omega)) a5, a6⟩
theorem z_sb.m {ρ a n N : Nat} (h : z_sb w ρ a n N) (hw : ∀ k, 1000 ≤ k → k % 64 = ρ → z_g w' k = z_g w k) : z_sb w' ρ a n N := by
  obtain ⟨h1, h2, h3, h4, h5, m, f, ml, a1, a2, a3, a4, a5, a6⟩ := h
  exact ⟨h1, h2, h3, h4, h5, m, f, ml, a1, a2, a3, (hw a h1 h2).trans a4, (hw m a1 a2).trans a5, a6⟩
theorem z_nmx {n : Nat} (h : n < 2147483647) : ¬ nI n = 2147483647 := fun z => by
  have := nI_inj (a := n) (b := 2147483647) z (by omega) (by decide)
  omega
def z_dg (w : Nat) : Nat := if w < 10 then 1 else if w < 100 then 2 else if w < 1000 then 3 else if w < 10000 then 4 else if w < 100000 then 5 else if w < 1000000 then 6 else if w < 10000000 then 7 else if w < 100000000 then 8 else if w < 1000000000 then 9 else 10
def z_sz (x : Int32) : Nat := (if x < 0 then 1 else 0) + z_dg x.toInt.natAbs
theorem z_dg_in (w : Nat) : 1 ≤ z_dg w ∧ z_dg w ≤ 10 := by unfold z_dg; (repeat' split) <;> omega
theorem z_sz_in (x : Int32) : 1 ≤ z_sz x ∧ z_sz x ≤ 11 := by
  have := z_dg_in x.toInt.natAbs
  unfold z_sz
  split <;> omega
theorem z_dg100 {w : Nat} (h : 100 ≤ w) (h2 : w ≤ 2147483648) : z_dg w = z_dg (w / 100) + 2 := by
  unfold z_dg
  rw [if_neg (show ¬ w < 10 by omega), if_neg (show ¬ w < 100 by omega)]
  by_cases c3 : w < 1000
  · rw [if_pos c3, if_pos (show w / 100 < 10 by omega)]
  rw [if_neg c3, if_neg (show ¬ w / 100 < 10 by omega)]
  by_cases c4 : w < 10000
  · rw [if_pos c4, if_pos (show w / 100 < 100 by omega)]
  rw [if_neg c4, if_neg (show ¬ w / 100 < 100 by omega)]
  by_cases c5 : w < 100000
  · rw [if_pos c5, if_pos (show w / 100 < 1000 by omega)]
  rw [if_neg c5, if_neg (show ¬ w / 100 < 1000 by omega)]
  by_cases c6 : w < 1000000
  · rw [if_pos c6, if_pos (show w / 100 < 10000 by omega)]
  rw [if_neg c6, if_neg (show ¬ w / 100 < 10000 by omega)]
  by_cases c7 : w < 10000000
  · rw [if_pos c7, if_pos (show w / 100 < 100000 by omega)]
  rw [if_neg c7, if_neg (show ¬ w / 100 < 100000 by omega)]
  by_cases c8 : w < 100000000
  · rw [if_pos c8, if_pos (show w / 100 < 1000000 by omega)]
  rw [if_neg c8, if_neg (show ¬ w / 100 < 1000000 by omega)]
  by_cases c9 : w < 1000000000
  · rw [if_pos c9, if_pos (show w / 100 < 10000000 by omega)]
  rw [if_neg c9, if_neg (show ¬ w / 100 < 10000000 by omega)]
  rw [if_pos (show w / 100 < 100000000 by omega)]
theorem z_dgL {w k : Nat} (h : (k = 1 ∨ 10 ^ (k - 1) ≤ w) ∧ w < 10 ^ k) (hk : 1 ≤ k ∧ k ≤ 9) : z_dg w = k := by
  obtain ⟨k1, k2⟩ := hk
  obtain ⟨h1, h2⟩ := h
  rcases (by omega : k = 1 ∨ k = 2 ∨ k = 3 ∨ k = 4 ∨ k = 5 ∨ k = 6 ∨ k = 7 ∨ k = 8 ∨ k = 9) with rfl | rfl | rfl | rfl | rfl | rfl | rfl | rfl | rfl <;> simp at h1 h2 <;> unfold z_dg
  · rw [if_pos (show w < 10 by omega)]
  · rw [if_neg (show ¬ w < 10 by omega), if_pos (show w < 100 by omega)]
  · rw [if_neg (show ¬ w < 10 by omega), if_neg (show ¬ w < 100 by omega), if_pos (show w < 1000 by omega)]
  · rw [if_neg (show ¬ w < 10 by omega), if_neg (show ¬ w < 100 by omega), if_neg (show ¬ w < 1000 by omega), if_pos (show w < 10000 by omega)]
  · rw [if_neg (show ¬ w < 10 by omega), if_neg (show ¬ w < 100 by omega), if_neg (show ¬ w < 1000 by omega), if_neg (show ¬ w < 10000 by omega), if_pos (show w < 100000 by omega)]
  · rw [if_neg (show ¬ w < 10 by omega), if_neg (show ¬ w < 100 by omega), if_neg (show ¬ w < 1000 by omega), if_neg (show ¬ w < 10000 by omega), if_neg (show ¬ w < 100000 by omega), if_pos (show w < 1000000 by omega)]
  · rw [if_neg (show ¬ w < 10 by omega), if_neg (show ¬ w < 100 by omega), if_neg (show ¬ w < 1000 by omega), if_neg (show ¬ w < 10000 by omega), if_neg (show ¬ w < 100000 by omega), if_neg (show ¬ w < 1000000 by omega), if_pos (show w < 10000000 by omega)]
  · rw [if_neg (show ¬ w < 10 by omega), if_neg (show ¬ w < 100 by omega), if_neg (show ¬ w < 1000 by omega), if_neg (show ¬ w < 10000 by omega), if_neg (show ¬ w < 100000 by omega), if_neg (show ¬ w < 1000000 by omega), if_neg (show ¬ w < 10000000 by omega), if_pos (show w < 100000000 by omega)]
  · rw [if_neg (show ¬ w < 10 by omega), if_neg (show ¬ w < 100 by omega), if_neg (show ¬ w < 1000 by omega), if_neg (show ¬ w < 10000 by omega), if_neg (show ¬ w < 100000 by omega), if_neg (show ¬ w < 1000000 by omega), if_neg (show ¬ w < 10000000 by omega), if_neg (show ¬ w < 100000000 by omega), if_pos (show w < 1000000000 by omega)]
theorem z_ngI {x : Int32} (h : ¬ x < 0) : (-x).toInt = -(x.toInt.natAbs : Int) := by
  have h0 : ¬ x.toInt < 0 := fun z => h (Int32.lt_iff_toInt_lt.mpr z)
  have h1 := Int32.toInt_lt x
  rw [Int32.toInt_neg, Int.bmod_eq_of_le (by omega) (by omega)]
  omega
theorem z_poI {x : Int32} (h : x < 0) : x.toInt = -(x.toInt.natAbs : Int) := by
  have h0 : x.toInt < 0 := Int32.lt_iff_toInt_lt.mp h
  omega
theorem z_leI {a b : Int32} {p q : Int} (hc : a ≤ b) (ha : a.toInt = p) (hb : b.toInt = q) : p ≤ q := by rw [← ha, ← hb]; exact Int32.le_iff_toInt_le.mp hc
theorem z_nleI {a b : Int32} {p q : Int} (hc : ¬ a ≤ b) (ha : a.toInt = p) (hb : b.toInt = q) : q < p := by
  have h9 : ¬ a.toInt ≤ b.toInt := fun z => hc (Int32.le_iff_toInt_le.mpr z)
  rw [ha, hb] at h9
  omega
theorem z_divI {i : Int32} {w : Nat} (hi : i.toInt = -(w : Int)) (hw : w ≤ 2147483648) : (i / 100).toInt = -((w / 100 : Nat) : Int) := by
  rw [Int32.toInt_div, hi, show (100 : Int32).toInt = 100 from rfl, Int.neg_tdiv, show (w : Int).tdiv 100 = ((w / 100 : Nat) : Int) from rfl, Int.bmod_eq_of_le (by omega) (by omega)]
theorem z_remI {i : Int32} {w : Nat} (hi : i.toInt = -(w : Int)) (hw : w ≤ 2147483648) : (i / 100 * 100 - i).toInt = ((w % 100 : Nat) : Int) := by
  have h1 := z_divI hi hw
  have e1 : (i / 100 * 100).toInt = -((w / 100 * 100 : Nat) : Int) := by
    rw [Int32.toInt_mul, h1, show (100 : Int32).toInt = 100 from rfl, Int.bmod_eq_of_le (by omega) (by omega)]
    omega
  rw [Int32.toInt_sub, e1, hi, Int.bmod_eq_of_le (by omega) (by omega)]
  omega
theorem z_negI {i : Int32} {w : Nat} (hi : i.toInt = -(w : Int)) (hw : w < 2147483648) : (-i).toInt = (w : Int) := by
  rw [Int32.toInt_neg, hi, Int.bmod_eq_of_le (by omega) (by omega)]
  omega
theorem z_vpin {x : Int32} {k n : Nat} (h : x.toInt = (k : Int)) (hk : k < n) : vp_in x n := vp_in_iff.mpr ⟨by omega, by omega⟩
theorem j_bastW {a n : Nat} {f : Nat → Value} {i x : Int32} (hd : decode y.2.1 pc = .ok (.bastore, 1)) (hg : z_g w a = some (.inl (2, n, f))) (hin : vp_in i n) (hw : z_s w a (.inl (2, n, z_u f i.toNatClampNeg (.int x.toInt8.toInt32))) = w') (h : z_J G l y S (pc + 1) lo st w' kc ks) : z_J G l y S pc lo (.int x :: .int i :: .ref a :: st) w kc ks := by
  intro p e s m args below meth c R0 hok R H locs ls cst hat hlo hst
  obtain ⟨c9, cs9, rfl, h9, hst1⟩ := z_Lc hst
  obtain ⟨c0, cs0, rfl, h0, hst2⟩ := z_Lc hst1
  obtain ⟨c1, cs1, rfl, ⟨-, h1⟩, hst3⟩ := z_Lc hst2
  have h9 : c9 = .int x := h9
  have h0 : c0 = .int i := h0
  subst h9
  subst h0
  subst h1
  subst hw
  obtain ⟨z, z1, z2⟩ := (hat.1.1 a _ hg).1
  have hok2 := hok
  obtain ⟨hx, hb, -, -, -, hown, hts, henv, -⟩ := hok2
  refine W.bast hx hb z1 ((henv.2.1 2 .byte rfl).1 n z) (fun q => by cases q) (by show ¬ (i < 0 ∨ (arrV _ _ _).slots.size ≤ _); rw [arrV_size]; exact hin) rfl rfl hd ?_
  intro H' e1 e2 e3
  have hnr : narrow .byte (.int x) = .int x.toInt8.toInt32 := rfl
  rw [hnr] at e1
  exact h p e s m args below meth c R0 hok R H' _ ls cs1 (z_write hat hg e2 e3 (z_Xu (z_Vs hg) z2 rfl e1)) (z_lom (z_Vs hg) hlo) (z_Lm (z_Vs hg) hst3)
end ZSb0
