section ZF2
variable {G : z_G} {l : Launch} {y : z_M} {S : z_S} {pc : Nat} {lo : List (Nat × Value)} {st : List Value} {w w' : z_W} {kc ks : Nat}
theorem j_objI {idx a : Nat} (hd : decode y.2.1 pc = .ok (.invokespecial idx, 3)) (hl : Cond.methodLink y.1.cls idx Lib.objectInit ∈ z_tbl) (hi : Cond.instanceMethod Lib.objectInit ∈ z_tbl) (hcd : Cond.code Lib.objectInit ⟨#[0xb1]⟩ 1 none ∈ z_tbl) (hrk : 1 ≤ S.1) (hW : z_cat st ≤ 8) (h : z_J G l y S (pc + 3) lo st w kc ks) : z_J G l y S pc lo (.ref a :: st) w kc ks := by
  intro p e s m args below meth c R0 hok R H locs ls cst hat hlo hst
  obtain ⟨c1, cs1, rfl, ⟨-, h1⟩, hst1⟩ := z_Lc hst
  subst h1
  have kk := h p e s m args below meth c R0 hok R H locs ls cs1 hat hlo hst1
  have hsz := hlo.choose_spec.1.1
  obtain ⟨hx, hb, -, -, -, hown, hts, henv, -⟩ := hok
  have h8 : 2 * (F0 m pc ls (.ref (R.1 a) :: cs1)).monitorRoom + (cs1.map fun v => v.category).sum ≤ 8 := lv_room (by rw [z_Lcs hst1]; exact hW)
  have h40 : 20 ≤ (z_rm S.1 S.2.1 S.2.2.1).locals := by show 20 ≤ 40 * S.1; omega
  exact W.objInit hx hb hown (hts _ hl) (hts _ hi) (hts _ hcd) rfl hsz rfl hd hrk (by omega) kk
def z_ui (f : Nat → Int32) (k : Nat) (x : Int32) : Nat → Int32 := fun j => cond (Nat.beq j k) x (f j)
theorem z_uie (f : Nat → Int32) (k : Nat) (x : Int32) : z_u (fun j => .int (f j)) k (.int x) = fun j => .int (z_ui f k x j) := by
  funext j
  unfold z_u z_ui
  cases Nat.beq j k <;> rfl
theorem z_ui_self {f : Nat → Int32} {k : Nat} {x : Int32} : z_ui f k x k = x := by unfold z_ui; rw [Nat.beq_refl]; rfl
theorem z_ui_ne {f : Nat → Int32} {k j : Nat} {x : Int32} (h : j ≠ k) : z_ui f k x j = f j := by unfold z_ui; rw [z_beq h]; rfl
theorem j_ld {a n : Nat} {f : Nat → Int32} {i : Int32} (hd : decode y.2.1 pc = .ok (.iaload, 1)) (hg : z_g w a = some (.inl (0, n, fun j => .int (f j)))) (hin : vp_in i n) (h : z_J G l y S (pc + 1) lo (.int (f i.toNatClampNeg) :: st) w kc ks) : z_J G l y S pc lo (.int i :: .ref a :: st) w kc ks := j_iald hd hg hin rfl h
theorem j_sto {a n : Nat} {f : Nat → Int32} {i x : Int32} (hd : decode y.2.1 pc = .ok (.iastore, 1)) (hg : z_g w a = some (.inl (0, n, fun j => .int (f j)))) (hin : vp_in i n) (hw : z_s w a (.inl (0, n, fun j => .int (z_ui f i.toNatClampNeg x j))) = w') (h : z_J G l y S (pc + 1) lo st w' kc ks) : z_J G l y S pc lo (.int x :: .int i :: .ref a :: st) w kc ks := j_iast hd hg hin (by rw [z_uie]; exact hw) h
theorem z_in {i : Int32} {n : Nat} (h0 : ¬ i < 0) (h1 : ¬ Int32.ofNat n ≤ i) (hn : n < 2147483648) : vp_in i n := by
  have h2 : ¬ (Int32.ofNat n).toInt ≤ i.toInt := fun z => h1 ((Int32.le_iff_toInt_le).mpr z)
  have h3 : ¬ i.toInt < 0 := fun z => h0 ((Int32.lt_iff_toInt_lt).mpr (by rw [Int32.toInt_zero]; exact z))
  have h4 : (Int32.ofNat n).toInt = n := nI_toInt (by omega)
  exact vp_in_iff.mpr ⟨by omega, by omega⟩
end ZF2
abbrev z_ia (n : Nat) (f : Nat → Int32) : z_E := .inl (0, n, fun j => .int (f j))
theorem z_inc (j : Nat) : nI j + Int32.ofInt 1 = nI (j + 1) := nI_1 j
theorem z_q0 {lo : List (Nat × Value)} : ∀ q ∈ ([] : List (Nat × Value)), z_find lo q.1 = some q.2 := fun _ h => by cases h
theorem z_q1 {lo t : List (Nat × Value)} {i : Nat} {v : Value} (h : z_find lo i = some v) (ht : ∀ q ∈ t, z_find lo q.1 = some q.2) : ∀ q ∈ (i, v) :: t, z_find lo q.1 = some q.2 := fun q hq => by
  rcases List.mem_cons.mp hq with rfl | hq
  · exact h
  · exact ht q hq
theorem j_lo2 {G : z_G} {l : Launch} {y : z_M} {S : z_S} {pc : Nat} {lo lo' : List (Nat × Value)} {st : List Value} {w : z_W} {kc ks : Nat} (h : z_J G l y S pc lo' st w kc ks) (hs : ∀ q ∈ lo', z_find lo q.1 = some q.2) : z_J G l y S pc lo st w kc ks := j_lo hs h
theorem z_dc {ci k idx : Nat} {own : String} {q0 : vw_C} (hq : z_cls[ci]? = some q0) (h1 : (q0.2.1 k).1 = own) (h2 : Cond.fieldLink own idx own (q0.2.1 k).2.1 (q0.2.1 k).2.2.1 ∈ z_tbl) : ∀ q : vw_C, z_cls[ci]? = some q → (q.2.1 k).1 = own ∧ Cond.fieldLink own idx own (q.2.1 k).2.1 (q.2.1 k).2.2.1 ∈ z_tbl := fun q h => by
  have e : q = q0 := Option.some.inj (h.symm.trans hq)
  subst e
  exact ⟨h1, h2⟩
def z_bi (b : Bool) : Int32 := cond b 1 0
theorem z_bn (b : Bool) : narrow .boolean (.int (z_bi b)) = .int (z_bi b) := by cases b <;> rfl
theorem z_bf (b : Bool) : fits .boolean (.int (z_bi b)) = true := by cases b <;> rfl
theorem z_bt {b : Bool} (h : ¬ z_bi b = 0) : b = true := by
  cases b with
  | true => rfl
  | false => exact absurd rfl h
theorem z_bF {b : Bool} (h : z_bi b = 0) : b = false := by
  cases b with
  | false => rfl
  | true => exact absurd h (by decide)
abbrev z_SF (rk mc ms : Nat) (L0 : List z_E) (Q : Option Value → List z_E → Prop) : z_S := (rk, mc, ms, (L0, z_no), (fun v w => w.2 = z_no ∧ w.1.length = L0.length ∧ Q v w.1), fun _ _ => False)
theorem z_ltI {j n : Nat} (h : ¬ Int32.ofNat n ≤ nI j) (hj : j < 2147483648) (hn : n < 2147483648) : j < n := Nat.not_le.mp (fun z => h ((nI_leI hn hj).mpr z))
theorem z_geI {j n : Nat} (h : Int32.ofNat n ≤ nI j) (hj : j < 2147483648) (hn : n < 2147483648) : n ≤ j := (nI_leI hn hj).mp h
section ZM
variable {G : z_G} {l : Launch} {y : z_M} {S : z_S} {pc : Nat} {lo : List (Nat × Value)} {st : List Value} {w w' : z_W} {kc ks : Nat}
theorem j_top {v v' : Value} (e : v = v') (h : z_J G l y S pc lo (v' :: st) w kc ks) : z_J G l y S pc lo (v :: st) w kc ks := e ▸ h
theorem j_tsIn {dflt lo9 hi : Int} {offs : Array Int} {len : Nat} {x : Int32} {off : Int} {tgt : Nat} (hd : decode y.2.1 pc = .ok (.tableswitch dflt lo9 hi offs, len)) (h1 : ¬ x.toInt < lo9) (h2 : ¬ hi < x.toInt) (ho : offs[(x.toInt - lo9).toNat]? = some off) (ht : (pc : Int) + off = (tgt : Int)) (h : z_J G l y S tgt lo st w kc ks) : z_J G l y S pc lo (.int x :: st) w kc ks := by
  intro p e s m args below meth c R0 hok R H locs ls cst hat hlo hst
  obtain ⟨c1, cs1, rfl, h9, hst1⟩ := z_Lc hst
  have h9 : c1 = .int x := h9
  subst h9
  exact lv_tableIn hok.1 hok.2.1 hd h1 h2 ho ht (h p e s m args below meth c R0 hok R H locs ls _ hat hlo hst1)
theorem j_tsOut {dflt lo9 hi : Int} {offs : Array Int} {len : Nat} {x : Int32} {tgt : Nat} (hd : decode y.2.1 pc = .ok (.tableswitch dflt lo9 hi offs, len)) (h1 : x.toInt < lo9 ∨ hi < x.toInt) (ht : (pc : Int) + dflt = (tgt : Int)) (h : z_J G l y S tgt lo st w kc ks) : z_J G l y S pc lo (.int x :: st) w kc ks := by
  intro p e s m args below meth c R0 hok R H locs ls cst hat hlo hst
  obtain ⟨c1, cs1, rfl, h9, hst1⟩ := z_Lc hst
  have h9 : c1 = .int x := h9
  subst h9
  exact lv_tableOut hok.1 hok.2.1 hd h1 ht (h p e s m args below meth c R0 hok R H locs ls _ hat hlo hst1)
theorem z_swE {x : Int32} {n : Nat} (h : x.toInt = n) (hn : n < 2147483648) : x = Int32.ofNat n := Int32.toInt_inj.mp (by rw [h]; exact (nI_toInt hn).symm)
theorem z_sw3 (x : Int32) : x = 0 ∨ x = 1 ∨ x = 2 ∨ (x.toInt < 0 ∨ 2 < x.toInt) := by
  by_cases h0 : x.toInt = (0 : Nat)
  · exact Or.inl (z_swE h0 (by decide))
  · by_cases h1 : x.toInt = (1 : Nat)
    · exact Or.inr (Or.inl (z_swE h1 (by decide)))
    · by_cases h2 : x.toInt = (2 : Nat)
      · exact Or.inr (Or.inr (Or.inl (z_swE h2 (by decide))))
      · exact Or.inr (Or.inr (Or.inr (by omega)))
end ZM
def z_m20 (m : Int32) : Prop := m.toInt ≤ 20
theorem z_decr (j : Nat) : nI (j + 1) + Int32.ofInt (-1) = nI j := pk_m1 j
