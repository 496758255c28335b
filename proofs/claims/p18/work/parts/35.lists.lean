section ZLi
set_option maxRecDepth 100000 in
theorem nI_shr0 : ∀ n, n < 1601 → (nI n) >>> ((Int32.ofInt 1) &&& 31) = nI (n / 2) := by decide +kernel
theorem nI_shr {n : Nat} (h : n ≤ 1600) : (nI n) >>> ((Int32.ofInt 1) &&& 31) = nI (n / 2) := nI_shr0 n (by omega)
theorem nI_mx1 {k : Nat} (h : k < 2147483648) : (if (Int32.ofInt 1) < nI k then nI k else Int32.ofInt 1) = nI (max 1 k) := by
  have e1 : Int32.ofInt 1 = nI 1 := by decide
  rw [e1]
  by_cases hk : 1 < k
  · rw [if_pos ((nI_ltI (by omega) (by omega)).mpr hk), Nat.max_eq_right (by omega)]
  · rw [if_neg (fun z => hk ((nI_ltI (by omega) (by omega)).mp z)), Nat.max_eq_left (by omega)]
theorem nI_mn {a b : Nat} (ha : a < 2147483648) (hb : b < 2147483648) : (if nI b < nI a then nI b else nI a) = nI (min a b) := by
  by_cases hk : b < a
  · rw [if_pos ((nI_ltI (by omega) (by omega)).mpr hk), Nat.min_eq_right (by omega)]
  · rw [if_neg (fun z => hk ((nI_ltI (by omega) (by omega)).mp z)), Nat.min_eq_left (by omega)]
def z_nl (n : Nat) : Nat := n + max 1 (n / 2)
theorem z_nlI (n : Nat) : nI n + nI (max 1 (n / 2)) = nI (z_nl n) := nI_add _ _
theorem z_nl_lt (n : Nat) : n < z_nl n := by unfold z_nl; omega
theorem z_nl_le {n M : Nat} (h : n ≤ M) : z_nl n ≤ 2 * M + 10 := by unfold z_nl; omega
theorem z_nl_le2 {n : Nat} (h : n ≤ 1000) : z_nl n ≤ 1600 := by unfold z_nl; omega
theorem z_li.of {w : z_W} {ρ a : Nat} {mo : Int32} {L : List Value} {m n : Nat} {f : Nat → Value} (h1 : 1000 ≤ a) (h2 : a % 64 = ρ) (h3 : ∀ v ∈ L, z_ir v = true) (h : z_liA w ρ a mo L m n f) : z_li w ρ a mo L := ⟨h1, h2, h3, Or.inl ⟨m, n, f, h⟩⟩
theorem z_irS {L : List Value} {j : Nat} {x : Value} (h : ∀ v ∈ L, z_ir v = true) (hx : z_ir x = true) : ∀ v ∈ L.set j x, z_ir v = true := fun v hv => by
  rcases List.mem_or_eq_of_mem_set hv with h1 | h1
  · exact h v h1
  · rw [h1]; exact hx
theorem z_irA {L : List Value} {x : Value} (h : ∀ v ∈ L, z_ir v = true) (hx : z_ir x = true) : ∀ v ∈ L ++ [x], z_ir v = true := fun v hv => by
  rcases List.mem_append.mp hv with h1 | h1
  · exact h v h1
  · rw [List.mem_singleton.mp h1]; exact hx
theorem z_conS {L : List Value} {j n : Nat} {f : Nat → Value} {x : Value} (hn : n ≤ 1600) (hj : j < L.length) (hl : L.length ≤ n) (h : ∀ (q : Nat) (v : Value), L[q]? = some v → f q = v) : ∀ (q : Nat) (v : Value), (L.set j x)[q]? = some v → z_u f (nI j).toNatClampNeg x q = v := fun q v hq => by
  rw [z_cla (by omega)]
  by_cases hqj : q = j
  · subst hqj
    rw [List.getElem?_set_self hj] at hq
    rw [z_u_self]
    exact Option.some.inj hq
  · rw [List.getElem?_set_ne (Ne.symm hqj)] at hq
    rw [z_u_ne hqj]
    exact h q v hq
theorem z_conA {L : List Value} {n : Nat} {f : Nat → Value} {x : Value} (hn : n ≤ 1600) (hl : L.length < n) (h : ∀ (q : Nat) (v : Value), L[q]? = some v → f q = v) : ∀ (q : Nat) (v : Value), (L ++ [x])[q]? = some v → z_u f (nI L.length).toNatClampNeg x q = v := fun q v hq => by
  rw [z_cla (by omega)]
  by_cases hqj : q = L.length
  · subst hqj
    rw [List.getElem?_append_right (Nat.le_refl _), Nat.sub_self] at hq
    rw [z_u_self]
    exact Option.some.inj hq
  · have hq2 : q < L.length := by
      have := (List.getElem?_eq_some_iff.mp hq).1
      rw [List.length_append] at this
      have : q < L.length + 1 := this
      omega
    rw [List.getElem?_append_left hq2] at hq
    rw [z_u_ne hqj]
    exact h q v hq
theorem z_lenS {L : List Value} {j : Nat} {x : Value} : (L.set j x).length = L.length := List.length_set
theorem z_lenA {L : List Value} {x : Value} : (L ++ [x]).length = L.length + 1 := List.length_append
theorem z_conI {L : List Value} {j n : Nat} {f : Nat → Value} {x : Value} (hn : n ≤ 1600) (hj : j ≤ L.length) (hl : L.length < n) (h : ∀ (q : Nat) (v : Value), L[q]? = some v → f q = v) : ∀ (q : Nat) (v : Value), (L.take j ++ x :: L.drop j)[q]? = some v → z_u (va_cpy f f (nI j).toNatClampNeg (nI (j + 1)).toNatClampNeg (nI (L.length - j)).toNatClampNeg) (nI j).toNatClampNeg x q = v := fun q v hq => by
  rw [z_cla (n := j) (by omega), z_cla (n := j + 1) (by omega), z_cla (by omega)]
  have hlt : (L.take j).length = j := by rw [List.length_take]; omega
  by_cases hqj : q = j
  · subst hqj
    rw [List.getElem?_append_right (by omega), hlt, Nat.sub_self] at hq
    rw [z_u_self]
    exact Option.some.inj hq
  · rw [z_u_ne hqj]
    unfold va_cpy
    by_cases hq1 : q < j
    · rw [List.getElem?_append_left (by omega), List.getElem?_take_of_lt hq1] at hq
      rw [if_neg (by omega)]
      exact h q v hq
    · have hq2 : j < q := by omega
      rw [List.getElem?_append_right (by omega), hlt] at hq
      obtain ⟨k, rfl⟩ : ∃ k, q = j + 1 + k := ⟨q - j - 1, by omega⟩
      have e1 : j + 1 + k - j = k + 1 := by omega
      rw [e1, List.getElem?_cons_succ, List.getElem?_drop] at hq
      have hlen := (List.getElem?_eq_some_iff.mp hq).1
      rw [if_pos (by omega)]
      have e2 : j + (j + 1 + k - (j + 1)) = j + k := by omega
      rw [e2]
      exact h _ v hq
theorem z_lenI {L : List Value} {j : Nat} {x : Value} (hj : j ≤ L.length) : (L.take j ++ x :: L.drop j).length = L.length + 1 := by
  rw [List.length_append, List.length_cons, List.length_take, List.length_drop]
  omega
theorem z_irI {L : List Value} {j : Nat} {x : Value} (h : ∀ v ∈ L, z_ir v = true) (hx : z_ir x = true) : ∀ v ∈ L.take j ++ x :: L.drop j, z_ir v = true := fun v hv => by
  rcases List.mem_append.mp hv with h1 | h1
  · exact h v (List.mem_of_mem_take h1)
  · rcases List.mem_cons.mp h1 with h2 | h2
    · rw [h2]; exact hx
    · exact h v (List.mem_of_mem_drop h2)
theorem z_conR {L : List Value} {j n : Nat} {f : Nat → Value} (hn : n ≤ 1600) (hj : j + 1 < L.length) (hl : L.length ≤ n) (h : ∀ (q : Nat) (v : Value), L[q]? = some v → f q = v) : ∀ (q : Nat) (v : Value), (L.eraseIdx j)[q]? = some v → z_u (va_cpy f f (nI (j + 1)).toNatClampNeg (nI j).toNatClampNeg (nI (L.length - 1 - j)).toNatClampNeg) (nI (L.length - 1)).toNatClampNeg .null q = v := fun q v hq => by
  rw [z_cla (n := j) (by omega), z_cla (n := j + 1) (by omega), z_cla (n := L.length - 1 - j) (by omega), z_cla (by omega)]
  have hlen := (List.getElem?_eq_some_iff.mp hq).1
  rw [List.length_eraseIdx_of_lt (by omega)] at hlen
  rw [z_u_ne (by omega)]
  unfold va_cpy
  rw [List.getElem?_eraseIdx] at hq
  by_cases hq1 : q < j
  · rw [if_pos hq1] at hq
    rw [if_neg (by omega)]
    exact h q v hq
  · rw [if_neg hq1] at hq
    rw [if_pos (by omega)]
    have e2 : j + 1 + (q - j) = q + 1 := by omega
    rw [e2]
    exact h _ v hq
theorem z_conR2 {L : List Value} {j n : Nat} {f : Nat → Value} (hn : n ≤ 1600) (hj : j + 1 = L.length) (hl : L.length ≤ n) (h : ∀ (q : Nat) (v : Value), L[q]? = some v → f q = v) : ∀ (q : Nat) (v : Value), (L.eraseIdx j)[q]? = some v → z_u f (nI (L.length - 1)).toNatClampNeg .null q = v := fun q v hq => by
  rw [z_cla (by omega)]
  have hlen := (List.getElem?_eq_some_iff.mp hq).1
  rw [List.length_eraseIdx_of_lt (by omega)] at hlen
  rw [z_u_ne (by omega)]
  rw [List.getElem?_eraseIdx, if_pos (by omega)] at hq
  exact h q v hq
theorem z_lenR {L : List Value} {j : Nat} (hj : j < L.length) : (L.eraseIdx j).length = L.length - 1 := List.length_eraseIdx_of_lt hj
theorem z_irR {L : List Value} {j : Nat} (h : ∀ v ∈ L, z_ir v = true) : ∀ v ∈ L.eraseIdx j, z_ir v = true := fun v hv => h v (List.mem_of_mem_eraseIdx hv)
theorem z_elF {ρ : Nat} {w : z_W} {b : UInt32} : z_el ρ w (.float b) := ⟨Or.inl ⟨b, rfl⟩, "java/lang/Integer", rfl, cs_IO⟩
end ZLi
section ZLi2
theorem nI_o0 : Int32.ofInt 0 = nI 0 := by decide
theorem nI_o1 : Int32.ofInt 1 = nI 1 := by decide
theorem nI_inj {a b : Nat} (h : nI a = nI b) (ha : a < 2147483648) (hb : b < 2147483648) : a = b := by
  have e := congrArg Int32.toNatClampNeg h
  rw [z_cla ha, z_cla hb] at e
  exact e
theorem nI_sub1 (k : Nat) : nI (k + 1) - nI k = Int32.ofInt 1 := by
  rw [nI_o1, pk_sub (by omega)]
  congr 1
  omega
theorem z_isK {w w' : z_W} (hw : ∀ (k : Nat) (e : z_E), z_g w k = some e → z_g w' k = some e) {v : Value} {C : String} (h : z_is w v C) : z_is w' v C := by
  cases v with
  | ref n =>
    rcases h with ⟨o, q, h1, h2⟩ | ⟨x, ty, h1, h2⟩
    · exact Or.inl ⟨o, q, hw _ _ h1, h2⟩
    · exact Or.inr ⟨x, ty, hw _ _ h1, h2⟩
  | int x => exact h
  | long x => exact h
  | null => exact h
  | retAddr k => exact h
  | double b => exact h
  | float b => exact h
theorem z_inj3 {n : Nat} {a b c a' b' c' : Value} (e : some (Sum.inr (n, [a, b, c]) : z_E) = some (Sum.inr (n, [a', b', c']))) : a = a' ∧ b = b' ∧ c = c' := by cases e; exact ⟨rfl, rfl, rfl⟩
theorem z_cpy0 {n k j : Nat} {f g : Nat → Value} (hj : j < n) (hk : j < k) (h9 : n < 2147483648 ∨ k < 2147483648) : va_cpy f g (Int32.ofInt 0).toNatClampNeg (Int32.ofInt 0).toNatClampNeg (nI (min n k)).toNatClampNeg j = f j := by
  have e0 : (Int32.ofInt 0).toNatClampNeg = 0 := by decide
  unfold va_cpy
  rw [e0, z_cla (by omega), if_pos (by omega), Nat.zero_add, Nat.sub_zero]
theorem z_li.md {w w' : z_W} {ρ a : Nat} {mo mo' : Int32} {L : List Value} {v0 : Value} (h : z_li w ρ a mo L) (hg : z_g w a = some (.inr (4, [.int mo, v0, .int (nI L.length)]))) (u : z_up w a (.inr (4, [.int mo', v0, .int (nI L.length)])) w') : z_li w' ρ a mo' L := by
  obtain ⟨h1, h2, h3, h4⟩ := h
  refine ⟨h1, h2, h3, ?_⟩
  rcases h4 with ⟨m, n, f, a1, a2, a3, a4, a5, a6⟩ | ⟨k, a1, a2, a3⟩
  · have e := (z_inj3 (hg.symm.trans a4)).2.1
    subst e
    exact Or.inl ⟨m, n, f, a1, a2, a3, u.1, (u.2.1 m a3).trans a5, a6⟩
  · subst a1
    have e := (z_inj3 (hg.symm.trans a3)).2.1
    subst e
    exact Or.inr ⟨k, rfl, a2, u.1⟩
theorem z_elK {ρ : Nat} {w : z_W} {L : List Value} {m n a : Nat} {mo : Int32} {f : Nat → Value} (hel : ∀ v ∈ L, z_el ρ w v) (h : z_liA w ρ a mo L m n f) {j : Nat} (hj : j < L.length) : f j = .null ∨ ∃ C, z_is w (f j) C ∧ Cond.castable C "java/lang/Object" ∈ z_nst := by
  obtain ⟨-, -, -, -, -, -, -, h8⟩ := h
  have e := h8 j _ (List.getElem?_eq_getElem hj)
  rw [e]
  exact Or.inr (hel _ (List.getElem_mem hj)).2
theorem z_elM {ρ : Nat} {w w' : z_W} {L : List Value} (hel : ∀ v ∈ L, z_el ρ w v) (hw : z_fw ρ w w') : ∀ v ∈ L, z_el ρ w' v := fun v hv => (hel v hv).m hw.2.2
theorem z_lgx {x : Value} (h : z_ir x = true) {as bs : List Value} : (lg_sl (as ++ x :: bs)).length = (lg_sl as).length + (1 + (lg_sl bs).length) := by
  have e : lg_sl (as ++ x :: bs) = lg_sl as ++ (lg_sl [x] ++ lg_sl bs) := by
    unfold lg_sl
    rw [List.flatMap_append, List.flatMap_cons, List.flatMap_cons, List.flatMap_nil, List.append_nil]
  have e2 : (lg_sl [x]).length = 1 := by
    cases x <;> first | rfl | cases h
  rw [e, List.length_append, List.length_append, e2]
end ZLi2
