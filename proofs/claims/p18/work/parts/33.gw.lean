section ZW
def z_fn (w : z_W) : Prop := w.1.length ≤ 1000 ∧ ∃ T : Nat, ∀ n, T ≤ n → w.2 n = none
theorem z_fresh {w : z_W} (ρ : Nat) (hρ : ρ < 64) (h : z_fn w) : ∃ n, 1000 ≤ n ∧ n % 64 = ρ ∧ z_g w n = none := by
  obtain ⟨-, T, hT⟩ := h
  refine ⟨64 * (T + 16) + ρ, by omega, by omega, ?_⟩
  have hb : Nat.blt (64 * (T + 16) + ρ) 1000 = false := z_bltF (by omega)
  simp only [z_g, hb, cond]
  exact hT _ (by omega)
def z_up (w : z_W) (n : Nat) (e : z_E) (w' : z_W) : Prop := z_g w' n = some e ∧ (∀ m, m ≠ n → z_g w' m = z_g w m) ∧ w'.1 = w.1 ∧ (z_fn w → z_fn w')
theorem z_upS {w : z_W} {n : Nat} {e : z_E} (hn : 1000 ≤ n) : z_up w n e (z_s w n e) := by
  have hb : Nat.blt n 1000 = false := z_bltF hn
  refine ⟨?_, fun m hm => z_gs_ne hm, ?_, fun h => ?_⟩
  · simp only [z_g, z_s, hb, cond]; rw [Nat.beq_refl]
  · simp only [z_s, hb, cond]
  · obtain ⟨h1, T, hT⟩ := h
    simp only [z_s, hb, cond]
    refine ⟨h1, T + n + 1, fun m hm => ?_⟩
    show cond (Nat.beq m n) (some e) (w.2 m) = none
    rw [z_beq (by omega)]
    exact hT m (by omega)
theorem z_alW {w : z_W} {n : Nat} {e : z_E} (h : z_g w n = none) (hn : 1000 ≤ n) : z_g w n = none ∧ z_al w n e (z_s w n e) := ⟨h, (z_upS hn).1, (z_upS hn).2.1⟩
theorem j_seal {G : z_G} {l : Launch} {y : z_M} {S : z_S} {pc : Nat} {lo : List (Nat × Value)} {st : List Value} {w : z_W} {kc ks n : Nat} {e : z_E} (hn : 1000 ≤ n) (h : ∀ w', z_up w n e w' → z_J G l y S pc lo st w' kc ks) : z_J G l y S pc lo st (z_s w n e) kc ks := h _ (z_upS hn)
theorem z_neF {w : z_W} {n m : Nat} {e : z_E} (h : z_g w n = none) (h2 : z_g w m = some e) : m ≠ n := fun z => by rw [z, h] at h2; cases h2
def z_fw (ρ : Nat) (w w' : z_W) : Prop := w'.1 = w.1 ∧ (z_fn w → z_fn w') ∧ ∀ n, (n < 1000 ∨ n % 64 ≠ ρ) → z_g w' n = z_g w n
theorem z_fw.rf {ρ : Nat} {w : z_W} : z_fw ρ w w := ⟨rfl, id, fun _ _ => rfl⟩
theorem z_fw.tr {ρ : Nat} {a b c : z_W} (h : z_fw ρ a b) (h2 : z_fw ρ b c) : z_fw ρ a c := ⟨h2.1.trans h.1, fun z => h2.2.1 (h.2.1 z), fun n hn => (h2.2.2 n hn).trans (h.2.2 n hn)⟩
theorem z_up.fw {ρ n : Nat} {w w' : z_W} {e : z_E} (h : z_up w n e w') (h0 : 1000 ≤ n) (h1 : n % 64 = ρ) : z_fw ρ w w' := ⟨h.2.2.1, h.2.2.2, fun m hm => h.2.1 m (fun z => by subst z; omega)⟩
theorem z_fw.g {ρ n : Nat} {w w' : z_W} {e : z_E} (h : z_fw ρ w w') (hn : n < 1000 ∨ n % 64 ≠ ρ) (hg : z_g w n = some e) : z_g w' n = some e := (h.2.2 n hn).trans hg
def z_el (ρ : Nat) (w : z_W) (v : Value) : Prop := ((∃ b, v = .float b) ∨ ∃ r, v = .ref r ∧ (r < 1000 ∨ r % 64 ≠ ρ)) ∧ ∃ C, z_is w v C ∧ Cond.castable C "java/lang/Object" ∈ z_nst
theorem z_el.ir {ρ : Nat} {w : z_W} {v : Value} (h : z_el ρ w v) : z_ir v = true := by
  rcases h.1 with ⟨b, rfl⟩ | ⟨r, rfl, -⟩ <;> rfl
theorem z_isM {w w' : z_W} {n : Nat} {C : String} (h : z_g w' n = z_g w n) (hi : z_is w (.ref n) C) : z_is w' (.ref n) C := by
  rcases hi with ⟨o, q, h1, h2⟩ | ⟨x, ty, h1, h2⟩
  · exact Or.inl ⟨o, q, h.trans h1, h2⟩
  · exact Or.inr ⟨x, ty, h.trans h1, h2⟩
theorem z_el.m {ρ : Nat} {w w' : z_W} {v : Value} (hw : ∀ n, (n < 1000 ∨ n % 64 ≠ ρ) → z_g w' n = z_g w n) (h : z_el ρ w v) : z_el ρ w' v := by
  obtain ⟨h1, C, h2, h3⟩ := h
  refine ⟨h1, C, ?_, h3⟩
  rcases h1 with ⟨b, rfl⟩ | ⟨r, rfl, hr⟩
  · exact h2
  · exact z_isM (hw r hr) h2
def z_liA (w : z_W) (ρ a : Nat) (mo : Int32) (L : List Value) (m n : Nat) (f : Nat → Value) : Prop := 1000 ≤ m ∧ m % 64 = ρ ∧ m ≠ a ∧ z_g w a = some (.inr (4, [.int mo, .ref m, .int (nI L.length)])) ∧ z_g w m = some (.inl (3, n, f)) ∧ L.length ≤ n ∧ n ≤ 1600 ∧ ∀ (j : Nat) (v : Value), L[j]? = some v → f j = v
def z_liB (w : z_W) (a : Nat) (mo : Int32) (L : List Value) (k : Nat) : Prop := L = [] ∧ k < 2 ∧ z_g w a = some (.inr (4, [.int mo, .retAddr k, .int 0]))
def z_li (w : z_W) (ρ a : Nat) (mo : Int32) (L : List Value) : Prop := 1000 ≤ a ∧ a % 64 = ρ ∧ (∀ v ∈ L, z_ir v = true) ∧ ((∃ m n f, z_liA w ρ a mo L m n f) ∨ ∃ k, z_liB w a mo L k)
theorem z_li.cell {w : z_W} {ρ a : Nat} {mo : Int32} {L : List Value} (h : z_li w ρ a mo L) : ∃ v, z_ir v = true ∧ z_g w a = some (.inr (4, [.int mo, v, .int (nI L.length)])) := by
  obtain ⟨-, -, -, ⟨m, n, f, -, -, -, h, -⟩ | ⟨k, rfl, -, h⟩⟩ := h
  · exact ⟨_, rfl, h⟩
  · exact ⟨_, rfl, h⟩
theorem z_li.len {w : z_W} {ρ a : Nat} {mo : Int32} {L : List Value} (h : z_li w ρ a mo L) : L.length ≤ 1600 := by
  obtain ⟨-, -, -, ⟨m, n, f, -, -, -, -, -, h, h2, -⟩ | ⟨k, rfl, -⟩⟩ := h
  · omega
  · exact Nat.zero_le _
theorem z_li.one {w : z_W} {ρ a j : Nat} {mo : Int32} {L : List Value} {v : Value} (h : z_li w ρ a mo L) (hj : L[j]? = some v) : ∃ m n f, z_liA w ρ a mo L m n f := by
  obtain ⟨-, -, -, h | ⟨k, rfl, -⟩⟩ := h
  · exact h
  · simp at hj
theorem z_li.ir {w : z_W} {ρ a j : Nat} {mo : Int32} {L : List Value} {v : Value} (h : z_li w ρ a mo L) (hj : L[j]? = some v) : z_ir v = true := h.2.2.1 v (List.mem_of_getElem? hj)
theorem z_li.m {w w' : z_W} {ρ a : Nat} {mo : Int32} {L : List Value} (hw : ∀ n, 1000 ≤ n → n % 64 = ρ → z_g w' n = z_g w n) (h : z_li w ρ a mo L) : z_li w' ρ a mo L := by
  obtain ⟨h1, h2, h3, h4⟩ := h
  refine ⟨h1, h2, h3, ?_⟩
  rcases h4 with ⟨m, n, f, a1, a2, a3, a4, a5, a6⟩ | ⟨k, a1, a2, a3⟩
  · exact Or.inl ⟨m, n, f, a1, a2, a3, (hw a h1 h2).trans a4, (hw m a1 a2).trans a5, a6⟩
  · exact Or.inr ⟨k, a1, a2, (hw a h1 h2).trans a3⟩
theorem z_li.fw {w w' : z_W} {ρ σ a : Nat} {mo : Int32} {L : List Value} (h : z_li w ρ a mo L) (hw : z_fw σ w w') (hne : ρ ≠ σ) : z_li w' ρ a mo L := h.m (fun n _ h2 => hw.2.2 n (Or.inr (by omega)))
def z_it (w : z_W) (i a : Nat) (mo : Int32) (k : Nat) : Prop := ∃ la : Int32, z_g w i = some (.inr (3, [.int (nI k), .int la, .int mo, .ref a]))
theorem z_it.m {w w' : z_W} {i a k : Nat} {mo : Int32} (h : z_it w i a mo k) (hw : z_g w' i = z_g w i) : z_it w' i a mo k := by
  obtain ⟨la, h⟩ := h
  exact ⟨la, hw.trans h⟩
theorem z_cla {n : Nat} (hn : n < 2147483648) : (nI n).toNatClampNeg = n := nI_clamp hn
end ZW
