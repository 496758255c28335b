section ZMb
def z_fm (q : Nat) (w w' : z_W) : Prop := w'.1 = w.1 ∧ ∀ n, 1000 ≤ n → q ≤ n % 64 → z_g w' n = z_g w n
theorem z_fm.rf {q : Nat} {w : z_W} : z_fm q w w := ⟨rfl, fun _ _ _ => rfl⟩
theorem z_fm.tr {q : Nat} {a b c : z_W} (h : z_fm q a b) (h2 : z_fm q b c) : z_fm q a c := ⟨h2.1.trans h.1, fun n h3 h4 => (h2.2 n h3 h4).trans (h.2 n h3 h4)⟩
theorem z_fm.le {q q' : Nat} {a b : z_W} (h : z_fm q a b) (hq : q ≤ q') : z_fm q' a b := ⟨h.1, fun n h3 h4 => h.2 n h3 (Nat.le_trans hq h4)⟩
theorem z_fw.fm {q ρ : Nat} {w w' : z_W} (h : z_fw ρ w w') (hq : ρ < q) : z_fm q w w' := ⟨h.1, fun n h3 h4 => h.2.2 n (Or.inr (by omega))⟩
theorem z_fm.g {q n : Nat} {w w' : z_W} {e : z_E} (h : z_fm q w w') (h1 : 1000 ≤ n) (h2 : q ≤ n % 64) (hg : z_g w n = some e) : z_g w' n = some e := (h.2 n h1 h2).trans hg
def z_key (s : z_Z) : Int32 × (Nat → Int32) × (Nat → Int32) := (s.1.2.2, z_qf s, fun h => (z_qh s h).1)
theorem z_ke {w : z_W} {s1 s2 : z_Z} {K : Int32 × (Nat → Int32) × (Nat → Int32)} (_ : z_mst w s2) (k : z_key s1 = K) (e : z_key s2 = z_key s1) : z_key s2 = K := e.trans k
theorem z_keH {s : z_Z} {i : Nat} {b c d : Int32} : z_key (z_th s (z_fu (z_qh s) i ((z_qh s i).1, b, c, d))) = z_key s := by
  unfold z_key
  refine congrArg (fun f => (s.1.2.2, z_qf s, f)) (funext fun h => ?_)
  show (z_fu (z_qh s) i ((z_qh s i).1, b, c, d) h).1 = (z_qh s h).1
  by_cases hh : h = i
  · subst hh; rw [z_fu_self]
  · rw [z_fu_ne hh]
theorem z_two2 {i : Nat} {f : Nat → Nat} (h : i < 2) : ([.ref (f 0), .ref (f 1)] : List Value)[i]? = some (.ref (f i)) := by
  rcases (by omega : i = 0 ∨ i = 1) with rfl | rfl <;> rfl
theorem z_thr3 {t : Nat} (h : t < 3) : ([.ref 1011, .ref 1012, .ref 1013] : List Value)[t]? = some (.ref (1011 + t)) := by
  rcases (by omega : t = 0 ∨ t = 1 ∨ t = 2) with rfl | rfl | rfl <;> rfl
theorem z_li.is {w : z_W} {ρ a : Nat} {mo : Int32} {L : List Value} (h : z_li w ρ a mo L) : z_is w (.ref a) "java/util/ArrayList" := by
  obtain ⟨v, -, hg⟩ := h.cell
  exact Or.inl ⟨_, _, hg, rfl, rfl⟩
theorem z_isA {w : z_W} {p n : Nat} {f : Nat → Value} (h : z_g w p = some (.inl (0, n, f))) : z_is w (.ref p) "[I" := Or.inr ⟨_, _, h, rfl, rfl⟩
theorem z_nat {k : Int32} {m : Nat} {a b : Int32} (ha : a = nI 0) (hb : b = nI m) (hm : m < 2147483648) (h : a ≤ k ∧ k ≤ b) : ∃ i, i < m + 1 ∧ k = nI i := by
  subst ha hb
  have h0 : (0 : Int32) ≤ k := h.1
  refine ⟨k.toNatClampNeg, ?_, ?_⟩
  · have := Int32.le_iff_toInt_le.mp h.2
    have e : (nI m).toInt = m := by
      have e9 := z_cla hm
      have p9 := nI_pos' (n := m) hm
      have := Int32.le_iff_toInt_le.mp p9
      have e0 : (0 : Int32).toInt = 0 := by decide
      rw [e0] at this
      unfold Int32.toNatClampNeg at e9
      omega
    unfold Int32.toNatClampNeg
    omega
  · have p := Int32.le_iff_toInt_le.mp h0
    have e0 : (0 : Int32).toInt = 0 := by decide
    rw [e0] at p
    have hlt : k.toNatClampNeg < 2147483648 := by
      have := Int32.toInt_lt k
      unfold Int32.toNatClampNeg
      omega
    refine Int32.toInt_inj.mp ?_
    have e9 := z_cla hlt
    have p9 := nI_pos' (n := k.toNatClampNeg) hlt
    have q9 := Int32.le_iff_toInt_le.mp p9
    rw [e0] at q9
    have e8 : (nI k.toNatClampNeg).toInt = ((nI k.toNatClampNeg).toNatClampNeg : Int) := by unfold Int32.toNatClampNeg at *; omega
    rw [e8, e9]
    unfold Int32.toNatClampNeg
    omega
def z_vl (x : Int32) : Prop := -999 ≤ x ∧ x ≤ 999
def z_mny (a b c : Int32) : Int32 := if a ≤ b then (b - a) / c + 1 else 0
end ZMb
