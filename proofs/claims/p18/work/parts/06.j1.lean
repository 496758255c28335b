abbrev z_E : Type := (Nat × Nat × (Nat → Value)) ⊕ (Nat × List Value)
abbrev z_W : Type := List z_E × (Nat → Option z_E)
def z_g (w : z_W) (n : Nat) : Option z_E := cond (Nat.blt n 1000) w.1[n]? (w.2 n)
def z_s (w : z_W) (n : Nat) (e : z_E) : z_W := cond (Nat.blt n 1000) (w.1.set n e, w.2) (w.1, fun m => cond (Nat.beq m n) (some e) (w.2 m))
def z_d (w : z_W) (n : Nat) : Prop := ∃ e, z_g w n = some e
theorem z_beq {m n : Nat} (h : m ≠ n) : Nat.beq m n = false := by
  cases hh : Nat.beq m n with
  | true => exact absurd (Nat.eq_of_beq_eq_true hh) h
  | false => rfl
theorem z_gs_ne {w : z_W} {n m : Nat} {e : z_E} (h : m ≠ n) : z_g (z_s w n e) m = z_g w m := by
  cases hb : Nat.blt n 1000 <;> cases hm : Nat.blt m 1000 <;> simp only [z_g, z_s, hb, hm, cond]
  · rw [z_beq h]
  · exact List.getElem?_set_ne (Ne.symm h)
theorem z_gs_self {w : z_W} {n : Nat} {e e0 : z_E} (h : z_g w n = some e0) : z_g (z_s w n e) n = some e := by
  cases hb : Nat.blt n 1000 <;> simp only [z_g, z_s, hb, cond] at h ⊢
  · rw [Nat.beq_refl]
  · have hl : n < w.1.length := (List.getElem?_eq_some_iff.mp h).1
    rw [List.getElem?_set_self hl]
theorem z_ds {w : z_W} {n : Nat} {e e0 : z_E} (h : z_g w n = some e0) (m : Nat) : z_d (z_s w n e) m ↔ z_d w m := by
  by_cases hm : m = n
  · subst hm
    exact ⟨fun _ => ⟨_, h⟩, fun _ => ⟨_, z_gs_self h⟩⟩
  · unfold z_d
    rw [z_gs_ne hm]
abbrev z_R : Type := (Nat → Nat) × (Nat → Option UInt32)
abbrev z_G : Type := (Nat → ClassId) × (Nat → Nat → Nat) × (Nat → ClassId) × Nat × (Nat → Nat → Prop) × Nat × (Nat → Int32)
abbrev z_dC (G : z_G) : Nat → ClassId := G.1
abbrev z_dI (G : z_G) : Nat → Nat → Nat := G.2.1
abbrev z_dA (G : z_G) : Nat → ClassId := G.2.2.1
abbrev z_b (G : z_G) : Nat := G.2.2.2.1
abbrev z_k (G : z_G) : Nat → Nat → Prop := G.2.2.2.2.1
abbrev z_sn (G : z_G) : Nat := G.2.2.2.2.2.1
abbrev z_sc (G : z_G) : Nat → Int32 := G.2.2.2.2.2.2
def z_cn (j : Nat) : UInt32 := (Int32.ofInt ((j : Int) - 128)).toUInt32
def z_cb (G : z_G) (q : Nat) (b : UInt32) : Prop := ∃ j, j < 256 ∧ z_k G (1000 + j) q ∧ b = z_cn j
def z_V (G : z_G) (R : z_R) (w : z_W) (v c : Value) : Prop := match v with
  | .int x => c = .int x
  | .long x => c = .long x
  | .null => c = .null
  | .ref n => z_d w n ∧ c = .ref (R.1 n)
  | .float b => ∃ q, c = .ref q ∧ (R.2 q = some b ∨ z_cb G q b)
  | .retAddr k => ∃ q, c = .ref q ∧ z_k G k q
  | .double _ => False
theorem z_V_cat {G : z_G} {R : z_R} {w : z_W} {v c : Value} (h : z_V G R w v c) : c.category = v.category := by
  cases v with
  | int x => have h : c = .int x := h; rw [h]
  | long x => have h : c = .long x := h; rw [h]
  | null => have h : c = .null := h; rw [h]
  | ref n => obtain ⟨-, h⟩ := h; rw [h]; rfl
  | float b => obtain ⟨q, h, -⟩ := h; rw [h]; rfl
  | retAddr k => obtain ⟨q, h, -⟩ := h; rw [h]; rfl
  | double b => exact h.elim
def z_L (P : Value → Value → Prop) : List Value → List Value → Prop
  | [], [] => True
  | a :: as, b :: bs => P a b ∧ z_L P as bs
  | _, _ => False
theorem z_Lc {P : Value → Value → Prop} {a : Value} {as l : List Value} (h : z_L P (a :: as) l) : ∃ b bs, l = b :: bs ∧ P a b ∧ z_L P as bs := by
  cases l with
  | nil => exact h.elim
  | cons b bs => exact ⟨b, bs, rfl, h.1, h.2⟩
theorem z_Ln {P : Value → Value → Prop} {l : List Value} (h : z_L P [] l) : l = [] := by
  cases l with
  | nil => rfl
  | cons b bs => exact h.elim
theorem z_Lm {P P' : Value → Value → Prop} (hP : ∀ a b, P a b → P' a b) : ∀ {as bs : List Value}, z_L P as bs → z_L P' as bs
  | [], [], _ => trivial
  | _ :: _, _ :: _, h => ⟨hP _ _ h.1, z_Lm hP h.2⟩
  | [], _ :: _, h => h.elim
  | _ :: _, [], h => h.elim
theorem z_Ll {P : Value → Value → Prop} : ∀ {as bs : List Value}, z_L P as bs → bs.length = as.length
  | [], [], _ => rfl
  | _ :: _, _ :: _, h => congrArg (· + 1) (z_Ll h.2)
  | [], _ :: _, h => h.elim
  | _ :: _, [], h => h.elim
theorem z_Lg {P : Value → Value → Prop} : ∀ {as bs : List Value} {k : Nat} {v : Value}, z_L P as bs → as[k]? = some v → ∃ c, bs[k]? = some c ∧ P v c
  | [], _, _, _, _, hk => by simp at hk
  | _ :: _, [], _, _, h, _ => h.elim
  | a :: as, b :: bs, 0, v, h, hk => ⟨b, rfl, by have e : a = v := Option.some.inj hk; rw [← e]; exact h.1⟩
  | a :: as, b :: bs, k + 1, v, h, hk => z_Lg (as := as) (bs := bs) (k := k) h.2 hk
theorem z_Ls {P : Value → Value → Prop} : ∀ {as bs : List Value} {k : Nat} {v c : Value}, z_L P as bs → P v c → z_L P (as.set k v) (bs.set k c)
  | [], [], _, _, _, _, _ => trivial
  | _ :: _, [], _, _, _, h, _ => h.elim
  | [], _ :: _, _, _, _, h, _ => h.elim
  | a :: as, b :: bs, 0, v, c, h, hv => ⟨hv, h.2⟩
  | a :: as, b :: bs, k + 1, v, c, h, hv => ⟨h.1, z_Ls (as := as) (bs := bs) (k := k) h.2 hv⟩
theorem z_Lapp {P : Value → Value → Prop} : ∀ {as as2 bs : List Value}, z_L P (as ++ as2) bs → ∃ b1 b2, bs = b1 ++ b2 ∧ z_L P as b1 ∧ z_L P as2 b2
  | [], as2, bs, h => ⟨[], bs, rfl, trivial, h⟩
  | a :: as, as2, [], h => h.elim
  | a :: as, as2, b :: bs, h => by
    obtain ⟨b1, b2, e, h1, h2⟩ := z_Lapp (as := as) (as2 := as2) (bs := bs) h.2
    exact ⟨b :: b1, b2, by rw [e]; rfl, ⟨h.1, h1⟩, h2⟩
theorem z_Lcat {P : Value → Value → Prop} : ∀ {as bs cs ds : List Value}, z_L P as bs → z_L P cs ds → z_L P (as ++ cs) (bs ++ ds)
  | [], [], _, _, _, h => h
  | _ :: _, [], _, _, h, _ => h.elim
  | [], _ :: _, _, _, h, _ => h.elim
  | a :: as, b :: bs, cs, ds, h, h2 => ⟨h.1, z_Lcat (as := as) (bs := bs) h.2 h2⟩
theorem z_Lrev {P : Value → Value → Prop} : ∀ {as bs : List Value}, z_L P as bs → z_L P as.reverse bs.reverse
  | [], [], _ => trivial
  | _ :: _, [], h => h.elim
  | [], _ :: _, h => h.elim
  | a :: as, b :: bs, h => by
    rw [List.reverse_cons, List.reverse_cons]
    exact z_Lcat (z_Lrev (as := as) (bs := bs) h.2) ⟨h.1, trivial⟩
def z_cat (l : List Value) : Nat := (l.map fun v => v.category).sum
theorem z_Lcs {G : z_G} {R : z_R} {w : z_W} : ∀ {as bs : List Value}, z_L (z_V G R w) as bs → (bs.map fun v => v.category).sum = z_cat as
  | [], [], _ => rfl
  | _ :: _, [], h => h.elim
  | [], _ :: _, h => h.elim
  | a :: as, b :: bs, h => by
    have e := z_Lcs (as := as) (bs := bs) h.2
    unfold z_cat at e ⊢
    simp only [List.map_cons, List.sum_cons]
    rw [e, z_V_cat h.1]
def z_LL (P : Value → Value → Prop) : List (Nat × Value) → List (Nat × Value) → Prop
  | [], [] => True
  | a :: as, b :: bs => (a.1 = b.1 ∧ P a.2 b.2) ∧ z_LL P as bs
  | _, _ => False
theorem z_LLm {P P' : Value → Value → Prop} (hP : ∀ a b, P a b → P' a b) : ∀ {as bs : List (Nat × Value)}, z_LL P as bs → z_LL P' as bs
  | [], [], _ => trivial
  | _ :: _, _ :: _, h => ⟨⟨h.1.1, hP _ _ h.1.2⟩, z_LLm hP h.2⟩
  | [], _ :: _, h => h.elim
  | _ :: _, [], h => h.elim
def z_find (lo : List (Nat × Value)) (i : Nat) : Option Value := match lo with
  | [] => none
  | q :: t => cond (Nat.beq q.1 i) (some q.2) (z_find t i)
theorem z_LLf {P : Value → Value → Prop} {i : Nat} {v : Value} : ∀ {as bs : List (Nat × Value)}, z_LL P as bs → z_find as i = some v → ∃ c, (i, c) ∈ bs ∧ P v c
  | [], _, _, hf => by simp [z_find] at hf
  | _ :: _, [], h, _ => h.elim
  | a :: as, b :: bs, h, hf => by
    unfold z_find at hf
    cases hb : Nat.beq a.1 i with
    | true =>
      rw [hb] at hf
      have e : a.2 = v := Option.some.inj hf
      have e1 : a.1 = i := Nat.eq_of_beq_eq_true hb
      refine ⟨b.2, ?_, e ▸ h.1.2⟩
      have e2 : b = (i, b.2) := by rw [← e1, h.1.1]
      rw [← e2]
      exact List.mem_cons_self
    | false =>
      rw [hb] at hf
      obtain ⟨c, h1, h2⟩ := z_LLf (as := as) (bs := bs) h.2 hf
      exact ⟨c, List.mem_cons_of_mem _ h1, h2⟩
def z_st (lo : List (Nat × Value)) (i : Nat) (v : Value) : List (Nat × Value) := (i, v) :: lo.filter (fun q => !(q.1 == i) && !(q.1 + 1 == i && q.2.category == 2))
def z_st2 (lo : List (Nat × Value)) (i : Nat) (v : Value) : List (Nat × Value) := (i, v) :: lo.filter (fun q => !(q.1 == i) && (!(q.1 == i + 1) && !(q.1 + 1 == i && q.2.category == 2)))
theorem z_LLfl {P : Value → Value → Prop} (hP : ∀ a b, P a b → b.category = a.category) (g : Nat → Nat → Bool) : ∀ {as bs : List (Nat × Value)}, z_LL P as bs → z_LL P (as.filter (fun q => g q.1 q.2.category)) (bs.filter (fun q => g q.1 q.2.category))
  | [], [], _ => trivial
  | _ :: _, [], h => h.elim
  | [], _ :: _, h => h.elim
  | a :: as, b :: bs, h => by
    have ih := z_LLfl hP g (as := as) (bs := bs) h.2
    have e : g b.1 b.2.category = g a.1 a.2.category := by rw [h.1.1, hP _ _ h.1.2]
    rw [List.filter_cons, List.filter_cons, e]
    cases g a.1 a.2.category with
    | true => exact ⟨h.1, ih⟩
    | false => exact ih
theorem z_LLst {P : Value → Value → Prop} (hP : ∀ a b, P a b → b.category = a.category) {as bs : List (Nat × Value)} {i : Nat} {v c : Value} (h : z_LL P as bs) (hv : P v c) : z_LL P (z_st as i v) (z_st bs i c) :=
  ⟨⟨rfl, hv⟩, z_LLfl hP (fun x y => !(x == i) && !(x + 1 == i && y == 2)) h⟩
theorem z_LLst2 {P : Value → Value → Prop} (hP : ∀ a b, P a b → b.category = a.category) {as bs : List (Nat × Value)} {i : Nat} {v c : Value} (h : z_LL P as bs) (hv : P v c) : z_LL P (z_st2 as i v) (z_st2 bs i c) :=
  ⟨⟨rfl, hv⟩, z_LLfl hP (fun x y => !(x == i) && (!(x == i + 1) && !(x + 1 == i && y == 2))) h⟩
theorem z_LLar {P : Value → Value → Prop} (hP : ∀ a b, P a b → b.category = a.category) : ∀ {as bs : List Value} {i : Nat}, z_L P as bs → z_LL P (lv_args i as) (lv_args i bs)
  | [], [], _, _ => trivial
  | _ :: _, [], _, h => h.elim
  | [], _ :: _, _, h => h.elim
  | a :: as, b :: bs, i, h => by
    unfold lv_args
    rw [hP _ _ h.1]
    exact ⟨⟨rfl, h.1⟩, z_LLar hP (as := as) (bs := bs) h.2⟩
def z_lo (G : z_G) (R : z_R) (w : z_W) (lo : List (Nat × Value)) (ls : Array Slot) (nL : Nat) : Prop := ∃ clo, lv_has ls nL clo ∧ z_LL (z_V G R w) lo clo
theorem z_lof {G : z_G} {R : z_R} {w : z_W} {lo : List (Nat × Value)} {ls : Array Slot} {nL i : Nat} {v : Value} (h : z_lo G R w lo ls nL) (hf : z_find lo i = some v) : ∃ c, ls[i]? = some (.val c) ∧ z_V G R w v c := by
  obtain ⟨clo, h1, h2⟩ := h
  obtain ⟨c, h3, h4⟩ := z_LLf h2 hf
  exact ⟨c, h1.2.2 _ h3, h4⟩
theorem z_lom {G : z_G} {R R' : z_R} {w w' : z_W} {lo : List (Nat × Value)} {ls : Array Slot} {nL : Nat} (hP : ∀ a b, z_V G R w a b → z_V G R' w' a b) (h : z_lo G R w lo ls nL) : z_lo G R' w' lo ls nL := by
  obtain ⟨clo, h1, h2⟩ := h
  exact ⟨clo, h1, z_LLm hP h2⟩
abbrev z_cls : List vw_C := vwCl
def z_tyl : List FieldType := [.int, .boolean, .byte, .object "java/lang/Object", .object "Loopdefaults$Row", .object "Loopdefaults$Table", .object "Loopdefaults$Hearer", .object "LoopdefaultsModel$Hearer", .array .int]
def z_X (G : z_G) (R : z_R) (w : z_W) (e : z_E) (a : Nat) (H : Heap) : Prop := match e with
  | .inl x => ∃ z : Nat → Value, H[a]? = some (arrV (z_dA G x.1) x.2.1 z) ∧ ∀ j, j < x.2.1 → z_V G R w (x.2.2 j) (z j)
  | .inr o => ∃ (q : vw_C) (gs : List Value), z_cls[o.1]? = some q ∧ o.2.length = q.2.2 ∧ t_OB a (z_dC G o.1) q.2.2 (z_dI G o.1) H (vp_V gs) ∧ z_L (z_V G R w) o.2 gs
theorem z_X.kept {G : z_G} {R R' : z_R} {w w' : z_W} {e : z_E} {a : Nat} {H H' : Heap} (h : z_X G R w e a H) (hV : ∀ v c, z_V G R w v c → z_V G R' w' v c) (hH : H'[a]? = H[a]?) : z_X G R' w' e a H' := by
  cases e with
  | inl x =>
    obtain ⟨z, h1, h2⟩ := h
    exact ⟨z, hH.trans h1, fun j hj => hV _ _ (h2 j hj)⟩
  | inr o =>
    obtain ⟨q, gs, h1, h2, h3, h4⟩ := h
    exact ⟨q, gs, h1, h2, h3.kept hH, z_Lm hV h4⟩
theorem z_X.lt {G : z_G} {R : z_R} {w : z_W} {e : z_E} {a : Nat} {H : Heap} (h : z_X G R w e a H) : a < H.size := by
  cases e with
  | inl x => obtain ⟨z, h1, -⟩ := h; exact (Array.getElem?_eq_some_iff.mp h1).1
  | inr o => obtain ⟨q, gs, -, -, ⟨cell, h1, -⟩, -⟩ := h; exact (Array.getElem?_eq_some_iff.mp h1).1
def z_P (G : z_G) (R : z_R) (w : z_W) (H : Heap) : Prop :=
  (∀ (n : Nat) (e : z_E), z_g w n = some e → z_X G R w e (R.1 n) H ∧ z_b G ≤ R.1 n) ∧ (∀ n m : Nat, z_d w n → z_d w m → R.1 n = R.1 m → n = m) ∧
  (∀ (q : Nat) (b : UInt32), R.2 q = some b → t_OB q (z_dC G 2) 1 (z_dI G 2) H (fun _ => .int b.toInt32) ∧ ∀ n : Nat, z_d w n → R.1 n ≠ q)
def z_T (R0 : z_R) (w0 : z_W) (sz : Nat) (R : z_R) (w : z_W) : Prop :=
  (∀ n : Nat, z_d w0 n → z_d w n ∧ R.1 n = R0.1 n) ∧ (∀ (q : Nat) (b : UInt32), R0.2 q = some b → R.2 q = some b) ∧
  (∀ n : Nat, z_d w n → ¬ z_d w0 n → sz ≤ R.1 n) ∧ (∀ (q : Nat) (b : UInt32), R.2 q = some b → R0.2 q = none → sz ≤ q)
theorem z_T.rf {R : z_R} {w : z_W} {sz : Nat} : z_T R w sz R w := ⟨fun _ h => ⟨h, rfl⟩, fun _ _ h => h, fun _ h h2 => absurd h h2, fun _ _ h h2 => by rw [h] at h2; cases h2⟩
theorem z_T.V {G : z_G} {R0 R : z_R} {w0 w : z_W} {sz : Nat} (h : z_T R0 w0 sz R w) (v c : Value) (hv : z_V G R0 w0 v c) : z_V G R w v c := by
  cases v with
  | int x => exact hv
  | long x => exact hv
  | null => exact hv
  | ref n => exact ⟨(h.1 n hv.1).1, by rw [(h.1 n hv.1).2]; exact hv.2⟩
  | float b => obtain ⟨q, h1, h2⟩ := hv; exact ⟨q, h1, h2.imp (h.2.1 q b) id⟩
  | retAddr k => exact hv
  | double b => exact hv
theorem z_T.tr {R0 R1 R2 : z_R} {w0 w1 w2 : z_W} {s1 s2 : Nat} (h : z_T R0 w0 s1 R1 w1) (h2 : z_T R1 w1 s2 R2 w2) (hs : s1 ≤ s2) : z_T R0 w0 s1 R2 w2 := by
  refine ⟨fun n hn => ⟨(h2.1 n (h.1 n hn).1).1, ((h2.1 n (h.1 n hn).1).2).trans (h.1 n hn).2⟩, fun q b hq => h2.2.1 q b (h.2.1 q b hq), fun n hn hno => ?_, fun q b hq hno => ?_⟩
  · by_cases h1 : z_d w1 n
    · rw [(h2.1 n h1).2]
      exact h.2.2.1 n h1 hno
    · exact Nat.le_trans hs (h2.2.2.1 n hn h1)
  · cases h1 : R1.2 q with
    | none => exact Nat.le_trans hs (h2.2.2.2 q b hq h1)
    | some b1 => exact h.2.2.2 q b1 h1 hno
def z_A (R0 : z_R) (w0 : z_W) (sz : Nat) : Nat → Prop := fun q => (∃ n, z_d w0 n ∧ R0.1 n = q) ∨ sz ≤ q
theorem z_T.A {R0 R : z_R} {w0 w : z_W} {sz n : Nat} (h : z_T R0 w0 sz R w) (hn : z_d w n) : z_A R0 w0 sz (R.1 n) := by
  by_cases h0 : z_d w0 n
  · exact Or.inl ⟨n, h0, ((h.1 n h0).2).symm⟩
  · exact Or.inr (h.2.2.1 n hn h0)
theorem z_A.b {G : z_G} {R0 : z_R} {w0 : z_W} {H : Heap} (hP : z_P G R0 w0 H) (hb : z_b G ≤ H.size) {q : Nat} (h : z_A R0 w0 H.size q) : z_b G ≤ q := by
  rcases h with ⟨n, ⟨e, he⟩, rfl⟩ | h
  · exact (hP.1 n e he).2
  · exact Nat.le_trans hb h
def z_fr (G : z_G) (A : Nat → Prop) (H0 H : Heap) (locs : List Loc) : Prop := H0.size ≤ H.size ∧ (∀ q : Nat, q < H0.size → ¬ A q → H[q]? = H0[q]?) ∧ ∀ x ∈ locs, z_b G ≤ x.base
